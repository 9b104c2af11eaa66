/-! the reference reads an item, as the class does -/
section TQ
variable {d : Nat} {h : hT} {KV : hT → Prop} {t : Int → Int} {sz : Int} {S : tkT} {P : Int → Int}
/-- an item told well: the heap behind it -/
def GI (t : Int → Int) (sz : Int) (h : hT) (m i : Int) (P : Int → Int) (A : itT) (g : hT) : Prop := MR h g ∧ MS t sz g A.2.1 0 ∧ g 108 25 = i + 1 ∧ g 108 26 = A.2.2 8 ∧ RX (g 118) m P (g 108 24) A.2.2 ∧ ∀ j, j < 5 * m → g 118 j = h 118 j
def BI (t : Int → Int) (sz : Int) (h : hT) (A : itT) (g : hT) : Prop := MR h g ∧ MS t sz g A.2.1 1
theorem MS_rw {w : Int} {h g : hT} (H : MS t sz h S w) (g0 : ∀ x, x ≠ 108 → x ≠ 118 → g x = h x) (g1 : ∀ j, j ≠ 24 → g 108 j = h 108 j) : MS t sz g S w := MS_f H (fun j _ _ => g1 j (by omega)) (g0 116 (by decide) (by decide))
theorem MR_rw {h g : hT} (g0 : ∀ x, x ≠ 108 → x ≠ 118 → g x = h x) (g1 : ∀ j, j ≠ 24 → g 108 j = h 108 j) : MR h g := ⟨g0, fun j hj => g1 j (by omega)⟩
theorem m_readItem {m i : Int} (H : MS t sz h S 0) (hO : okT P) (h4 : 0 ≤ P 44 ∧ P 44 ≤ 1) (em : h 108 24 = m) (hm : 0 ≤ m ∧ m ≤ 230) (ei : h 108 25 = i) (e8 : h 108 26 = P 8)
    (k1 : (itF t sz S P).1 = true → ∀ g, GI t sz h m i P (itF t sz S P) g → KV g) (k0 : ¬ (itF t sz S P).1 = true → ∀ g, BI t sz h (itF t sz S P) g → KV g) : ClV (d + 5) mX8_readItem [vr 108] h KV := by
  have kb := kd_b t S
  have h8 := hO.1
  -- a tail that is wrong already
  have w304 : ∀ (g : hT), ¬ (itF t sz S P).1 = true → BI t sz h (itF t sz S P) g → ∀ x1 x2 x3 x4, Yr (d + 4) mX8_readItem 304 [vr 108, x1, x2, x3, x4] [] g (rV KV) := by
    intro g q b x1 x2 x3 x4
    exact yr_vret dX8_readItem_304 rfl (k0 q g b)
  have w117 : ∀ (g : hT) (l a b : Int), ¬ (itF t sz S P).1 = true → BI t sz h (itF t sz S P) g → g 108 24 = m → ∀ x4, Yr (d + 4) mX8_readItem 117 [vr 108, vi (kdF t S), vi a, vi b, x4] [vi l] g (rV KV) := by
    intro g l a b q bi gm x4
    refine yr_istore4 (pq := 119) rfl dX8_readItem_117 ?_
    refine yr_aload_n (pq := 120) rfl dX8_readItem_119 rfl ?_
    refine yr_iload_n (pq := 121) rfl dX8_readItem_120 rfl ?_
    refine yr_iload_n (pq := 122) rfl dX8_readItem_121 rfl ?_
    refine yr_iload_n (pq := 123) rfl dX8_readItem_122 rfl ?_
    refine yr_iload (pq := 125) rfl dX8_readItem_123 rfl ?_
    refine yr_aload_n (pq := 126) rfl dX8_readItem_125 rfl ?_
    refine yr_ldc_ws (pq := 129) (t := 8) rfl dX8_readItem_126 kT_8_312 kS_8_312 ?_
    refine yr_vI1 (pq := 132) rfl dX8_readItem_129 kM_8_309 (by decide) (by decide) (Nat.le_of_ble_eq_true rfl) (m_isNext (by decide) bi.2 (Or.inr rfl) (fun q9 => absurd q9 (by decide)) (fun _ => ?_))
    refine yr_if_eq (pq := 135) (t := 139) rfl dX8_readItem_132 rfl (by decide) (fun _ => ?_) (fun q9 => absurd (by decide) q9)
    refine yr_iconst (pq := 140) rfl dX8_readItem_139 ?_
    refine yr_vV5 (pq := 143) rfl dX8_readItem_140 kM_8_314 (by decide) (by decide) cat0 (m_row gm (by omega) (fun f f0 f1 f2 f3 f4 => ?_))
    refine yr_goto (t := 304) dX8_readItem_143 rfl ?_
    exact w304 f q ⟨MR_t bi.1 (MR_rw f0 f1), MS_rw bi.2 f0 f1⟩ _ _ _ _
  have w96 : ∀ (g : hT) (a b : Int), ¬ (itF t sz S P).1 = true → BI t sz h (itF t sz S P) g → g 108 24 = m → ∀ x4, Yr (d + 4) mX8_readItem 96 [vr 108, vi (kdF t S), vi a, vi b, x4] [] g (rV KV) := by
    intro g a b q bi gm x4
    refine yr_aload_n (pq := 97) rfl dX8_readItem_96 rfl ?_
    refine yr_ldc_ws (pq := 100) (t := 7) rfl dX8_readItem_97 kT_8_307 kS_8_307 ?_
    refine yr_vI1 (pq := 103) rfl dX8_readItem_100 kM_8_309 (by decide) (by decide) cat0 (m_isNext (by decide) bi.2 (Or.inr rfl) (fun q9 => absurd q9 (by decide)) (fun _ => ?_))
    refine yr_if_eq (pq := 106) (t := 116) rfl dX8_readItem_103 rfl (by decide) (fun _ => ?_) (fun q9 => absurd (by decide) q9)
    refine yr_iconst (pq := 117) rfl dX8_readItem_116 ?_
    exact w117 g 5 a b q bi gm _
  have w55 : ∀ (g : hT) (a : Int), ¬ (itF t sz S P).1 = true → BI t sz h (itF t sz S P) g → g 108 24 = m → ∀ x3 x4, Yr (d + 4) mX8_readItem 55 [vr 108, vi (kdF t S), vi a, x3, x4] [] g (rV KV) := by
    intro g a q bi gm x3 x4
    refine yr_aload_n (pq := 56) rfl dX8_readItem_55 rfl ?_
    refine yr_getI (pq := 59) 20 rfl dX8_readItem_56 kF_8_264 (by decide) rfl (by decide) ?_
    refine yr_istore3 (pq := 60) rfl dX8_readItem_59 ?_
    refine yr_aload_n (pq := 61) rfl dX8_readItem_60 rfl ?_
    refine yr_aload_n (pq := 62) rfl dX8_readItem_61 rfl ?_
    refine yr_getI (pq := 65) 21 rfl dX8_readItem_62 kF_8_277 (by decide) rfl (by decide) ?_
    rw [bi.2.2.2.2.2]
    refine yr_if_ne (pq := 68) (t := 92) rfl dX8_readItem_65 rfl (by omega) (fun _ => ?_) (fun q9 => absurd q9 (by decide))
    refine yr_iconst (pq := 93) rfl dX8_readItem_92 ?_
    refine yr_vV1 (pq := 96) rfl dX8_readItem_93 kM_8_284 (by decide) (by decide) cat0 (m_mustW bi.2 (fun f f0 f1 => ?_))
    exact w96 f a _ q ⟨MR_t bi.1 (MR_w f0), f1⟩ (by rw [f0.2 24 (by decide)]; exact gm) _
  have w47 : ∀ (g : hT), ¬ (itF t sz S P).1 = true → BI t sz h (itF t sz S P) g → g 108 24 = m → ∀ x2 x3 x4, Yr (d + 4) mX8_readItem 47 [vr 108, vi (kdF t S), x2, x3, x4] [] g (rV KV) := by
    intro g q bi gm x2 x3 x4
    refine yr_aload_n (pq := 48) rfl dX8_readItem_47 rfl ?_
    refine yr_iconst (pq := 49) rfl dX8_readItem_48 ?_
    refine yr_bipush (pq := 51) rfl dX8_readItem_49 rfl ?_
    refine yr_vI2 (pq := 54) rfl dX8_readItem_51 kM_8_304 (by decide) (by decide) cat0 (m_number bi.2 (Or.inr rfl) (by decide) (by decide) (fun q9 => absurd q9 (by decide)) (fun _ f f0 f1 => ?_))
    refine yr_istore2 (pq := 55) rfl dX8_readItem_54 ?_
    exact w55 f _ q ⟨MR_t bi.1 (MR_w f0), f1⟩ (by rw [f0.2 24 (by decide)]; exact gm) _ _
  have w190 : ∀ (g : hT), ¬ (itF t sz S P).1 = true → BI t sz h (itF t sz S P) g → ∀ x1 x2 x3 x4, Yr (d + 4) mX8_readItem 190 [vr 108, x1, x2, x3, x4] [] g (rV KV) := by
    intro g q bi x1 x2 x3 x4
    refine yr_aload_n (pq := 191) rfl dX8_readItem_190 rfl ?_
    refine yr_ldc_ws (pq := 194) (t := 11) rfl dX8_readItem_191 kT_8_322 kS_8_322 ?_
    refine yr_vI1 (pq := 197) rfl dX8_readItem_194 kM_8_309 (by decide) (by decide) cat0 (m_isNext (by decide) bi.2 (Or.inr rfl) (fun q9 => absurd q9 (by decide)) (fun _ => ?_))
    refine yr_if_eq (pq := 200) (t := 216) rfl dX8_readItem_197 rfl (by decide) (fun _ => ?_) (fun q9 => absurd (by decide) q9)
    refine yr_goto (t := 304) dX8_readItem_216 rfl ?_
    exact w304 g q bi _ _ _ _
  -- one row told well
  have row1 : ∀ (g f : hT) (A : itT) (w a b c e : Int), itF t sz S P = A → A.1 = true → A.2.2 = soF P w a b c e → okF P w a b c e → MR h g → MS t sz g A.2.1 0 → g 108 25 = i + 1 → g 108 26 = A.2.2 8 → g 108 24 = m → (∀ j, j < 5 * m → g 118 j = h 118 j) → (∀ x, x ≠ 108 → x ≠ 118 → f x = g x) → (∀ j, j ≠ 24 → f 108 j = g 108 j) → f 108 24 = m + 1 → (f 118 (5 * m) = w ∧ f 118 (5 * m + 1) = a ∧ f 118 (5 * m + 2) = b ∧ f 118 (5 * m + 3) = c ∧ f 118 (5 * m + 4) = e) → (∀ j, j < 5 * m → f 118 j = g 118 j) → KV f := by
    intro g f A w a b c e eA q eP ok g0 g1 g2 g3 g4 g5 f0 f1 f2 f3 f4
    refine k1 (by rw [eA]; exact q) f ?_
    rw [eA]
    refine ⟨MR_t g0 (MR_rw f0 f1), MS_rw g1 f0 f1, by rw [f1 25 (by decide)]; exact g2, by rw [f1 26 (by decide)]; exact g3, ?_, fun j hj => by rw [f4 j hj]; exact g5 j hj⟩
    rw [f2]
    refine Or.inr (Or.inl ⟨rfl, ?_, ?_⟩)
    · unfold okR; rw [f3.1, f3.2.1, f3.2.2.1, f3.2.2.2.1, f3.2.2.2.2]; exact ok
    · unfold soR; rw [f3.1, f3.2.1, f3.2.2.1, f3.2.2.2.1, f3.2.2.2.2]; exact eP
  -- behind both corners of a street
  have g117 : ∀ (g : hT) (Z : tkT) (l a b : Int), itF t sz S P = umF t sz Z P (kdF t S) a b l → (0 ≤ kdF t S ∧ kdF t S ≤ 6) → P 8 < 14 → (0 ≤ a ∧ a ≤ 7) → (0 ≤ b ∧ b ≤ 7) → a ≠ b → (1 ≤ l ∧ l ≤ 20) → MR h g → MS t sz g Z 0 → g 108 25 = i + 1 → g 108 26 = P 8 + 1 → g 108 24 = m → (∀ j, j < 5 * m → g 118 j = h 118 j) → ∀ x4, Yr (d + 4) mX8_readItem 117 [vr 108, vi (kdF t S), vi a, vi b, x4] [vi l] g (rV KV) := by
    intro g Z l a b eA hk h14 ha hb hab hl g0 g1 g2 g3 g4 g5 x4
    have so : ∀ u, soF P (kdF t S) a b l u = addN P (kdF t S) a b l u := fun u => by unfold soF; rw [if_neg (by omega), if_neg (by omega), if_neg (by omega), if_neg (by omega)]
    have ok : ∀ u, (0 ≤ u ∧ u ≤ 1) → okF P (kdF t S) a b l u := fun u hu => Or.inr (Or.inr (Or.inr (Or.inr ⟨hk, h14, ha, hb, hab, hl, hu⟩)))
    unfold umF at eA
    refine yr_istore4 (pq := 119) rfl dX8_readItem_117 ?_
    refine yr_aload_n (pq := 120) rfl dX8_readItem_119 rfl ?_
    refine yr_iload_n (pq := 121) rfl dX8_readItem_120 rfl ?_
    refine yr_iload_n (pq := 122) rfl dX8_readItem_121 rfl ?_
    refine yr_iload_n (pq := 123) rfl dX8_readItem_122 rfl ?_
    refine yr_iload (pq := 125) rfl dX8_readItem_123 rfl ?_
    refine yr_aload_n (pq := 126) rfl dX8_readItem_125 rfl ?_
    refine yr_ldc_ws (pq := 129) (t := 8) rfl dX8_readItem_126 kT_8_312 kS_8_312 ?_
    refine yr_vI1 (pq := 132) rfl dX8_readItem_129 kM_8_309 (by decide) (by decide) (Nat.le_of_ble_eq_true rfl) (m_isNext (by decide) g1 (Or.inl rfl) (fun _ q e e0 e1 => ?_) (fun q => ?_))
    · rw [if_pos q] at eA
      have em' : e 108 24 = m := by rw [e0.2 24 (by decide)]; exact g4
      refine yr_if_eq (pq := 135) (t := 139) rfl dX8_readItem_132 rfl (by decide) (fun q9 => absurd q9 (by decide)) (fun _ => ?_)
      refine yr_iconst (pq := 136) rfl dX8_readItem_135 ?_
      refine yr_goto (t := 140) dX8_readItem_136 rfl ?_
      refine yr_vV5 (pq := 143) rfl dX8_readItem_140 kM_8_314 (by decide) (by decide) cat0 (m_row em' (by omega) (fun f f0 f1 f2 f3 f4 => ?_))
      refine yr_goto (t := 304) dX8_readItem_143 rfl ?_
      refine yr_vret dX8_readItem_304 rfl (row1 e f _ _ _ _ _ _ eA rfl (so 1).symm (ok 1 (by decide)) (MR_t g0 (MR_w e0)) e1 (by rw [e0.2 25 (by decide)]; exact g2) ?_ em' (fun j hj => by rw [e0.1 118 (by decide)]; exact g5 j hj) f0 f1 f2 f3 f4)
      rw [e0.2 26 (by decide), g3]
      exact (addN_8 (N := P) (kd := kdF t S) (a := a) (b := b) (l := l) (u := 1)).symm
    · have ns : ¬ wdF t Z 8 = true := by
        rcases q with z | z
        · exact absurd z (by decide)
        · exact z
      rw [if_neg ns] at eA
      refine yr_if_eq (pq := 135) (t := 139) rfl dX8_readItem_132 rfl (by decide) (fun _ => ?_) (fun q9 => absurd (by decide) q9)
      refine yr_iconst (pq := 140) rfl dX8_readItem_139 ?_
      refine yr_vV5 (pq := 143) rfl dX8_readItem_140 kM_8_314 (by decide) (by decide) cat0 (m_row g4 (by omega) (fun f f0 f1 f2 f3 f4 => ?_))
      refine yr_goto (t := 304) dX8_readItem_143 rfl ?_
      refine yr_vret dX8_readItem_304 rfl (row1 g f _ _ _ _ _ _ eA rfl (so 0).symm (ok 0 (by decide)) g0 g1 g2 ?_ g4 g5 f0 f1 f2 f3 f4)
      rw [g3]
      exact (addN_8 (N := P) (kd := kdF t S) (a := a) (b := b) (l := l) (u := 0)).symm
  refine cl_in (al := [vr 108, .null, .null, .null, .null]) rfl (Nat.le_of_ble_eq_true rfl) (by simp [vi_cat, vr_cat, vs_cat]) ?_
  refine yr_aload_n (pq := 1) rfl dX8_readItem_0 rfl ?_
  refine yr_vI0 (pq := 4) rfl dX8_readItem_1 kM_8_295 (by decide) (by decide) cat0 (m_kindTold H.1 H.2.2.1 (Int.le_refl 0) H.2.2.2.1 ?_)
  refine yr_istore1 (pq := 5) rfl dX8_readItem_4 ?_
  refine yr_aload_n (pq := 6) rfl dX8_readItem_5 rfl ?_
  refine yr_dup (pq := 7) rfl dX8_readItem_6 rfl ?_
  refine yr_getI (pq := 10) 25 rfl dX8_readItem_7 kF_8_298 (by decide) rfl (by decide) ?_
  refine yr_iconst (pq := 11) rfl dX8_readItem_10 ?_
  refine yr_iadd (pq := 12) rfl dX8_readItem_11 ?_
  refine yr_putI (pq := 15) 25 rfl dX8_readItem_12 kF_8_298 (by decide) rfl rfl (by decide) ?_
  refine yr_iload_n (pq := 16) rfl dX8_readItem_15 rfl ?_
  rw [ei]
  have H1 : MS t sz (up h 108 25 (i + 1)) S 0 := MS_f H (fun j _ _ => up_k (by omega)) (up_ne (by decide))
  have m1 : MR h (up h 108 25 (i + 1)) := MR_u (by decide)
  have f25 : up h 108 25 (i + 1) 108 25 = i + 1 := up_s _ _ _ _
  have f26 : up h 108 25 (i + 1) 108 26 = P 8 := by rw [up_k (by decide)]; exact e8
  have f24 : up h 108 25 (i + 1) 108 24 = m := by rw [up_k (by decide)]; exact em
  have f118 : up h 108 25 (i + 1) 118 = h 118 := up_ne (by decide)
  generalize up h 108 25 (i + 1) = f at H1 m1 f25 f26 f24 f118 ⊢
  refine yr_if_lt (pq := 19) (t := 146) rfl dX8_readItem_16 rfl (by omega) (fun q1 => ?_) (fun q1 => ?_)
  · have eI : itF t sz S P = if wdF t S 9 = true then sp1 t sz (nx t sz S) P else if wdF t S 12 = true then qu1 t sz (nx t sz S) P else if wdF t S 13 = true then (true, nx t sz S, ur P 44 1) else if wdF t S 14 = true then (true, nx t sz S, ur P 44 0) else (false, S, P) := by unfold itF; rw [if_neg (by omega)]
    refine yr_aload_n (pq := 147) rfl dX8_readItem_146 rfl ?_
    refine yr_ldc_ws (pq := 150) (t := 9) rfl dX8_readItem_147 kT_8_318 kS_8_318 ?_
    refine yr_vI1 (pq := 153) rfl dX8_readItem_150 kM_8_309 (by decide) (by decide) cat0 (m_isNext (by decide) H1 (Or.inl rfl) (fun _ q2 e e0 e1 => ?_) (fun q2 => ?_))
    · rw [if_pos q2] at eI
      unfold sp1 at eI
      have me := MR_t m1 (MR_w e0)
      refine yr_if_eq (pq := 156) (t := 219) rfl dX8_readItem_153 rfl (by decide) (fun q9 => absurd q9 (by decide)) (fun _ => ?_)
      refine yr_aload_n (pq := 157) rfl dX8_readItem_156 rfl ?_
      refine yr_iconst (pq := 158) rfl dX8_readItem_157 ?_
      refine yr_bipush (pq := 160) rfl dX8_readItem_158 rfl ?_
      refine yr_vI2 (pq := 163) rfl dX8_readItem_160 kM_8_304 (by decide) (by decide) cat0 (m_number e1 (Or.inl rfl) (by decide) (by decide) (fun _ q3 g g0 g1 => ?_) (fun q3 g g0 g1 => ?_))
      · rw [if_pos q3] at eI
        have q3b := nmB_t.mp q3
        have mg := MR_t me (MR_w g0)
        have g24 : g 108 24 = m := by rw [g0.2 24 (by decide), e0.2 24 (by decide)]; exact f24
        have g25 : g 108 25 = i + 1 := by rw [g0.2 25 (by decide), e0.2 25 (by decide)]; exact f25
        have g26 : g 108 26 = P 8 := by rw [g0.2 26 (by decide), e0.2 26 (by decide)]; exact f26
        have g118 : g 118 = h 118 := by rw [g0.1 118 (by decide), e0.1 118 (by decide)]; exact f118
        -- the rain, behind the sun
        have rain : ∀ (u : hT) (Z : tkT) (Q : Int → Int) (n : Int), itF t sz S P = weF t sz Z 11 (32 + (nx t sz S).2.2.2) Q → MR h u → MS t sz u Z 0 → u 108 25 = i + 1 → u 108 26 = Q 8 → u 108 24 = n → (n = m ∨ n = m + 1) → RX (u 118) m P n Q → (∀ j, j < 5 * m → u 118 j = h 118 j) → Yr (d + 4) mX8_readItem 190 [vr 108, vi (kdF t S), vi (nx t sz S).2.2.2, .null, .null] [] u (rV KV) := by
          intro u Z Q n eA u0 u1 u2 u3 u4 hn ux u5
          unfold weF at eA
          refine yr_aload_n (pq := 191) rfl dX8_readItem_190 rfl ?_
          refine yr_ldc_ws (pq := 194) (t := 11) rfl dX8_readItem_191 kT_8_322 kS_8_322 ?_
          refine yr_vI1 (pq := 197) rfl dX8_readItem_194 kM_8_309 (by decide) (by decide) cat0 (m_isNext (by decide) u1 (Or.inl rfl) (fun _ q4 v v0 v1 => ?_) (fun q4 => ?_))
          · rw [if_pos q4] at eA
            refine yr_if_eq (pq := 200) (t := 216) rfl dX8_readItem_197 rfl (by decide) (fun q9 => absurd q9 (by decide)) (fun _ => ?_)
            refine yr_aload_n (pq := 201) rfl dX8_readItem_200 rfl ?_
            refine yr_bipush (pq := 203) rfl dX8_readItem_201 rfl ?_
            refine yr_iload_n (pq := 204) rfl dX8_readItem_203 rfl ?_
            refine yr_aload_n (pq := 205) rfl dX8_readItem_204 rfl ?_
            refine yr_iconst (pq := 206) rfl dX8_readItem_205 ?_
            refine yr_bipush (pq := 208) rfl dX8_readItem_206 rfl ?_
            refine yr_vI2 (pq := 211) rfl dX8_readItem_208 kM_8_304 (by decide) (by decide) (Nat.le_of_ble_eq_true rfl) (m_number v1 (Or.inl rfl) (by decide) (by decide) (fun _ q5 y y0 y1 => ?_) (fun q5 y y0 y1 => ?_))
            · rw [if_pos q5] at eA
              have q5b := nmB_t.mp q5
              have yn : y 108 24 = n := by rw [y0.2 24 (by decide), v0.2 24 (by decide)]; exact u4
              have y118 : y 118 = u 118 := by rw [y0.1 118 (by decide), v0.1 118 (by decide)]
              refine yr_iconst (pq := 212) rfl dX8_readItem_211 ?_
              refine yr_iconst (pq := 213) rfl dX8_readItem_212 ?_
              refine yr_vV5 (pq := 216) rfl dX8_readItem_213 kM_8_314 (by decide) (by decide) cat0 (m_row yn (by omega) (fun x x0 x1 x2 x3 x4 => ?_))
              refine yr_goto (t := 304) dX8_readItem_216 rfl ?_
              refine yr_vret dX8_readItem_304 rfl (k1 (by rw [eA]) x ?_)
              rw [eA]
              refine ⟨MR_t (MR_t (MR_t u0 (MR_w v0)) (MR_w y0)) (MR_rw x0 x1), MS_rw y1 x0 x1, ?_, ?_, ?_, fun j hj => ?_⟩
              · rw [x1 25 (by decide), y0.2 25 (by decide), v0.2 25 (by decide)]; exact u2
              · rw [x1 26 (by decide), y0.2 26 (by decide), v0.2 26 (by decide), u3]
                show Q 8 = ur Q _ _ 8
                rw [ur_o (by omega)]
              · rw [x2]
                have okN : okR (x 118) n Q := by unfold okR; rw [x3.1, x3.2.1, x3.2.2.1, x3.2.2.2.1, x3.2.2.2.2]; exact Or.inr (Or.inl ⟨rfl, q3b.2, q5b.2⟩)
                have soN : soR (x 118) n Q = ur Q (32 + (nx t sz S).2.2.2) (nx t sz Z).2.2.2 := by unfold soR soF; rw [x3.1, x3.2.1, x3.2.2.1, if_neg (by decide), if_pos rfl]
                rcases ux with ⟨z1, z2⟩ | ⟨z1, z2, z3⟩ | ⟨z1, -⟩
                · subst z2
                  subst z1
                  exact Or.inr (Or.inl ⟨rfl, okN, soN.symm⟩)
                · have e1 : ∀ j, j < 5 * m + 5 → x 118 j = u 118 j := fun j hj => by rw [x4 j (by omega), y118]
                  have e2 : soR (x 118) m P = soR (u 118) m P := by unfold soR; rw [e1 _ (by omega), e1 _ (by omega), e1 _ (by omega), e1 _ (by omega), e1 _ (by omega)]
                  have e3 : okR (x 118) m P := by
                    unfold okR at z2 ⊢
                    rw [e1 _ (by omega), e1 _ (by omega), e1 _ (by omega), e1 _ (by omega), e1 _ (by omega)]; exact z2
                  subst z1
                  refine Or.inr (Or.inr ⟨by omega, e3, ?_, ?_⟩)
                  · rw [e2, ← z3]; exact okN
                  · rw [e2, ← z3]; exact soN.symm
                · omega
              · rw [x4 j (by omega), y118]; exact u5 j hj
            · have ns : ¬ nmB (nx t sz Z) 0 9 = true := by
                rcases q5 with z | z
                · exact absurd z (by decide)
                · exact z
              rw [if_neg ns] at eA
              have yn : y 108 24 = n := by rw [y0.2 24 (by decide), v0.2 24 (by decide)]; exact u4
              refine yr_iconst (pq := 212) rfl dX8_readItem_211 ?_
              refine yr_iconst (pq := 213) rfl dX8_readItem_212 ?_
              refine yr_vV5 (pq := 216) rfl dX8_readItem_213 kM_8_314 (by decide) (by decide) cat0 (m_row yn (by omega) (fun x x0 x1 x2 x3 x4 => ?_))
              refine yr_goto (t := 304) dX8_readItem_216 rfl ?_
              refine w304 x (by rw [eA]; exact Bool.false_ne_true) ?_ _ _ _ _
              rw [eA]
              exact ⟨MR_t (MR_t (MR_t u0 (MR_w v0)) (MR_w y0)) (MR_rw x0 x1), MS_rw y1 x0 x1⟩
          · have ns : ¬ wdF t Z 11 = true := by
              rcases q4 with z | z
              · exact absurd z (by decide)
              · exact z
            rw [if_neg ns] at eA
            refine yr_if_eq (pq := 200) (t := 216) rfl dX8_readItem_197 rfl (by decide) (fun _ => ?_) (fun q9 => absurd (by decide) q9)
            refine yr_goto (t := 304) dX8_readItem_216 rfl ?_
            refine yr_vret dX8_readItem_304 rfl (k1 (by rw [eA]) u ?_)
            rw [eA]
            exact ⟨u0, u1, u2, u3, by rw [u4]; exact ux, u5⟩
        unfold weF at eI
        refine yr_istore2 (pq := 164) rfl dX8_readItem_163 ?_
        refine yr_aload_n (pq := 165) rfl dX8_readItem_164 rfl ?_
        refine yr_ldc_ws (pq := 168) (t := 10) rfl dX8_readItem_165 kT_8_320 kS_8_320 ?_
        refine yr_vI1 (pq := 171) rfl dX8_readItem_168 kM_8_309 (by decide) (by decide) cat0 (m_isNext (by decide) g1 (Or.inl rfl) (fun _ q4 v v0 v1 => ?_) (fun q4 => ?_))
        · rw [if_pos q4] at eI
          refine yr_if_eq (pq := 174) (t := 190) rfl dX8_readItem_171 rfl (by decide) (fun q9 => absurd q9 (by decide)) (fun _ => ?_)
          refine yr_aload_n (pq := 175) rfl dX8_readItem_174 rfl ?_
          refine yr_bipush (pq := 177) rfl dX8_readItem_175 rfl ?_
          refine yr_iload_n (pq := 178) rfl dX8_readItem_177 rfl ?_
          refine yr_aload_n (pq := 179) rfl dX8_readItem_178 rfl ?_
          refine yr_iconst (pq := 180) rfl dX8_readItem_179 ?_
          refine yr_bipush (pq := 182) rfl dX8_readItem_180 rfl ?_
          refine yr_vI2 (pq := 185) rfl dX8_readItem_182 kM_8_304 (by decide) (by decide) (Nat.le_of_ble_eq_true rfl) (m_number v1 (Or.inl rfl) (by decide) (by decide) (fun _ q5 y y0 y1 => ?_) (fun q5 y y0 y1 => ?_))
          · rw [if_pos q5] at eI
            have q5b := nmB_t.mp q5
            have ym : y 108 24 = m := by rw [y0.2 24 (by decide), v0.2 24 (by decide)]; exact g24
            refine yr_iconst (pq := 186) rfl dX8_readItem_185 ?_
            refine yr_iconst (pq := 187) rfl dX8_readItem_186 ?_
            refine yr_vV5 (pq := 190) rfl dX8_readItem_187 kM_8_314 (by decide) (by decide) cat0 (m_row ym (by omega) (fun x x0 x1 x2 x3 x4 => ?_))
            refine rain x _ _ (m + 1) eI (MR_t (MR_t (MR_t mg (MR_w v0)) (MR_w y0)) (MR_rw x0 x1)) (MS_rw y1 x0 x1) ?_ ?_ x2 (Or.inr rfl) (Or.inr (Or.inl ⟨rfl, ?_, ?_⟩)) (fun j hj => ?_)
            · rw [x1 25 (by decide), y0.2 25 (by decide), v0.2 25 (by decide)]; exact g25
            · rw [x1 26 (by decide), y0.2 26 (by decide), v0.2 26 (by decide), g26]
              show P 8 = ur P _ _ 8
              rw [ur_o (by omega)]
            · unfold okR; rw [x3.1, x3.2.1, x3.2.2.1, x3.2.2.2.1, x3.2.2.2.2]; exact Or.inl ⟨rfl, q3b.2, q5b.2⟩
            · unfold soR soF; rw [x3.1, x3.2.1, x3.2.2.1, if_pos rfl]
            · rw [x4 j hj, y0.1 118 (by decide), v0.1 118 (by decide), g118]
          · have ns : ¬ nmB (nx t sz (nx t sz (nx t sz S))) 0 9 = true := by
              rcases q5 with z | z
              · exact absurd z (by decide)
              · exact z
            rw [if_neg ns] at eI
            have ym : y 108 24 = m := by rw [y0.2 24 (by decide), v0.2 24 (by decide)]; exact g24
            refine yr_iconst (pq := 186) rfl dX8_readItem_185 ?_
            refine yr_iconst (pq := 187) rfl dX8_readItem_186 ?_
            refine yr_vV5 (pq := 190) rfl dX8_readItem_187 kM_8_314 (by decide) (by decide) cat0 (m_row ym (by omega) (fun x x0 x1 x2 x3 x4 => ?_))
            refine w190 x (by rw [eI]; exact Bool.false_ne_true) ?_ _ _ _ _
            rw [eI]
            exact ⟨MR_t (MR_t (MR_t mg (MR_w v0)) (MR_w y0)) (MR_rw x0 x1), MS_rw y1 x0 x1⟩
        · have ns : ¬ wdF t (nx t sz (nx t sz S)) 10 = true := by
            rcases q4 with z | z
            · exact absurd z (by decide)
            · exact z
          rw [if_neg ns] at eI
          refine yr_if_eq (pq := 174) (t := 190) rfl dX8_readItem_171 rfl (by decide) (fun _ => ?_) (fun q9 => absurd (by decide) q9)
          exact rain g _ _ m eI mg g1 g25 g26 g24 (Or.inl rfl) (Or.inl ⟨rfl, rfl⟩) (fun j hj => by rw [g118])
      · have ns : ¬ nmB (nx t sz S) 0 11 = true := by
          rcases q3 with z | z
          · exact absurd z (by decide)
          · exact z
        rw [if_neg ns] at eI
        have bi : BI t sz h (itF t sz S P) g := by rw [eI]; exact ⟨MR_t me (MR_w g0), g1⟩
        refine yr_istore2 (pq := 164) rfl dX8_readItem_163 ?_
        refine yr_aload_n (pq := 165) rfl dX8_readItem_164 rfl ?_
        refine yr_ldc_ws (pq := 168) (t := 10) rfl dX8_readItem_165 kT_8_320 kS_8_320 ?_
        refine yr_vI1 (pq := 171) rfl dX8_readItem_168 kM_8_309 (by decide) (by decide) cat0 (m_isNext (by decide) g1 (Or.inr rfl) (fun q9 => absurd q9 (by decide)) (fun _ => ?_))
        refine yr_if_eq (pq := 174) (t := 190) rfl dX8_readItem_171 rfl (by decide) (fun _ => ?_) (fun q9 => absurd (by decide) q9)
        exact w190 g (by rw [eI]; exact Bool.false_ne_true) bi _ _ _ _
    · have ns : ¬ wdF t S 9 = true := by
        rcases q2 with z | z
        · exact absurd z (by decide)
        · exact z
      rw [if_neg ns] at eI
      refine yr_if_eq (pq := 156) (t := 219) rfl dX8_readItem_153 rfl (by decide) (fun _ => ?_) (fun q9 => absurd (by decide) q9)
      refine yr_aload_n (pq := 220) rfl dX8_readItem_219 rfl ?_
      refine yr_ldc_ws (pq := 223) (t := 12) rfl dX8_readItem_220 kT_8_324 kS_8_324 ?_
      refine yr_vI1 (pq := 226) rfl dX8_readItem_223 kM_8_309 (by decide) (by decide) cat0 (m_isNext (by decide) H1 (Or.inl rfl) (fun _ q3 e e0 e1 => ?_) (fun q3 => ?_))
      · rw [if_pos q3] at eI
        unfold qu1 at eI
        have me := MR_t m1 (MR_w e0)
        refine yr_if_eq (pq := 229) (t := 255) rfl dX8_readItem_226 rfl (by decide) (fun q9 => absurd q9 (by decide)) (fun _ => ?_)
        refine yr_aload_n (pq := 230) rfl dX8_readItem_229 rfl ?_
        refine yr_iconst (pq := 231) rfl dX8_readItem_230 ?_
        refine yr_bipush (pq := 233) rfl dX8_readItem_231 rfl ?_
        refine yr_vI2 (pq := 236) rfl dX8_readItem_233 kM_8_304 (by decide) (by decide) cat0 (m_number e1 (Or.inl rfl) (by decide) (by decide) (fun _ q4 g g0 g1 => ?_) (fun q4 g g0 g1 => ?_))
        · rw [if_pos q4] at eI
          have q4b := nmB_t.mp q4
          have mg := MR_t me (MR_w g0)
          refine yr_istore2 (pq := 237) rfl dX8_readItem_236 ?_
          refine yr_aload_n (pq := 238) rfl dX8_readItem_237 rfl ?_
          refine yr_bipush (pq := 240) rfl dX8_readItem_238 rfl ?_
          refine yr_iload_n (pq := 241) rfl dX8_readItem_240 rfl ?_
          refine yr_aload_n (pq := 242) rfl dX8_readItem_241 rfl ?_
          refine yr_iconst (pq := 243) rfl dX8_readItem_242 ?_
          refine yr_iconst (pq := 244) rfl dX8_readItem_243 ?_
          refine yr_vI2 (pq := 247) rfl dX8_readItem_244 kM_8_304 (by decide) (by decide) (Nat.le_of_ble_eq_true rfl) (m_number g1 (Or.inl rfl) (by decide) (by decide) (fun _ q5 y y0 y1 => ?_) (fun q5 y y0 y1 => ?_))
          · rw [if_pos q5] at eI
            have q5b := nmB_t.mp q5
            have ym : y 108 24 = m := by rw [y0.2 24 (by decide), g0.2 24 (by decide), e0.2 24 (by decide)]; exact f24
            refine yr_iconst (pq := 248) rfl dX8_readItem_247 ?_
            refine yr_iconst (pq := 249) rfl dX8_readItem_248 ?_
            refine yr_vV5 (pq := 252) rfl dX8_readItem_249 kM_8_314 (by decide) (by decide) cat0 (m_row ym (by omega) (fun x x0 x1 x2 x3 x4 => ?_))
            refine yr_goto (t := 304) dX8_readItem_252 rfl ?_
            refine yr_vret dX8_readItem_304 rfl (row1 y x _ _ _ _ _ _ eI rfl ?_ (Or.inr (Or.inr (Or.inl ⟨rfl, q4b.2, q5b.2⟩))) (MR_t mg (MR_w y0)) y1 ?_ ?_ ym (fun j hj => ?_) x0 x1 x2 x3 x4)
            · unfold soF
              rw [if_neg (by decide), if_neg (by decide), if_pos rfl, Int.zero_add]
            · rw [y0.2 25 (by decide), g0.2 25 (by decide), e0.2 25 (by decide)]; exact f25
            · rw [y0.2 26 (by decide), g0.2 26 (by decide), e0.2 26 (by decide), f26]
              show P 8 = ur P _ _ 8
              rw [ur_o (by omega)]
            · rw [y0.1 118 (by decide), g0.1 118 (by decide), e0.1 118 (by decide), f118]
          · have ns2 : ¬ nmB (nx t sz (nx t sz S)) 0 3 = true := by
              rcases q5 with z | z
              · exact absurd z (by decide)
              · exact z
            rw [if_neg ns2] at eI
            have ym : y 108 24 = m := by rw [y0.2 24 (by decide), g0.2 24 (by decide), e0.2 24 (by decide)]; exact f24
            refine yr_iconst (pq := 248) rfl dX8_readItem_247 ?_
            refine yr_iconst (pq := 249) rfl dX8_readItem_248 ?_
            refine yr_vV5 (pq := 252) rfl dX8_readItem_249 kM_8_314 (by decide) (by decide) cat0 (m_row ym (by omega) (fun x x0 x1 x2 x3 x4 => ?_))
            refine yr_goto (t := 304) dX8_readItem_252 rfl ?_
            refine w304 x (by rw [eI]; exact Bool.false_ne_true) ?_ _ _ _ _
            rw [eI]
            exact ⟨MR_t (MR_t mg (MR_w y0)) (MR_rw x0 x1), MS_rw y1 x0 x1⟩
        · have ns2 : ¬ nmB (nx t sz S) 0 7 = true := by
            rcases q4 with z | z
            · exact absurd z (by decide)
            · exact z
          rw [if_neg ns2] at eI
          refine yr_istore2 (pq := 237) rfl dX8_readItem_236 ?_
          refine yr_aload_n (pq := 238) rfl dX8_readItem_237 rfl ?_
          refine yr_bipush (pq := 240) rfl dX8_readItem_238 rfl ?_
          refine yr_iload_n (pq := 241) rfl dX8_readItem_240 rfl ?_
          refine yr_aload_n (pq := 242) rfl dX8_readItem_241 rfl ?_
          refine yr_iconst (pq := 243) rfl dX8_readItem_242 ?_
          refine yr_iconst (pq := 244) rfl dX8_readItem_243 ?_
          refine yr_vI2 (pq := 247) rfl dX8_readItem_244 kM_8_304 (by decide) (by decide) (Nat.le_of_ble_eq_true rfl) (m_number g1 (Or.inr rfl) (by decide) (by decide) (fun q9 => absurd q9 (by decide)) (fun _ y y0 y1 => ?_))
          have ym : y 108 24 = m := by rw [y0.2 24 (by decide), g0.2 24 (by decide), e0.2 24 (by decide)]; exact f24
          refine yr_iconst (pq := 248) rfl dX8_readItem_247 ?_
          refine yr_iconst (pq := 249) rfl dX8_readItem_248 ?_
          refine yr_vV5 (pq := 252) rfl dX8_readItem_249 kM_8_314 (by decide) (by decide) cat0 (m_row ym (by omega) (fun x x0 x1 x2 x3 x4 => ?_))
          refine yr_goto (t := 304) dX8_readItem_252 rfl ?_
          refine w304 x (by rw [eI]; exact Bool.false_ne_true) ?_ _ _ _ _
          rw [eI]
          exact ⟨MR_t (MR_t (MR_t me (MR_w g0)) (MR_w y0)) (MR_rw x0 x1), MS_rw y1 x0 x1⟩
      · have ns2 : ¬ wdF t S 12 = true := by
          rcases q3 with z | z
          · exact absurd z (by decide)
          · exact z
        rw [if_neg ns2] at eI
        have tell : ∀ (z : Int) (x : hT), (0 ≤ z ∧ z ≤ 1) → itF t sz S P = (true, nx t sz S, ur P 44 z) → MW f x → MS t sz x (nx t sz S) 0 → Yr (d + 4) mX8_readItem 298 [vr 108, vi (kdF t S), vi z, .null, .null] [vi z, vi 13, vr 108] x (rV KV) := by
          intro z x hz eA x0 x1
          have xm : x 108 24 = m := by rw [x0.2 24 (by decide)]; exact f24
          refine yr_iconst (pq := 299) rfl dX8_readItem_298 ?_
          refine yr_iconst (pq := 300) rfl dX8_readItem_299 ?_
          refine yr_iconst (pq := 301) rfl dX8_readItem_300 ?_
          refine yr_vV5 (pq := 304) rfl dX8_readItem_301 kM_8_314 (by decide) (by decide) cat0 (m_row xm (by omega) (fun y y0 y1 y2 y3 y4 => ?_))
          refine yr_vret dX8_readItem_304 rfl (row1 x y _ _ _ _ _ _ eA rfl ?_ (Or.inr (Or.inr (Or.inr (Or.inl ⟨rfl, hz⟩)))) (MR_t m1 (MR_w x0)) x1 ?_ ?_ xm (fun j hj => ?_) y0 y1 y2 y3 y4)
          · unfold soF
            rw [if_neg (by decide), if_neg (by decide), if_neg (by decide), if_pos rfl]
          · rw [x0.2 25 (by decide)]; exact f25
          · rw [x0.2 26 (by decide), f26]
            show P 8 = ur P 44 z 8
            rw [ur_o (by decide)]
          · rw [x0.1 118 (by decide), f118]
        refine yr_if_eq (pq := 229) (t := 255) rfl dX8_readItem_226 rfl (by decide) (fun _ => ?_) (fun q9 => absurd (by decide) q9)
        refine yr_aload_n (pq := 256) rfl dX8_readItem_255 rfl ?_
        refine yr_ldc_ws (pq := 259) (t := 13) rfl dX8_readItem_256 kT_8_326 kS_8_326 ?_
        refine yr_vI1 (pq := 262) rfl dX8_readItem_259 kM_8_291 (by decide) (by decide) cat0 (m_isWord (by decide) H1.1 H1.2.2.1 (Int.le_refl 0) H1.2.2.2.1 (fun q4 => ?_) (fun q4 => ?_))
        · rw [if_pos q4] at eI
          refine yr_istore2 (pq := 263) rfl dX8_readItem_262 ?_
          refine yr_aload_n (pq := 264) rfl dX8_readItem_263 rfl ?_
          refine yr_iload_n (pq := 265) rfl dX8_readItem_264 rfl ?_
          refine yr_if_ne (pq := 268) (t := 278) rfl dX8_readItem_265 rfl (by decide) (fun _ => ?_) (fun q9 => absurd q9 (by decide))
          refine yr_iconst (pq := 279) rfl dX8_readItem_278 ?_
          refine yr_goto (t := 283) dX8_readItem_279 rfl ?_
          refine yr_vV1 (pq := 286) rfl dX8_readItem_283 kM_8_284 (by decide) (by decide) cat0 (m_must1 H1 (fun x x0 x1 => ?_))
          refine yr_aload_n (pq := 287) rfl dX8_readItem_286 rfl ?_
          refine yr_bipush (pq := 289) rfl dX8_readItem_287 rfl ?_
          refine yr_iload_n (pq := 290) rfl dX8_readItem_289 rfl ?_
          refine yr_if_eq (pq := 293) (t := 297) rfl dX8_readItem_290 rfl (by decide) (fun q9 => absurd q9 (by decide)) (fun _ => ?_)
          refine yr_iconst (pq := 294) rfl dX8_readItem_293 ?_
          refine yr_goto (t := 298) dX8_readItem_294 rfl ?_
          exact tell 1 x (by decide) eI x0 x1
        · rw [if_neg q4] at eI
          refine yr_istore2 (pq := 263) rfl dX8_readItem_262 ?_
          refine yr_aload_n (pq := 264) rfl dX8_readItem_263 rfl ?_
          refine yr_iload_n (pq := 265) rfl dX8_readItem_264 rfl ?_
          refine yr_if_ne (pq := 268) (t := 278) rfl dX8_readItem_265 rfl (by decide) (fun q9 => absurd (by decide) q9) (fun _ => ?_)
          refine yr_aload_n (pq := 269) rfl dX8_readItem_268 rfl ?_
          refine yr_ldc_ws (pq := 272) (t := 14) rfl dX8_readItem_269 kT_8_328 kS_8_328 ?_
          refine yr_vI1 (pq := 275) rfl dX8_readItem_272 kM_8_291 (by decide) (by decide) (Nat.le_of_ble_eq_true rfl) (m_isWord (by decide) H1.1 H1.2.2.1 (Int.le_refl 0) H1.2.2.2.1 (fun q5 => ?_) (fun q5 => ?_))
          · rw [if_pos q5] at eI
            refine yr_if_eq (pq := 278) (t := 282) rfl dX8_readItem_275 rfl (by decide) (fun q9 => absurd q9 (by decide)) (fun _ => ?_)
            refine yr_iconst (pq := 279) rfl dX8_readItem_278 ?_
            refine yr_goto (t := 283) dX8_readItem_279 rfl ?_
            refine yr_vV1 (pq := 286) rfl dX8_readItem_283 kM_8_284 (by decide) (by decide) cat0 (m_must1 H1 (fun x x0 x1 => ?_))
            refine yr_aload_n (pq := 287) rfl dX8_readItem_286 rfl ?_
            refine yr_bipush (pq := 289) rfl dX8_readItem_287 rfl ?_
            refine yr_iload_n (pq := 290) rfl dX8_readItem_289 rfl ?_
            refine yr_if_eq (pq := 293) (t := 297) rfl dX8_readItem_290 rfl (by decide) (fun _ => ?_) (fun q9 => absurd (by decide) q9)
            refine yr_iconst (pq := 298) rfl dX8_readItem_297 ?_
            exact tell 0 x (by decide) eI x0 x1
          · rw [if_neg q5] at eI
            refine yr_if_eq (pq := 278) (t := 282) rfl dX8_readItem_275 rfl (by decide) (fun _ => ?_) (fun q9 => absurd (by decide) q9)
            refine yr_iconst (pq := 283) rfl dX8_readItem_282 ?_
            refine yr_vV1 (pq := 286) rfl dX8_readItem_283 kM_8_284 (by decide) (by decide) cat0 (m_must0 H1 (fun x x0 x1 => ?_))
            have xm : x 108 24 = m := by rw [x0.2 24 (by decide)]; exact f24
            refine yr_aload_n (pq := 287) rfl dX8_readItem_286 rfl ?_
            refine yr_bipush (pq := 289) rfl dX8_readItem_287 rfl ?_
            refine yr_iload_n (pq := 290) rfl dX8_readItem_289 rfl ?_
            refine yr_if_eq (pq := 293) (t := 297) rfl dX8_readItem_290 rfl (by decide) (fun _ => ?_) (fun q9 => absurd (by decide) q9)
            refine yr_iconst (pq := 298) rfl dX8_readItem_297 ?_
            refine yr_iconst (pq := 299) rfl dX8_readItem_298 ?_
            refine yr_iconst (pq := 300) rfl dX8_readItem_299 ?_
            refine yr_iconst (pq := 301) rfl dX8_readItem_300 ?_
            refine yr_vV5 (pq := 304) rfl dX8_readItem_301 kM_8_314 (by decide) (by decide) cat0 (m_row xm (by omega) (fun y y0 y1 y2 y3 y4 => ?_))
            refine w304 y (by rw [eI]; exact Bool.false_ne_true) ?_ _ _ _ _
            rw [eI]
            exact ⟨MR_t (MR_t m1 (MR_w x0)) (MR_rw y0 y1), MS_rw x1 y0 y1⟩
  · have hk : 0 ≤ kdF t S ∧ kdF t S ≤ 6 := by omega
    have eI : itF t sz S P = if P 8 < 14 then st1 t sz (nx t sz S) P (kdF t S) else (false, S, P) := by unfold itF; rw [if_pos hk.1]
    -- behind the first must, the streets are counted
    have cnt : ∀ (x : hT), MS t sz x (if P 8 < 14 then nx t sz S else S) (if P 8 < 14 then 0 else 1) → MW f x → ∀ x2 x3 x4, Yr (d + 4) mX8_readItem 37 [vr 108, vi (kdF t S), x2, x3, x4] [] x (rV KV) := by
      intro x x1 x0 x2 x3 x4
      have ex : x 108 26 = P 8 := by rw [x0.2 26 (by decide)]; exact f26
      have X1 : MS t sz (up x 108 26 (P 8 + 1)) (if P 8 < 14 then nx t sz S else S) (if P 8 < 14 then 0 else 1) := MS_f x1 (fun j _ _ => up_k (by omega)) (up_ne (by decide))
      have mx : MR h (up x 108 26 (P 8 + 1)) := MR_t (MR_t m1 (MR_w x0)) (MR_u (by decide))
      have y24 : up x 108 26 (P 8 + 1) 108 24 = m := by rw [up_k (by decide), x0.2 24 (by decide)]; exact f24
      have y25 : up x 108 26 (P 8 + 1) 108 25 = i + 1 := by rw [up_k (by decide), x0.2 25 (by decide)]; exact f25
      have y26 : up x 108 26 (P 8 + 1) 108 26 = P 8 + 1 := up_s _ _ _ _
      have y118 : up x 108 26 (P 8 + 1) 118 = h 118 := by rw [up_ne (by decide), x0.1 118 (by decide), f118]
      refine yr_aload_n (pq := 38) rfl dX8_readItem_37 rfl ?_
      refine yr_dup (pq := 39) rfl dX8_readItem_38 rfl ?_
      refine yr_getI (pq := 42) 26 rfl dX8_readItem_39 kF_8_301 (by decide) rfl (by decide) ?_
      refine yr_iconst (pq := 43) rfl dX8_readItem_42 ?_
      refine yr_iadd (pq := 44) rfl dX8_readItem_43 ?_
      refine yr_putI (pq := 47) 26 rfl dX8_readItem_44 kF_8_301 (by decide) rfl rfl (by decide) ?_
      rw [ex]
      generalize up x 108 26 (P 8 + 1) = y at X1 mx y24 y25 y26 y118 ⊢
      by_cases q2 : P 8 < 14
      · rw [if_pos q2] at eI
        rw [if_pos q2, if_pos q2] at X1
        unfold st1 at eI
        refine yr_aload_n (pq := 48) rfl dX8_readItem_47 rfl ?_
        refine yr_iconst (pq := 49) rfl dX8_readItem_48 ?_
        refine yr_bipush (pq := 51) rfl dX8_readItem_49 rfl ?_
        refine yr_vI2 (pq := 54) rfl dX8_readItem_51 kM_8_304 (by decide) (by decide) cat0 (m_number X1 (Or.inl rfl) (by decide) (by decide) (fun _ q3 g g0 g1 => ?_) (fun q3 g g0 g1 => ?_))
        · rw [if_pos q3] at eI
          have q3b := nmB_t.mp q3
          unfold st2 at eI
          have v2 := g1.2.2.2.1.2.2.1
          have ms2 := MS_2 g1
          have bad2 : ¬ (nmB (nx t sz (nx t sz S)) 0 7 = true ∧ (nx t sz (nx t sz S)).2.2.2 ≠ (nx t sz S).2.2.2) → ∀ x4, Yr (d + 4) mX8_readItem 92 [vr 108, vi (kdF t S), vi (nx t sz S).2.2.2, vi (nx t sz (nx t sz S)).2.2.2, x4] [vr 108] g (rV KV) := by
            intro no x4
            rw [if_neg no] at eI
            refine yr_iconst (pq := 93) rfl dX8_readItem_92 ?_
            refine yr_vV1 (pq := 96) rfl dX8_readItem_93 kM_8_284 (by decide) (by decide) cat0 (m_must0 g1 (fun u u0 u1 => ?_))
            exact w96 u _ _ (by rw [eI]; exact Bool.false_ne_true) (by rw [eI]; exact ⟨MR_t (MR_t mx (MR_w g0)) (MR_w u0), u1⟩) (by rw [u0.2 24 (by decide), g0.2 24 (by decide)]; exact y24) _
          refine yr_istore2 (pq := 55) rfl dX8_readItem_54 ?_
          refine yr_aload_n (pq := 56) rfl dX8_readItem_55 rfl ?_
          refine yr_getI (pq := 59) 20 rfl dX8_readItem_56 kF_8_264 (by decide) rfl (by decide) ?_
          refine yr_istore3 (pq := 60) rfl dX8_readItem_59 ?_
          refine yr_aload_n (pq := 61) rfl dX8_readItem_60 rfl ?_
          refine yr_aload_n (pq := 62) rfl dX8_readItem_61 rfl ?_
          refine yr_getI (pq := 65) 21 rfl dX8_readItem_62 kF_8_277 (by decide) rfl (by decide) ?_
          rw [g1.2.2.2.2, g1.2.2.1.2.2.2]
          refine yr_if_ne (pq := 68) (t := 92) rfl dX8_readItem_65 rfl (by omega) (fun q9 => absurd (by decide) q9) (fun _ => ?_)
          refine yr_aload_n (pq := 69) rfl dX8_readItem_68 rfl ?_
          refine yr_getI (pq := 72) 19 rfl dX8_readItem_69 kF_8_267 (by decide) rfl (by decide) ?_
          refine yr_iconst (pq := 73) rfl dX8_readItem_72 ?_
          refine yr_ic_ne (pq := 76) (t := 92) rfl dX8_readItem_73 rfl (by omega) (by omega) (fun q4 => ?_) (fun q4 => ?_)
          · exact bad2 (fun z => q4 (ms2.2.1.mpr (nmB_t.mp z.1).1)) _
          · refine yr_iload_n (pq := 77) rfl dX8_readItem_76 rfl ?_
            refine yr_sI1 (pq := 80) rfl dX8_readItem_77 kM_8_98 (by decide) (Nat.le_of_ble_eq_true rfl) (m_isCorner (by omega) (fun q5 => ?_) (fun q5 => ?_))
            · refine yr_if_eq (pq := 83) (t := 92) rfl dX8_readItem_80 rfl (by decide) (fun q9 => absurd q9 (by decide)) (fun _ => ?_)
              refine yr_iload_n (pq := 84) rfl dX8_readItem_83 rfl ?_
              refine yr_iload_n (pq := 85) rfl dX8_readItem_84 rfl ?_
              refine yr_ic_eq (pq := 88) (t := 92) rfl dX8_readItem_85 rfl (by omega) (by omega) (fun q6 => ?_) (fun q6 => ?_)
              · exact bad2 (fun z => z.2 q6) _
              · have yes : nmB (nx t sz (nx t sz S)) 0 7 = true ∧ (nx t sz (nx t sz S)).2.2.2 ≠ (nx t sz S).2.2.2 := ⟨nmB_t.mpr ⟨ms2.2.1.mp q4, q5⟩, q6⟩
                rw [if_pos yes] at eI
                unfold st3 at eI
                refine yr_iconst (pq := 89) rfl dX8_readItem_88 ?_
                refine yr_goto (t := 93) dX8_readItem_89 rfl ?_
                refine yr_vV1 (pq := 96) rfl dX8_readItem_93 kM_8_284 (by decide) (by decide) cat0 (m_must1 g1 (fun u u0 u1 => ?_))
                have mu := MR_t (MR_t mx (MR_w g0)) (MR_w u0)
                have ug : ∀ j, (j < 17 ∨ 21 < j) → u 108 j = y 108 j := fun j hj => by rw [u0.2 j hj, g0.2 j hj]
                have u118 : u 118 = h 118 := by rw [u0.1 118 (by decide), g0.1 118 (by decide), y118]
                refine yr_aload_n (pq := 97) rfl dX8_readItem_96 rfl ?_
                refine yr_ldc_ws (pq := 100) (t := 7) rfl dX8_readItem_97 kT_8_307 kS_8_307 ?_
                refine yr_vI1 (pq := 103) rfl dX8_readItem_100 kM_8_309 (by decide) (by decide) cat0 (m_isNext (by decide) u1 (Or.inl rfl) (fun _ q7 v v0 v1 => ?_) (fun q7 => ?_))
                · rw [if_pos q7] at eI
                  refine yr_if_eq (pq := 106) (t := 116) rfl dX8_readItem_103 rfl (by decide) (fun q9 => absurd q9 (by decide)) (fun _ => ?_)
                  refine yr_aload_n (pq := 107) rfl dX8_readItem_106 rfl ?_
                  refine yr_iconst (pq := 108) rfl dX8_readItem_107 ?_
                  refine yr_bipush (pq := 110) rfl dX8_readItem_108 rfl ?_
                  refine yr_vI2 (pq := 113) rfl dX8_readItem_110 kM_8_304 (by decide) (by decide) cat0 (m_number v1 (Or.inl rfl) (by decide) (by decide) (fun _ q8 e e0 e1 => ?_) (fun q8 e e0 e1 => ?_))
                  · rw [if_pos q8] at eI
                    have q8b := nmB_t.mp q8
                    have eu : ∀ j, (j < 17 ∨ 21 < j) → e 108 j = y 108 j := fun j hj => by rw [e0.2 j hj, v0.2 j hj, ug j hj]
                    refine yr_goto (t := 117) dX8_readItem_113 rfl ?_
                    exact g117 e _ _ _ _ eI hk q2 q3b.2 q5 (fun z => q6 z.symm) q8b.2 (MR_t (MR_t mu (MR_w v0)) (MR_w e0)) e1 (by rw [eu 25 (by decide)]; exact y25) (by rw [eu 26 (by decide)]; exact y26) (by rw [eu 24 (by decide)]; exact y24) (fun j hj => by rw [e0.1 118 (by decide), v0.1 118 (by decide), u118]) _
                  · have ns : ¬ nmB (nx t sz (nx t sz (nx t sz (nx t sz S)))) 1 20 = true := by
                      rcases q8 with z | z
                      · exact absurd z (by decide)
                      · exact z
                    rw [if_neg ns] at eI
                    have eu : ∀ j, (j < 17 ∨ 21 < j) → e 108 j = y 108 j := fun j hj => by rw [e0.2 j hj, v0.2 j hj, ug j hj]
                    refine yr_goto (t := 117) dX8_readItem_113 rfl ?_
                    exact w117 e _ _ _ (by rw [eI]; exact Bool.false_ne_true) (by rw [eI]; exact ⟨MR_t (MR_t mu (MR_w v0)) (MR_w e0), e1⟩) (by rw [eu 24 (by decide)]; exact y24) _
                · have ns : ¬ wdF t (nx t sz (nx t sz (nx t sz S))) 7 = true := by
                    rcases q7 with z | z
                    · exact absurd z (by decide)
                    · exact z
                  rw [if_neg ns] at eI
                  refine yr_if_eq (pq := 106) (t := 116) rfl dX8_readItem_103 rfl (by decide) (fun _ => ?_) (fun q9 => absurd (by decide) q9)
                  refine yr_iconst (pq := 117) rfl dX8_readItem_116 ?_
                  exact g117 u _ _ _ _ eI hk q2 q3b.2 q5 (fun z => q6 z.symm) (by decide) mu u1 (by rw [ug 25 (by decide)]; exact y25) (by rw [ug 26 (by decide)]; exact y26) (by rw [ug 24 (by decide)]; exact y24) (fun j hj => by rw [u118]) _
            · refine yr_if_eq (pq := 83) (t := 92) rfl dX8_readItem_80 rfl (by decide) (fun _ => ?_) (fun q9 => absurd (by decide) q9)
              exact bad2 (fun z => q5 (nmB_t.mp z.1).2) _
        · have ns : ¬ nmB (nx t sz S) 0 7 = true := by
            rcases q3 with z | z
            · exact absurd z (by decide)
            · exact z
          rw [if_neg ns] at eI
          refine yr_istore2 (pq := 55) rfl dX8_readItem_54 ?_
          exact w55 g _ (by rw [eI]; exact Bool.false_ne_true) (by rw [eI]; exact ⟨MR_t mx (MR_w g0), g1⟩) (by rw [g0.2 24 (by decide)]; exact y24) _ _
      · rw [if_neg q2] at eI
        rw [if_neg q2, if_neg q2] at X1
        exact w47 y (by rw [eI]; exact Bool.false_ne_true) (by rw [eI]; exact ⟨mx, X1⟩) y24 _ _ _
    refine yr_aload_n (pq := 20) rfl dX8_readItem_19 rfl ?_
    refine yr_aload_n (pq := 21) rfl dX8_readItem_20 rfl ?_
    refine yr_getI (pq := 24) 26 rfl dX8_readItem_21 kF_8_301 (by decide) rfl (by decide) ?_
    refine yr_bipush (pq := 26) rfl dX8_readItem_24 rfl ?_
    rw [f26]
    refine yr_ic_ge (pq := 29) (t := 33) rfl dX8_readItem_26 rfl (by omega) (by omega) (fun q2 => ?_) (fun q2 => ?_)
    · refine yr_iconst (pq := 34) rfl dX8_readItem_33 ?_
      refine yr_vV1 (pq := 37) rfl dX8_readItem_34 kM_8_284 (by decide) (by decide) cat0 (m_must0 H1 (fun x x0 x1 => ?_))
      exact cnt x (by rw [if_neg (by omega), if_neg (by omega)]; exact x1) x0 _ _ _
    · refine yr_iconst (pq := 30) rfl dX8_readItem_29 ?_
      refine yr_goto (t := 34) dX8_readItem_30 rfl ?_
      refine yr_vV1 (pq := 37) rfl dX8_readItem_34 kM_8_284 (by decide) (by decide) cat0 (m_must1 H1 (fun x x0 x1 => ?_))
      exact cnt x (by rw [if_pos (by omega), if_pos (by omega)]; exact x1) x0 _ _ _
end TQ
