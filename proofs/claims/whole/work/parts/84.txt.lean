/-! text -/
theorem so_ok {P : Int → Int} {w a b c e : Int} (hO : okT P) (h4 : 0 ≤ P 44 ∧ P 44 ≤ 1) (q : okF P w a b c e) : okT (soF P w a b c e) ∧ (0 ≤ soF P w a b c e 44 ∧ soF P w a b c e 44 ≤ 1) := by
  have h8 := hO.1
  unfold soF
  rcases q with ⟨rfl, q1, q2⟩ | ⟨rfl, q1, q2⟩ | ⟨rfl, q1, q2⟩ | ⟨rfl, q1⟩ | ⟨q1, q2, q3, q4, q5, q6, q7⟩
  · rw [if_pos rfl]
    exact ⟨okT_sky hO (by omega) q2, by rw [ur_o (by omega)]; exact h4⟩
  · rw [if_neg (by decide), if_pos rfl]
    exact ⟨okT_sky hO (by omega) q2, by rw [ur_o (by omega)]; exact h4⟩
  · rw [if_neg (by decide), if_neg (by decide), if_pos rfl]
    exact ⟨okT_q hO (by omega) q2, by rw [ur_o (by omega)]; exact h4⟩
  · rw [if_neg (by decide), if_neg (by decide), if_neg (by decide), if_pos rfl]
    exact ⟨okT_mid hO (by omega), by rw [ur_s]; exact q1⟩
  · rw [if_neg (by omega), if_neg (by omega), if_neg (by omega), if_neg (by omega)]
    exact ⟨addN_ok hO q2 q1 q3 q4 q5 q6 q7, by rw [addN_lo h8.1 (by decide) (by decide)]; exact h4⟩
/-- N behind the first k rows of f -/
def qF (f : Int → Int) (N : Int → Int) : Nat → Int → Int
  | 0 => N
  | k + 1 => soR f (k : Int) (qF f N k)
def QI (f : Int → Int) (N : Int → Int) (m : Int) (P : Int → Int) : Prop := (∀ k : Nat, (k : Int) < m → okR f (k : Int) (qF f N k)) ∧ P = qF f N m.toNat
theorem qF_ok {f N : Int → Int} {m : Int} (hO : okT N) (h4 : 0 ≤ N 44 ∧ N 44 ≤ 1) (h : ∀ k : Nat, (k : Int) < m → okR f (k : Int) (qF f N k)) : ∀ k : Nat, (k : Int) ≤ m → okT (qF f N k) ∧ (0 ≤ qF f N k 44 ∧ qF f N k 44 ≤ 1) := by
  intro k
  induction k with
  | zero => intro _; exact ⟨hO, h4⟩
  | succ k ih =>
    intro hk
    obtain ⟨i1, i2⟩ := ih (by omega)
    exact so_ok i1 i2 (h k (by omega))
theorem soR_c {f g : Int → Int} {k : Int} {P : Int → Int} (e : ∀ j, j < 5 * k + 5 → g j = f j) : soR g k P = soR f k P := by
  unfold soR
  rw [e _ (by omega), e _ (by omega), e _ (by omega), e _ (by omega), e _ (by omega)]
theorem okR_c {f g : Int → Int} {k : Int} {P : Int → Int} (e : ∀ j, j < 5 * k + 5 → g j = f j) (h : okR f k P) : okR g k P := by
  unfold okR at h ⊢
  rw [e _ (by omega), e _ (by omega), e _ (by omega), e _ (by omega), e _ (by omega)]; exact h
theorem qF_c {f g N : Int → Int} {m : Int} (e : ∀ j, j < 5 * m → g j = f j) : ∀ k : Nat, (k : Int) ≤ m → qF g N k = qF f N k := by
  intro k
  induction k with
  | zero => intro _; rfl
  | succ k ih =>
    intro hk
    rw [qF, qF, ih (by omega)]
    exact soR_c (fun j hj => e j (by omega))
theorem QI_x {f g N P P' : Int → Int} {m m' : Int} (hm : 0 ≤ m) (h : QI f N m P) (e : ∀ j, j < 5 * m → g j = f j) (x : RX g m P m' P') : QI g N m' P' ∧ (m ≤ m' ∧ m' ≤ m + 2) := by
  obtain ⟨h1, h2⟩ := h
  have a1 : ∀ k : Nat, (k : Int) < m → okR g (k : Int) (qF g N k) := fun k hk => by
    rw [qF_c e k (by omega)]
    exact okR_c (fun j hj => e j (by omega)) (h1 k hk)
  have a2 : P = qF g N m.toNat := by rw [qF_c e m.toNat (by omega)]; exact h2
  have em : ((m.toNat : Nat) : Int) = m := Int.toNat_of_nonneg hm
  rcases x with ⟨rfl, rfl⟩ | ⟨rfl, x1, rfl⟩ | ⟨rfl, x1, x2, rfl⟩
  · exact ⟨⟨a1, a2⟩, by omega⟩
  · refine ⟨⟨fun k hk => ?_, ?_⟩, by omega⟩
    · by_cases q : (k : Int) < m
      · exact a1 k q
      · have : k = m.toNat := by omega
        subst this
        rw [em, ← a2]; exact x1
    · rw [show (m + 1).toNat = m.toNat + 1 by omega, qF, em, ← a2]
  · have b : soR g m P = qF g N (m.toNat + 1) := by rw [qF, em, ← a2]
    refine ⟨⟨fun k hk => ?_, ?_⟩, by omega⟩
    · by_cases q : (k : Int) < m
      · exact a1 k q
      · by_cases q2 : (k : Int) = m
        · have : k = m.toNat := by omega
          subst this
          rw [em, ← a2]; exact x1
        · have : k = m.toNat + 1 := by omega
          subst this
          rw [← b, show ((m.toNat + 1 : Nat) : Int) = m + 1 by omega]; exact x2
    · rw [show (m + 2).toNat = m.toNat + 1 + 1 by omega, qF, ← b, show ((m.toNat + 1 : Nat) : Int) = m + 1 by omega]
section TT
variable {d : Nat} {h : hT} {K : Int → hT → Prop} {t : Int → Int} {sz : Int}
theorem m_isSo {k : Int} {Q : Int → Int} (hk : 0 ≤ k ∧ k < 240) (e9 : h 109 = Q) (hO : okT Q) (h4 : 0 ≤ Q 44 ∧ Q 44 ≤ 1) (ok : okR (h 118) k Q) (kk : ∀ r e, 0 ≤ r → r ≤ 100000 → (∀ a, a ≠ 109 → e a = h a) → e 109 = soR (h 118) k Q → K r e) : ClI (d + 3) mX8_isSo [vr 108, vi (5 * k)] h K := by
  subst e9
  have h8 := hO.1
  unfold soR at kk
  unfold okR at ok
  generalize hw : h 118 (5 * k) = w at ok kk
  generalize ha : h 118 (5 * k + 1) = a at ok kk
  generalize hb : h 118 (5 * k + 2) = b at ok kk
  generalize hc : h 118 (5 * k + 3) = c at ok kk
  generalize he : h 118 (5 * k + 4) = e at ok kk
  unfold soF at kk
  refine cl_in (al := [vr 108, vi (5 * k), .null, .null]) rfl (Nat.le_of_ble_eq_true rfl) (by simp [vi_cat, vr_cat, vs_cat]) ?_
  refine yr_aload_n (pq := 1) rfl dX8_isSo_0 rfl ?_
  refine yr_getR (pq := 4) (b := 118) 23 rfl dX8_isSo_1 kF_8_58 (by decide) rfl ?_
  refine yr_iload_n (pq := 5) rfl dX8_isSo_4 rfl ?_
  refine yr_iconst (pq := 6) rfl dX8_isSo_5 ?_
  refine yr_iadd (pq := 7) rfl dX8_isSo_6 ?_
  refine yr_iald (pq := 8) rfl dX8_isSo_7 rfl (by decide) (by omega) ?_
  refine yr_istore2 (pq := 9) rfl dX8_isSo_8 ?_
  refine yr_aload_n (pq := 10) rfl dX8_isSo_9 rfl ?_
  refine yr_getR (pq := 13) (b := 118) 23 rfl dX8_isSo_10 kF_8_58 (by decide) rfl ?_
  refine yr_iload_n (pq := 14) rfl dX8_isSo_13 rfl ?_
  refine yr_iconst (pq := 15) rfl dX8_isSo_14 ?_
  refine yr_iadd (pq := 16) rfl dX8_isSo_15 ?_
  refine yr_iald (pq := 17) rfl dX8_isSo_16 rfl (by decide) (by omega) ?_
  refine yr_istore3 (pq := 18) rfl dX8_isSo_17 ?_
  refine yr_aload_n (pq := 19) rfl dX8_isSo_18 rfl ?_
  refine yr_getR (pq := 22) (b := 118) 23 rfl dX8_isSo_19 kF_8_58 (by decide) rfl ?_
  refine yr_iload_n (pq := 23) rfl dX8_isSo_22 rfl ?_
  refine yr_iald (pq := 24) rfl dX8_isSo_23 rfl (by decide) (by omega) ?_
  rw [hw, ha, hb]
  rcases ok with ⟨rfl, q1, q2⟩ | ⟨rfl, q1, q2⟩ | ⟨rfl, q1, q2⟩ | ⟨rfl, q1⟩ | ⟨q1, q2, q3, q4, q5, q6, q7⟩
  · rw [if_pos rfl] at kk
    have o := hO.2.2.1 a q1.1 (by omega)
    refine yr_tab (t := 56) dX8_isSo_24 (by omega) (by omega) (by omega) rfl rfl ?_
    refine yr_aload_n (pq := 57) rfl dX8_isSo_56 rfl ?_
    refine yr_bipush (pq := 59) rfl dX8_isSo_57 rfl ?_
    refine yr_iload_n (pq := 60) rfl dX8_isSo_59 rfl ?_
    refine yr_iadd (pq := 61) rfl dX8_isSo_60 ?_
    refine yr_iload_n (pq := 62) rfl dX8_isSo_61 rfl ?_
    refine yr_vI2 (pq := 65) rfl dX8_isSo_62 kM_8_129 (by decide) (by decide) cat0 (m_become (by omega) ?_)
    exact yr_iret dX8_isSo_65 rfl (kk _ _ o.1 (by omega) (fun x hx => up_ne hx) (up_row _ _ _ _))
  · rw [if_neg (by decide), if_pos rfl] at kk
    have o := hO.2.2.2.1 a q1.1 (by omega)
    refine yr_tab (t := 66) dX8_isSo_24 (by omega) (by omega) (by omega) rfl rfl ?_
    refine yr_aload_n (pq := 67) rfl dX8_isSo_66 rfl ?_
    refine yr_bipush (pq := 69) rfl dX8_isSo_67 rfl ?_
    refine yr_iload_n (pq := 70) rfl dX8_isSo_69 rfl ?_
    refine yr_iadd (pq := 71) rfl dX8_isSo_70 ?_
    refine yr_iload_n (pq := 72) rfl dX8_isSo_71 rfl ?_
    refine yr_vI2 (pq := 75) rfl dX8_isSo_72 kM_8_129 (by decide) (by decide) cat0 (m_become (by omega) ?_)
    exact yr_iret dX8_isSo_75 rfl (kk _ _ o.1 (by omega) (fun x hx => up_ne hx) (up_row _ _ _ _))
  · rw [if_neg (by decide), if_neg (by decide), if_pos rfl] at kk
    have o := hO.2.1 a q1.1 (by omega)
    refine yr_tab (t := 76) dX8_isSo_24 (by omega) (by omega) (by omega) rfl rfl ?_
    refine yr_aload_n (pq := 77) rfl dX8_isSo_76 rfl ?_
    refine yr_iconst (pq := 78) rfl dX8_isSo_77 ?_
    refine yr_iload_n (pq := 79) rfl dX8_isSo_78 rfl ?_
    refine yr_iadd (pq := 80) rfl dX8_isSo_79 ?_
    refine yr_iload_n (pq := 81) rfl dX8_isSo_80 rfl ?_
    refine yr_vI2 (pq := 84) rfl dX8_isSo_81 kM_8_129 (by decide) (by decide) cat0 (m_become (by omega) ?_)
    exact yr_iret dX8_isSo_84 rfl (kk _ _ (by rw [Int.zero_add]; exact o.1) (by rw [Int.zero_add]; omega) (fun x hx => up_ne hx) (up_row _ _ _ _))
  · rw [if_neg (by decide), if_neg (by decide), if_neg (by decide), if_pos rfl] at kk
    refine yr_tab (t := 85) dX8_isSo_24 (by omega) (by omega) (by omega) rfl rfl ?_
    refine yr_aload_n (pq := 86) rfl dX8_isSo_85 rfl ?_
    refine yr_bipush (pq := 88) rfl dX8_isSo_86 rfl ?_
    refine yr_iload_n (pq := 89) rfl dX8_isSo_88 rfl ?_
    refine yr_vI2 (pq := 92) rfl dX8_isSo_89 kM_8_129 (by decide) (by decide) cat0 (m_become (by decide) ?_)
    exact yr_iret dX8_isSo_92 rfl (kk _ _ h4.1 (by omega) (fun x hx => up_ne hx) (up_row _ _ _ _))
  · rw [if_neg (by omega), if_neg (by omega), if_neg (by omega), if_neg (by omega)] at kk
    refine yr_tabO (t := 93) dX8_isSo_24 (by omega) (by omega) rfl ?_
    refine yr_aload_n (pq := 94) rfl dX8_isSo_93 rfl ?_
    refine yr_aload_n (pq := 95) rfl dX8_isSo_94 rfl ?_
    refine yr_getR (pq := 98) (b := 118) 23 rfl dX8_isSo_95 kF_8_58 (by decide) rfl ?_
    refine yr_iload_n (pq := 99) rfl dX8_isSo_98 rfl ?_
    refine yr_iald (pq := 100) rfl dX8_isSo_99 rfl (by decide) (by omega) ?_
    refine yr_iload_n (pq := 101) rfl dX8_isSo_100 rfl ?_
    refine yr_iload_n (pq := 102) rfl dX8_isSo_101 rfl ?_
    refine yr_aload_n (pq := 103) rfl dX8_isSo_102 rfl ?_
    refine yr_getR (pq := 106) (b := 118) 23 rfl dX8_isSo_103 kF_8_58 (by decide) rfl ?_
    refine yr_iload_n (pq := 107) rfl dX8_isSo_106 rfl ?_
    refine yr_iconst (pq := 108) rfl dX8_isSo_107 ?_
    refine yr_iadd (pq := 109) rfl dX8_isSo_108 ?_
    refine yr_iald (pq := 110) rfl dX8_isSo_109 rfl (by decide) (by omega) ?_
    refine yr_aload_n (pq := 111) rfl dX8_isSo_110 rfl ?_
    refine yr_getR (pq := 114) (b := 118) 23 rfl dX8_isSo_111 kF_8_58 (by decide) rfl ?_
    refine yr_iload_n (pq := 115) rfl dX8_isSo_114 rfl ?_
    refine yr_iconst (pq := 116) rfl dX8_isSo_115 ?_
    refine yr_iadd (pq := 117) rfl dX8_isSo_116 ?_
    refine yr_iald (pq := 118) rfl dX8_isSo_117 rfl (by decide) (by omega) ?_
    rw [hw, hc, he]
    refine yr_vI5 (pq := 121) rfl dX8_isSo_118 kM_8_106 (by decide) (by decide) cat0 (m_comes (by omega) (by omega) (by omega) (fun x x0 x1 => ?_))
    exact yr_iret dX8_isSo_121 rfl (kk _ x h8.1 (by omega) x0 x1)
theorem r_text {N : Int → Int} (e9 : h 109 = N) (hO : okT N) (h4 : 0 ≤ N 44 ∧ N 44 ≤ 1) (hTp : TP (h 116) sz t) (ez : h 108 16 = sz)
    (k : ∀ e, (∀ a, a ≠ 108 → a ≠ 109 → a ≠ 118 → e a = h a) → (∀ j, j < 16 → e 108 j = h 108 j) → e 108 16 = 0 → (0 ≤ (rdF t sz 120 1 0 N).1 → e 109 = (rdF t sz 120 1 0 N).2) → ((rdF t sz 120 1 0 N).1 < 0 → e 109 = N) → K (rdF t sz 120 1 0 N).1 e) : ClI (d + 6) mX8_text [vr 108] h K := by
  have hz := hTp.1
  generalize hR : rdF t sz 120 1 0 N = R at k
  -- it went wrong
  have bad : ∀ (g : hT) (S : tkT), MR h g → MS t sz g S 1 → -1 - S.1 = R.1 → ∀ x y, Yr (d + 5) mX8_text 96 [vr 108, x, y] [] g (rI K) := by
    intro g S g0 g1 q x y
    have b0 := g1.2.2.2.1.1
    refine yr_aload_n (pq := 97) rfl dX8_text_96 rfl ?_
    refine yr_iconst (pq := 98) rfl dX8_text_97 ?_
    refine yr_putI (pq := 101) 16 rfl dX8_text_98 kF_8_252 (by decide) rfl rfl (by decide) ?_
    refine yr_aload_n (pq := 102) rfl dX8_text_101 rfl ?_
    refine yr_getI (pq := 105) 21 rfl dX8_text_102 kF_8_277 (by decide) rfl (by decide) ?_
    rw [up_k (show (21 : Int) ≠ 16 by decide), g1.2.2.2.2]
    refine yr_if_eq (pq := 108) (t := 115) rfl dX8_text_105 rfl (by omega) (fun q9 => absurd q9 (by decide)) (fun _ => ?_)
    refine yr_iconst (pq := 109) rfl dX8_text_108 ?_
    refine yr_aload_n (pq := 110) rfl dX8_text_109 rfl ?_
    refine yr_getI (pq := 113) 17 rfl dX8_text_110 kF_8_258 (by decide) rfl (by decide) ?_
    refine yr_isub (pq := 114) rfl dX8_text_113 ?_
    rw [up_k (show (17 : Int) ≠ 16 by decide), g1.2.2.1.1, q]
    have e9' : up g 108 16 0 109 = N := by rw [up_ne (by decide), g0.1 109 (by decide) (by decide)]; exact e9
    exact yr_iret dX8_text_114 rfl (k _ (fun a q1 q2 q3 => by rw [up_ne q1]; exact g0.1 a q1 q3) (fun j hj => by rw [up_k (by omega)]; exact g0.2 j (by omega)) (up_s _ _ _ _) (fun z => by omega) (fun _ => e9'))
  have bad39 : ∀ (g : hT) (S : tkT), MR h g → MS t sz g S 1 → -1 - S.1 = R.1 → ∀ x y, Yr (d + 5) mX8_text 39 [vr 108, x, y] [] g (rI K) := by
    intro g S g0 g1 q x y
    have m2 := MS_2 g1
    refine yr_aload_n (pq := 40) rfl dX8_text_39 rfl ?_
    refine yr_getI (pq := 43) 21 rfl dX8_text_40 kF_8_277 (by decide) rfl (by decide) ?_
    rw [g1.2.2.2.2]
    refine yr_if_ne (pq := 46) (t := 80) rfl dX8_text_43 rfl (by omega) (fun _ => ?_) (fun q9 => absurd q9 (by decide))
    refine yr_aload_n (pq := 81) rfl dX8_text_80 rfl ?_
    refine yr_aload_n (pq := 82) rfl dX8_text_81 rfl ?_
    refine yr_getI (pq := 85) 19 rfl dX8_text_82 kF_8_267 (by decide) rfl (by decide) ?_
    refine yr_if_ne (pq := 88) (t := 92) rfl dX8_text_85 rfl (by omega) (fun q2 => ?_) (fun q2 => ?_)
    · refine yr_iconst (pq := 93) rfl dX8_text_92 ?_
      refine yr_vV1 (pq := 96) rfl dX8_text_93 kM_8_284 (by decide) (by decide) cat0 (m_mustW g1 (fun u u0 u1 => ?_))
      exact bad u S (MR_t g0 (MR_w u0)) u1 q _ _
    · refine yr_iconst (pq := 89) rfl dX8_text_88 ?_
      refine yr_goto (t := 93) dX8_text_89 rfl ?_
      refine yr_vV1 (pq := 96) rfl dX8_text_93 kM_8_284 (by decide) (by decide) cat0 (m_mustW g1 (fun u u0 u1 => ?_))
      exact bad u S (MR_t g0 (MR_w u0)) u1 q _ _
  -- all is told
  have good : ∀ (g : hT) (S : tkT) (m i : Int) (P : Int → Int), MR h g → MS t sz g S 0 → g 108 24 = m → (0 ≤ m ∧ m ≤ 240) → g 108 25 = i → QI (g 118) N m P → (i, P) = R → 1 ≤ i → ∀ x y, Yr (d + 5) mX8_text 96 [vr 108, x, y] [] g (rI K) := by
    intro g S m i P g0 g1 g4 hm g5 gq gr i1 x y
    have okq := qF_ok hO h4 gq.1
    have loop : ∀ (c : Nat) (n : Nat) (u : hT), n + c = m.toNat → (∀ a, a ≠ 109 → u a = up g 108 16 0 a) → u 109 = qF (g 118) N n → Yr (d + 5) mX8_text 119 [vr 108, vi (n : Int), vi (n : Int)] [] u (rI K) := by
      intro c
      induction c with
      | zero =>
        intro n u hn u0 u9
        have u24 : u 108 24 = m := by rw [u0 108 (by decide), up_k (by decide)]; exact g4
        have u25 : u 108 25 = i := by rw [u0 108 (by decide), up_k (by decide)]; exact g5
        have enm : (n : Int) = m := by omega
        have e1 : R.1 = i := by rw [← gr]
        have e2 : R.2 = P := by rw [← gr]
        refine yr_iload_n (pq := 120) rfl dX8_text_119 rfl ?_
        refine yr_aload_n (pq := 121) rfl dX8_text_120 rfl ?_
        refine yr_getI (pq := 124) 24 rfl dX8_text_121 kF_8_288 (by decide) rfl (by decide) ?_
        rw [u24]
        refine yr_ic_ge (pq := 127) (t := 151) rfl dX8_text_124 rfl (by omega) (by omega) (fun _ => ?_) (fun q9 => absurd (by omega) q9)
        refine yr_iload_n (pq := 152) rfl dX8_text_151 rfl ?_
        refine yr_aload_n (pq := 153) rfl dX8_text_152 rfl ?_
        refine yr_getI (pq := 156) 24 rfl dX8_text_153 kF_8_288 (by decide) rfl (by decide) ?_
        rw [u24]
        refine yr_ic_ne (pq := 159) (t := 166) rfl dX8_text_156 rfl (by omega) (by omega) (fun q9 => absurd (by omega) q9) (fun _ => ?_)
        refine yr_aload_n (pq := 160) rfl dX8_text_159 rfl ?_
        refine yr_getI (pq := 163) 25 rfl dX8_text_160 kF_8_298 (by decide) rfl (by decide) ?_
        refine yr_goto (t := 167) dX8_text_163 rfl ?_
        rw [u25, ← e1]
        refine yr_iret dX8_text_167 rfl (k u (fun a q1 q2 q3 => ?_) (fun j hj => ?_) ?_ (fun _ => ?_) (fun z => by omega))
        · rw [u0 a q2, up_ne q1]; exact g0.1 a q1 q3
        · rw [u0 108 (by decide), up_k (by omega)]; exact g0.2 j (by omega)
        · rw [u0 108 (by decide), up_s]
        · rw [u9, e2, gq.2, show n = m.toNat by omega]
      | succ c ih =>
        intro n u hn u0 u9
        have u24 : u 108 24 = m := by rw [u0 108 (by decide), up_k (by decide)]; exact g4
        have u118 : u 118 = g 118 := by rw [u0 118 (by decide), up_ne (by decide)]
        obtain ⟨q1, q2⟩ := okq n (by omega)
        have q3 := gq.1 n (by omega)
        refine yr_iload_n (pq := 120) rfl dX8_text_119 rfl ?_
        refine yr_aload_n (pq := 121) rfl dX8_text_120 rfl ?_
        refine yr_getI (pq := 124) 24 rfl dX8_text_121 kF_8_288 (by decide) rfl (by decide) ?_
        rw [u24]
        refine yr_ic_ge (pq := 127) (t := 151) rfl dX8_text_124 rfl (by omega) (by omega) (fun q9 => absurd q9 (by omega)) (fun _ => ?_)
        refine yr_aload_n (pq := 128) rfl dX8_text_127 rfl ?_
        refine yr_iconst (pq := 129) rfl dX8_text_128 ?_
        refine yr_iload_n (pq := 130) rfl dX8_text_129 rfl ?_
        refine yr_imul (pq := 131) rfl dX8_text_130 ?_
        refine yr_vI1 (pq := 134) rfl dX8_text_131 kM_8_333 (by decide) (by decide) cat0 (m_isSo (k := (n : Int)) (by omega) u9 q1 q2 (by rw [u118]; exact q3) (fun r e r0 r1 e0 e1 => ?_))
        rw [u118] at e1
        refine yr_if_ge (pq := 137) (t := 141) rfl dX8_text_134 rfl (by omega) (fun _ => ?_) (fun q9 => absurd (by omega) q9)
        refine yr_iload_n (pq := 142) rfl dX8_text_141 rfl ?_
        refine yr_iconst (pq := 143) rfl dX8_text_142 ?_
        refine yr_iadd (pq := 144) rfl dX8_text_143 ?_
        refine yr_istore1 (pq := 145) rfl dX8_text_144 ?_
        refine yr_iinc2 (pq := 148) rfl dX8_text_145 ?_
        refine yr_goto (t := 119) dX8_text_148 rfl ?_
        exact ih (n + 1) e (by omega) (fun a ha => by rw [e0 a ha]; exact u0 a ha) e1
    refine yr_aload_n (pq := 97) rfl dX8_text_96 rfl ?_
    refine yr_iconst (pq := 98) rfl dX8_text_97 ?_
    refine yr_putI (pq := 101) 16 rfl dX8_text_98 kF_8_252 (by decide) rfl rfl (by decide) ?_
    refine yr_aload_n (pq := 102) rfl dX8_text_101 rfl ?_
    refine yr_getI (pq := 105) 21 rfl dX8_text_102 kF_8_277 (by decide) rfl (by decide) ?_
    rw [up_k (show (21 : Int) ≠ 16 by decide), g1.2.2.2.2]
    refine yr_if_eq (pq := 108) (t := 115) rfl dX8_text_105 rfl (by omega) (fun _ => ?_) (fun q9 => absurd (by decide) q9)
    refine yr_iconst (pq := 116) rfl dX8_text_115 ?_
    refine yr_istore1 (pq := 117) rfl dX8_text_116 ?_
    refine yr_iconst (pq := 118) rfl dX8_text_117 ?_
    refine yr_istore2 (pq := 119) rfl dX8_text_118 ?_
    exact loop m.toNat 0 _ (by omega) (fun _ _ => rfl) (by rw [up_ne (by decide), g0.1 109 (by decide) (by decide)]; exact e9)
  -- behind an item that was told well
  have loop : ∀ (n : Nat) (i m : Int) (g : hT) (S : tkT) (P : Int → Int), 1 ≤ i → i + n = 120 → MR h g → MS t sz g S 0 → tkQ t sz S → 2 * i ≤ S.1 + 1 → okT P → (0 ≤ P 44 ∧ P 44 ≤ 1) → g 108 24 = m → (0 ≤ m ∧ m ≤ 2 * i) → g 108 25 = i → g 108 26 = P 8 → QI (g 118) N m P → (if S.2.2.1 = 0 then (i, P) else if S.2.2.1 = 3 then rdF t sz n (i + 1) S.2.1 P else (-1 - S.1, P)).1 = R.1 → (0 ≤ R.1 → (if S.2.2.1 = 0 then (i, P) else if S.2.2.1 = 3 then rdF t sz n (i + 1) S.2.1 P else (-1 - S.1, P)).2 = R.2) → ∀ x y, Yr (d + 5) mX8_text 39 [vr 108, x, y] [] g (rI K) := by
    intro n
    induction n with
    | zero =>
      intro i m g S P i1 hn g0 g1 gt hp
      have := g1.2.2.2.1.1
      omega
    | succ n ih =>
      intro i m g S P i1 hn g0 g1 gt hp gO g4 gm hm gi g8 gq e1 e2 x y
      have b0 := g1.2.2.2.1.1
      have tb := g1.2.2.2.1.2.1
      have m2 := MS_2 g1
      have wrong : ¬ S.2.2.1 = 0 → ¬ S.2.2.1 = 3 → ∀ x y, Yr (d + 5) mX8_text 80 [vr 108, x, y] [] g (rI K) := by
        intro q1 q2 x y
        rw [if_neg q1, if_neg q2] at e1
        refine yr_aload_n (pq := 81) rfl dX8_text_80 rfl ?_
        refine yr_aload_n (pq := 82) rfl dX8_text_81 rfl ?_
        refine yr_getI (pq := 85) 19 rfl dX8_text_82 kF_8_267 (by decide) rfl (by decide) ?_
        refine yr_if_ne (pq := 88) (t := 92) rfl dX8_text_85 rfl (by omega) (fun _ => ?_) (fun q9 => absurd q9 (fun z => q1 (m2.2.2.1.mp z)))
        refine yr_iconst (pq := 93) rfl dX8_text_92 ?_
        refine yr_vV1 (pq := 96) rfl dX8_text_93 kM_8_284 (by decide) (by decide) cat0 (m_must0 g1 (fun u u0 u1 => ?_))
        exact bad u S (MR_t g0 (MR_w u0)) u1 e1 _ _
      refine yr_aload_n (pq := 40) rfl dX8_text_39 rfl ?_
      refine yr_getI (pq := 43) 21 rfl dX8_text_40 kF_8_277 (by decide) rfl (by decide) ?_
      rw [g1.2.2.2.2]
      refine yr_if_ne (pq := 46) (t := 80) rfl dX8_text_43 rfl (by omega) (fun q9 => absurd (by decide) q9) (fun _ => ?_)
      refine yr_aload_n (pq := 47) rfl dX8_text_46 rfl ?_
      refine yr_getI (pq := 50) 19 rfl dX8_text_47 kF_8_267 (by decide) rfl (by decide) ?_
      refine yr_iconst (pq := 51) rfl dX8_text_50 ?_
      refine yr_ic_ne (pq := 54) (t := 80) rfl dX8_text_51 rfl (by omega) (by omega) (fun q2 => ?_) (fun q2 => ?_)
      · by_cases q0 : S.2.2.1 = 0
        · rw [if_pos q0] at e1 e2
          refine yr_aload_n (pq := 81) rfl dX8_text_80 rfl ?_
          refine yr_aload_n (pq := 82) rfl dX8_text_81 rfl ?_
          refine yr_getI (pq := 85) 19 rfl dX8_text_82 kF_8_267 (by decide) rfl (by decide) ?_
          refine yr_if_ne (pq := 88) (t := 92) rfl dX8_text_85 rfl (by omega) (fun q9 => absurd (m2.2.2.1.mpr q0) q9) (fun _ => ?_)
          refine yr_iconst (pq := 89) rfl dX8_text_88 ?_
          refine yr_goto (t := 93) dX8_text_89 rfl ?_
          refine yr_vV1 (pq := 96) rfl dX8_text_93 kM_8_284 (by decide) (by decide) cat0 (m_must1 g1 (fun u u0 u1 => ?_))
          exact good u _ m i P (MR_t g0 (MR_w u0)) u1 (by rw [u0.2 24 (by decide)]; exact gm) (by omega) (by rw [u0.2 25 (by decide)]; exact gi) (by rw [u0.1 118 (by decide)]; exact gq) (by
            have z1 : i = R.1 := e1
            have z2 : P = R.2 := e2 (by omega)
            rw [z1, z2]) i1 _ _
        · exact wrong q0 (fun z => q2 (m2.2.2.2.mpr (Or.inl z))) _ _
      · have q3 := m2.2.2.2.mp q2
        have sg := gt.2 q3
        have ne := g1.2.2.2.1.2.2.2 (by omega)
        have tt := g1.1.2 S.1 b0.1 (by omega)
        refine yr_aload_n (pq := 55) rfl dX8_text_54 rfl ?_
        refine yr_getR (pq := 58) (b := 116) 15 rfl dX8_text_55 kF_8_35 (by decide) rfl ?_
        refine yr_aload_n (pq := 59) rfl dX8_text_58 rfl ?_
        refine yr_getI (pq := 62) 17 rfl dX8_text_59 kF_8_258 (by decide) rfl (by decide) ?_
        rw [g1.2.2.1.1]
        refine yr_iald (pq := 63) rfl dX8_text_62 rfl (by decide) (by omega) ?_
        refine yr_bipush (pq := 65) rfl dX8_text_63 rfl ?_
        rw [tt.1]
        refine yr_ic_ne (pq := 68) (t := 80) rfl dX8_text_65 rfl (by omega) (by omega) (fun q4 => ?_) (fun q4 => ?_)
        · exact wrong (by omega) (fun z => q4 (sg.mp z)) _ _
        · have q5 := sg.mpr q4
          rw [if_neg (by omega), if_pos q5] at e1 e2
          refine yr_aload_n (pq := 69) rfl dX8_text_68 rfl ?_
          refine yr_iconst (pq := 70) rfl dX8_text_69 ?_
          refine yr_vV1 (pq := 73) rfl dX8_text_70 kM_8_284 (by decide) (by decide) cat0 (m_must1 g1 (fun u u0 u1 => ?_))
          have en : nx t sz S = tkF t sz S.2.1 := rfl
          have k0 := tkF_ok (t := t) (sz := sz) (e := S.2.1) b0.2.2
          rw [← en] at k0
          obtain ⟨oi, og⟩ := OI_it (t := t) (P := P) k0 gO g4
          rw [rdF, ← en] at e1 e2
          refine yr_aload_n (pq := 74) rfl dX8_text_73 rfl ?_
          refine yr_vV0 (pq := 77) rfl dX8_text_74 kM_8_330 (by decide) (by decide) cat0 (m_readItem (m := m) (i := i) u1 gO g4 (by rw [u0.2 24 (by decide)]; exact gm) (by omega) (by rw [u0.2 25 (by decide)]; exact gi) (by rw [u0.2 26 (by decide)]; exact g8) (fun ok e ge => ?_) (fun no e be => ?_))
          · rw [if_pos ok] at e1 e2
            obtain ⟨v1, v2, v3, v4⟩ := oi.2 ok
            obtain ⟨o1, o2⟩ := og ok
            obtain ⟨j0, j1, j2, j3, j4, j5⟩ := ge
            have ne2 := k0.2.2.2 (by omega)
            have kb := k0.1
            have gq2 := QI_x hm.1 gq (fun j hj => by rw [j5 j hj, u0.1 118 (by decide)]) j4
            refine yr_goto (t := 39) dX8_text_77 rfl ?_
            refine ih (i + 1) (e 108 24) e _ _ (by omega) (by omega) (MR_t g0 (MR_t (MR_w u0) j0)) j1 (it_ind (tkQ t sz) tkQ_n (tkQ_n S gt) P) (by omega) v1 v3 rfl (by omega) j2 j3 gq2.1 ?_ (fun z => ?_) _ _
            · rw [← e1]
              split
              · rfl
              · split <;> rfl
            · rw [← e2 z]
              rw [← e1] at z
              split at z
              · rename_i q; rw [if_pos q, if_pos q]
              · rename_i q
                rw [if_neg q, if_neg q]
                split at z
                · rename_i q3; rw [if_pos q3, if_pos q3]
                · have := oi.1.1
                  simp only at z
                  omega
          · rw [if_neg no] at e1
            refine yr_goto (t := 39) dX8_text_77 rfl ?_
            exact bad39 e _ (MR_t g0 (MR_t (MR_w u0) be.1)) be.2 e1 _ _
  refine cl_in (al := [vr 108, .null, .null]) rfl (Nat.le_of_ble_eq_true rfl) (by simp [vi_cat, vr_cat, vs_cat]) ?_
  refine yr_aload_n (pq := 1) rfl dX8_text_0 rfl ?_
  refine yr_iconst (pq := 2) rfl dX8_text_1 ?_
  refine yr_putI (pq := 5) 18 rfl dX8_text_2 kF_8_255 (by decide) rfl rfl (by decide) ?_
  refine yr_aload_n (pq := 6) rfl dX8_text_5 rfl ?_
  refine yr_iconst (pq := 7) rfl dX8_text_6 ?_
  refine yr_putZ (pq := 10) 21 rfl dX8_text_7 kF_8_277 (by decide) rfl rfl (by decide) (by first | decide | omega) ?_
  refine yr_aload_n (pq := 11) rfl dX8_text_10 rfl ?_
  refine yr_iconst (pq := 12) rfl dX8_text_11 ?_
  refine yr_putI (pq := 15) 24 rfl dX8_text_12 kF_8_288 (by decide) rfl rfl (by decide) ?_
  refine yr_aload_n (pq := 16) rfl dX8_text_15 rfl ?_
  refine yr_iconst (pq := 17) rfl dX8_text_16 ?_
  refine yr_putI (pq := 20) 25 rfl dX8_text_17 kF_8_298 (by decide) rfl rfl (by decide) ?_
  refine yr_aload_n (pq := 21) rfl dX8_text_20 rfl ?_
  refine yr_aload_n (pq := 22) rfl dX8_text_21 rfl ?_
  refine yr_getR (pq := 25) (b := 109) 0 rfl dX8_text_22 kF_8_9 (by decide) rfl ?_
  refine yr_bipush (pq := 27) rfl dX8_text_25 rfl ?_
  refine yr_iald (pq := 28) rfl dX8_text_27 rfl (by decide) (by omega) ?_
  refine yr_putI (pq := 31) 26 rfl dX8_text_28 kF_8_301 (by decide) rfl rfl (by decide) ?_
  refine yr_aload_n (pq := 32) rfl dX8_text_31 rfl ?_
  simp (disch := omega) only [up_o]
  rw [e9]
  have B1 : ∀ a, a ≠ 108 → up (up (up (up (up h 108 18 0) 108 21 0) 108 24 0) 108 25 0) 108 26 (N 8) a = h a := fun a q => by rw [up_ne q, up_ne q, up_ne q, up_ne q, up_ne q]
  have B2 : ∀ j, (j < 17 ∨ 26 < j) → up (up (up (up (up h 108 18 0) 108 21 0) 108 24 0) 108 25 0) 108 26 (N 8) 108 j = h 108 j := fun j q => by rw [up_k (by omega), up_k (by omega), up_k (by omega), up_k (by omega), up_k (by omega)]
  have B18 : up (up (up (up (up h 108 18 0) 108 21 0) 108 24 0) 108 25 0) 108 26 (N 8) 108 18 = 0 := by simp (disch := omega) only [up_k, up_s]
  have B21 : up (up (up (up (up h 108 18 0) 108 21 0) 108 24 0) 108 25 0) 108 26 (N 8) 108 21 = 0 := by simp (disch := omega) only [up_k, up_s]
  have B24 : up (up (up (up (up h 108 18 0) 108 21 0) 108 24 0) 108 25 0) 108 26 (N 8) 108 24 = 0 := by simp (disch := omega) only [up_k, up_s]
  have B25 : up (up (up (up (up h 108 18 0) 108 21 0) 108 24 0) 108 25 0) 108 26 (N 8) 108 25 = 0 := by simp (disch := omega) only [up_k, up_s]
  have B26 : up (up (up (up (up h 108 18 0) 108 21 0) 108 24 0) 108 25 0) 108 26 (N 8) 108 26 = N 8 := up_s _ _ _ _
  generalize up (up (up (up (up h 108 18 0) 108 21 0) 108 24 0) 108 25 0) 108 26 (N 8) = f at B1 B2 B18 B21 B24 B25 B26 ⊢
  have mf : MR h f := ⟨fun a q _ => B1 a q, B2⟩
  refine yr_vV0 (pq := 35) rfl dX8_text_32 kM_8_281 (by decide) (by decide) cat0 (m_next (t := t) (sz := sz) (e := 0) (by rw [B1 116 (by decide)]; exact hTp) (by rw [B2 16 (by decide)]; exact ez) B18 (by omega) (fun g v c => ?_))
  have k0 := tkF_ok (t := t) (sz := sz) (e := 0) hz.1
  have kb := k0.1
  have G : MS t sz g (tkF t sz 0) 0 := ⟨by rw [v.1 116 (by decide), B1 116 (by decide)]; exact hTp, by rw [v.2 16 (by decide), B2 16 (by decide)]; exact ez, c, k0, by rw [v.2 21 (by decide)]; exact B21⟩
  have mg : MR h g := MR_t mf ⟨fun a q _ => v.1 a q, fun j hj => v.2 j (by omega)⟩
  obtain ⟨oi, og⟩ := OI_it (t := t) (P := N) k0 hO h4
  have er : R = if (itF t sz (tkF t sz 0) N).1 = true then (if (itF t sz (tkF t sz 0) N).2.1.2.2.1 = 0 then (1, (itF t sz (tkF t sz 0) N).2.2) else if (itF t sz (tkF t sz 0) N).2.1.2.2.1 = 3 then rdF t sz 119 (1 + 1) (itF t sz (tkF t sz 0) N).2.1.2.1 (itF t sz (tkF t sz 0) N).2.2 else (-1 - (itF t sz (tkF t sz 0) N).2.1.1, N)) else (-1 - (itF t sz (tkF t sz 0) N).2.1.1, N) := by rw [← hR]; rfl
  refine yr_aload_n (pq := 36) rfl dX8_text_35 rfl ?_
  refine yr_vV0 (pq := 39) rfl dX8_text_36 kM_8_330 (by decide) (by decide) cat0 (m_readItem (m := 0) (i := 0) G hO h4 (by rw [v.2 24 (by decide)]; exact B24) (by decide) (by rw [v.2 25 (by decide)]; exact B25) (by rw [v.2 26 (by decide)]; exact B26) (fun ok e ge => ?_) (fun no e be => ?_))
  · rw [if_pos ok] at er
    obtain ⟨v1, v2, v3, v4⟩ := oi.2 ok
    obtain ⟨o1, o2⟩ := og ok
    obtain ⟨j0, j1, j2, j3, j4, j5⟩ := ge
    have ne2 := k0.2.2.2 (by omega)
    have gq2 := QI_x (f := g 118) (N := N) (P := N) (Int.le_refl 0) ⟨fun k hk => by omega, rfl⟩ (fun j hj => j5 j hj) j4
    refine loop 119 1 (e 108 24) e _ _ (by omega) (by omega) (MR_t mg j0) j1 (it_ind (tkQ t sz) tkQ_n (tkQ_F ⟨Int.le_refl 0, hz.1⟩) N) (by omega) v1 v3 rfl (by omega) (by rw [j2]; rfl) j3 gq2.1 ?_ (fun z => ?_) _ _
    · rw [er]
      split
      · rfl
      · split <;> rfl
    · rw [er] at z ⊢
      split at z
      · rename_i q; rw [if_pos q, if_pos q]
      · rename_i q
        rw [if_neg q, if_neg q]
        split at z
        · rename_i q3; rw [if_pos q3, if_pos q3]
        · have := (it_ind (tkQ t sz) tkQ_n (tkQ_F ⟨Int.le_refl 0, hz.1⟩) N).1.1
          simp only at z
          omega
  · rw [if_neg no] at er
    exact bad39 e _ (MR_t mg be.1) be.2 (by rw [er]) _ _
end TT
