/-! the reference's search -/
theorem z_rg (x : Int32) : -2147483648 ≤ x.toInt ∧ x.toInt ≤ 2147483647 := by
  have hl : x.toBitVec.toNat < 4294967296 := x.toBitVec.isLt
  show -2147483648 ≤ x.toBitVec.toInt ∧ x.toBitVec.toInt ≤ 2147483647
  rw [BitVec.toInt_eq_toNat_cond]
  split <;> omega
theorem ia_rg (a b : Int) : -2147483648 ≤ ia a b ∧ ia a b ≤ 2147483647 := z_rg _
section CY
variable {d : Nat} {h : hT} {K : Int → hT → Prop} {KV : hT → Prop} {N : Int → Int}
/-- there and back again -/
theorem FR_step {k s c : Int} {g g1 g2 g3 g4 g5 : hT} (hk : 0 ≤ k ∧ k ≤ 7)
    (a1 : ∀ a, a ≠ 113 → g1 a = g a) (a2 : ∀ i, 0 ≤ i → i < 8 → g1 113 (8 * k + i) = g 109 (45 + i)) (a3 : ∀ j, j < 8 * k → g1 113 j = g 113 j)
    (b1 : ∀ b, b ≠ 109 → g2 b = g1 b) (b2 : g2 109 = carN (g1 109) s c) (e3 : ∀ a, a ≠ 114 → g3 a = g2 a) (e4 : ∀ j, j < k → g3 114 j = g2 114 j)
    (f : FR (k + 1) g3 g4) (c1 : ∀ a, a ≠ 109 → g5 a = g4 a) (c2 : ∀ i, 0 ≤ i → i < 8 → g5 109 (45 + i) = g4 113 (8 * k + i)) (c3 : ∀ j, (j < 45 ∨ 53 ≤ j) → g5 109 j = g4 109 j) : FR k g g5 := by
  obtain ⟨f1, f2, f3, f4, f5⟩ := f
  refine ⟨fun a q1 q2 q3 q4 q5 => ?_, ?_, fun j q1 q2 q3 q4 => ?_, fun j q => ?_, fun j q => ?_⟩
  · rw [c1 a q2, f1 a q1 q2 q3 q4 q5, e3 a q4, b1 a q2, a1 a q3]
  · funext j
    by_cases q : j < 45 ∨ 53 ≤ j
    · rw [c3 j q, f2, e3 109 (by decide), b2, carN_lo q, a1 109 (by decide)]
    · have ej : j = 45 + (j - 45) := by omega
      rw [ej, c2 (j - 45) (by omega) (by omega), f4 _ (by omega), e3 113 (by decide), b1 113 (by decide), a2 _ (by omega) (by omega)]
  · rw [c1 108 (by decide), f3 j q1 q2 q3 q4, e3 108 (by decide), b1 108 (by decide), a1 108 (by decide)]
  · rw [c1 113 (by decide), f4 j (by omega), e3 113 (by decide), b1 113 (by decide), a3 j q]
  · rw [c1 114 (by decide), f5 j (by omega), e4 j q, b1 114 (by decide), a1 114 (by decide)]
theorem AR_cong {h h' : hT} {A : aT} (hA : AR h A) (e1 : h' 108 = h 108) (e2 : h' 115 = h 115) : AR h' A := by
  unfold AR at hA ⊢
  rw [e1, e2]
  exact hA
/-- a set and one corner more -/
theorem or_bit {v c : Nat} (hv : v < 256) (hc : c < 8) : io (v : Int) (il 1 (c : Int)) = ((v ||| 2 ^ c : Nat) : Int) := by
  have hp : 2 ^ c < 2147483648 := Nat.lt_of_lt_of_le (Nat.pow_lt_pow_right (by decide) hc) (by decide)
  rw [il_nat (by omega), io_nat (by omega) hp]
theorem m_waysOn {g w o due b : Int} (hg : 0 ≤ g ∧ g ≤ 7) (hw : -1 ≤ w ∧ w ≤ 14) (hb : 0 ≤ b ∧ b ≤ 999) : ∀ (n : Nat) (d : Nat) (h : hT) (N : Int → Int) (v : Nat) (k : Int) (p : Int → Int) (A : aT) (KV : hT → Prop), h 109 = N → okT N → okS N → N 50 + 30 * n ≤ b + 240 → b ≤ N 50 → v < 256 → ((pcF v : Nat) : Int) = k + 1 → 0 ≤ k → k + n = 8 → h 108 5 = w → AR h A → (∀ j, 0 ≤ j → j < k → h 114 j = p j) →
    (∀ h', FR k h h' → AR h' (dfsF g w o due b n N v k p A) → KV h') → ClV (d + n + 7) mX8_waysOn [vr 108, vi g, vi (v : Int), vi k, vi b] h KV := by
  intro n
  induction n with
  | zero =>
    intro d h N v k p A KV hN hO hS h1 h2 h3 h4 h5 h6
    have := pcF_b v
    omega
  | succ n IH =>
    intro d h N v k p A KV hN hO hS h1 h2 h3 h4 h5 h6 h7 h8 h9 kk
    rw [show d + (n + 1) + 7 = d + n + 1 + 7 by omega]
    have ht := okS_tot hS
    have hS0 := hS
    obtain ⟨a1, a2, a3, a4, a5, a6⟩ := hS0
    have key : ∀ (m : Nat) (c : Nat) (f : hT) (B : aT), c + m = 8 → FR k h f → AR f B → (∀ h', FR k h h' → AR h' (lpF (fun c A => if v.testBit c = true then A else if 0 ≤ byF N w (N 49) (c : Int) then dfsF g w o due b n (carN N (byF N w (N 49) (c : Int)) (c : Int)) (v ||| 2 ^ c) (k + 1) (ur p k (c : Int)) A else A) c m B) → KV h') → ∀ x, Yr (d + n + 1 + 6) mX8_waysOn 30 [vr 108, vi g, vi (v : Int), vi k, vi b, vi (c : Int), x] [] f (rV KV) := by
      intro m
      induction m with
      | zero =>
        intro c f B hc hf hB kk x
        refine yr_iload (pq := 32) rfl dX8_waysOn_30 rfl ?_
        refine yr_bipush (pq := 34) rfl dX8_waysOn_32 rfl ?_
        refine yr_ic_ge (pq := 37) (t := 118) rfl dX8_waysOn_34 rfl (by omega) (by omega) (fun _ => ?_) (fun q9 => absurd (by omega) q9)
        refine yr_vret dX8_waysOn_118 rfl (kk f hf hB)
      | succ m ih =>
        intro c f B hc hf hB kk x
        rw [lpF] at kk
        have fN : f 109 = N := hf.2.1.trans hN
        have f5 : f 108 5 = w := (hf.2.2.1 5 (by decide) (by decide) (by decide) (by decide)).trans h7
        have hO8 := hO.1
        have hb9 := byF_b (N := N) (w := w) (a := N 49) (b := (c : Int))
        refine yr_iload (pq := 32) rfl dX8_waysOn_30 rfl ?_
        refine yr_bipush (pq := 34) rfl dX8_waysOn_32 rfl ?_
        refine yr_ic_ge (pq := 37) (t := 118) rfl dX8_waysOn_34 rfl (by omega) (by omega) (fun q9 => absurd q9 (by omega)) (fun _ => ?_)
        refine yr_iload_n (pq := 38) rfl dX8_waysOn_37 rfl ?_
        refine yr_iload (pq := 40) rfl dX8_waysOn_38 rfl ?_
        refine yr_sI2 (pq := 43) rfl dX8_waysOn_40 kM_8_185 (by decide) cat0 (m_has (by omega) (by omega) (fun q => ?_) (fun q => ?_))
        · rw [if_pos q] at kk
          refine yr_if_eq (pq := 46) (t := 50) rfl dX8_waysOn_43 rfl (by decide) (fun q9 => absurd q9 (by decide)) (fun _ => ?_)
          refine yr_iconst (pq := 47) rfl dX8_waysOn_46 ?_
          refine yr_goto (t := 63) dX8_waysOn_47 rfl ?_
          refine yr_istore6 (pq := 65) rfl dX8_waysOn_63 ?_
          refine yr_iload (pq := 67) rfl dX8_waysOn_65 rfl ?_
          refine yr_if_lt (pq := 70) (t := 112) rfl dX8_waysOn_67 rfl (by decide) (fun _ => ?_) (fun q9 => absurd (by decide) q9)
          refine yr_iinc5 (pq := 115) rfl dX8_waysOn_112 ?_
          refine yr_goto (t := 30) dX8_waysOn_115 rfl ?_
          exact ih (c + 1) f B (by omega) hf hB kk _
        · rw [if_neg q] at kk
          refine yr_if_eq (pq := 46) (t := 50) rfl dX8_waysOn_43 rfl (by decide) (fun _ => ?_) (fun q9 => absurd (by decide) q9)
          refine yr_aload_n (pq := 51) rfl dX8_waysOn_50 rfl ?_
          refine yr_aload_n (pq := 52) rfl dX8_waysOn_51 rfl ?_
          refine yr_getR (pq := 55) (b := 109) 0 rfl dX8_waysOn_52 kF_8_9 (by decide) rfl ?_
          refine yr_bipush (pq := 57) rfl dX8_waysOn_55 rfl ?_
          refine yr_iald (pq := 58) rfl dX8_waysOn_57 rfl (by decide) (by omega) ?_
          refine yr_iload (pq := 60) rfl dX8_waysOn_58 rfl ?_
          rw [fN]
          refine yr_vI2 (pq := 63) rfl dX8_waysOn_60 kM_8_138 (by decide) (by decide) cat0 (m_streetBy (w := w) (by rw [fN]; exact hO) f5 hw (by omega) (by omega) ?_)
          rw [fN]
          refine yr_istore6 (pq := 65) rfl dX8_waysOn_63 ?_
          refine yr_iload (pq := 67) rfl dX8_waysOn_65 rfl ?_
          refine yr_if_lt (pq := 70) (t := 112) rfl dX8_waysOn_67 rfl (by omega) (fun q2 => ?_) (fun q2 => ?_)
          · rw [if_neg (by omega)] at kk
            refine yr_iinc5 (pq := 115) rfl dX8_waysOn_112 ?_
            refine yr_goto (t := 30) dX8_waysOn_115 rfl ?_
            exact ih (c + 1) f B (by omega) hf hB kk _
          · rw [if_pos (by omega)] at kk
            have hs : 0 ≤ byF N w (N 49) (c : Int) ∧ byF N w (N 49) (c : Int) < N 8 := by omega
            generalize byF N w (N 49) (c : Int) = s at hs kk ⊢
            have htk := takesF_b hO hs.1 hs.2
            have hpc := pc_add ⟨v, h3⟩ ⟨c, by omega⟩ (by simpa using q)
            simp only at hpc
            have hp8 := pcF_b (v ||| 2 ^ c)
            refine yr_aload_n (pq := 71) rfl dX8_waysOn_70 rfl ?_
            refine yr_iload_n (pq := 72) rfl dX8_waysOn_71 rfl ?_
            refine yr_vV1 (pq := 75) rfl dX8_waysOn_72 kM_8_188 (by decide) (by decide) cat0 (m_keepAhead (by omega) (fun g1 x1 x2 x3 => ?_))
            have gN : g1 109 = N := (x1 109 (by decide)).trans fN
            refine yr_aload_n (pq := 76) rfl dX8_waysOn_75 rfl ?_
            refine yr_iload (pq := 78) rfl dX8_waysOn_76 rfl ?_
            refine yr_iload (pq := 80) rfl dX8_waysOn_78 rfl ?_
            refine yr_vV2 (pq := 83) rfl dX8_waysOn_80 kM_8_160 (by decide) (by decide) cat0 (m_carried (by rw [gN]; exact hO) (by rw [gN]; exact hS) hs.1 (by rw [gN]; exact hs.2) (by omega) (fun g2 y1 y2 => ?_))
            have hpt : ∀ j, 0 ≤ j → j < k + 1 → up g2 114 k (c : Int) 114 j = ur p k (c : Int) j := by
              intro j j0 j1
              by_cases e : j = k
              · subst e; rw [up_s, ur_s]
              · rw [up_k e, ur_o e, y1 114 (by decide), x1 114 (by decide), hf.2.2.2.2 j (by omega)]; exact h9 j j0 (by omega)
            refine yr_aload_n (pq := 84) rfl dX8_waysOn_83 rfl ?_
            refine yr_getR (pq := 87) (b := 114) 7 rfl dX8_waysOn_84 kF_8_29 (by decide) rfl ?_
            refine yr_iload_n (pq := 88) rfl dX8_waysOn_87 rfl ?_
            refine yr_iload (pq := 90) rfl dX8_waysOn_88 rfl ?_
            refine yr_iast (pq := 91) rfl dX8_waysOn_90 rfl (by decide) (by omega) ?_
            refine yr_aload_n (pq := 92) rfl dX8_waysOn_91 rfl ?_
            refine yr_iload_n (pq := 93) rfl dX8_waysOn_92 rfl ?_
            refine yr_iload_n (pq := 94) rfl dX8_waysOn_93 rfl ?_
            refine yr_iconst (pq := 95) rfl dX8_waysOn_94 ?_
            refine yr_iload (pq := 97) rfl dX8_waysOn_95 rfl ?_
            refine yr_ishl (pq := 98) rfl dX8_waysOn_97 ?_
            refine yr_ior (pq := 99) rfl dX8_waysOn_98 ?_
            refine yr_iload_n (pq := 100) rfl dX8_waysOn_99 rfl ?_
            refine yr_iconst (pq := 101) rfl dX8_waysOn_100 ?_
            refine yr_iadd (pq := 102) rfl dX8_waysOn_101 ?_
            refine yr_iload (pq := 104) rfl dX8_waysOn_102 rfl ?_
            rw [or_bit h3 (by omega)]
            have e50 : carN N s (c : Int) 50 = N 50 + takesF N s := rfl
            refine yr_vV4 (pq := 107) rfl dX8_waysOn_104 kM_8_191 (by decide) (by decide) cat0 (IH d _ (carN N s (c : Int)) (v ||| 2 ^ c) (k + 1) (ur p k (c : Int)) B _ (by rw [up_ne (by decide), y2, gN]) (okT_row hO (fun j hj => carN_lo (by omega))) (carN_okS hO hS hs.1 hs.2 (by omega) (by omega)) (by omega) (by omega) hpc.1 (by omega) (by omega) (by omega) (by rw [up_ne (by decide), y1 108 (by decide), x1 108 (by decide)]; exact f5) (AR_cong hB (by rw [up_ne (by decide), y1 108 (by decide), x1 108 (by decide)]) (by rw [up_ne (by decide), y1 115 (by decide), x1 115 (by decide)])) hpt (fun g4 z1 z2 => ?_))
            refine yr_aload_n (pq := 108) rfl dX8_waysOn_107 rfl ?_
            refine yr_iload_n (pq := 109) rfl dX8_waysOn_108 rfl ?_
            refine yr_vV1 (pq := 112) rfl dX8_waysOn_109 kM_8_195 (by decide) (by decide) cat0 (m_backTo (by omega) (fun g5 w1 w2 w3 => ?_))
            refine yr_iinc5 (pq := 115) rfl dX8_waysOn_112 ?_
            refine yr_goto (t := 30) dX8_waysOn_115 rfl ?_
            exact ih (c + 1) g5 _ (by omega) (FR_t hf (FR_step (by omega) x1 x2 x3 y1 y2 (fun a ha => up_ne ha) (fun j hj => up_k (by omega)) z1 w1 w2 w3)) (AR_cong z2 (w1 108 (by decide)) (w1 115 (by decide))) kk _
    refine cl_in (al := [vr 108, vi g, vi (v : Int), vi k, vi b, .null, .null]) rfl (Nat.le_of_ble_eq_true rfl) (by simp [vi_cat, vr_cat, vs_cat]) ?_
    rw [dfsF] at kk
    refine yr_aload_n (pq := 1) rfl dX8_waysOn_0 rfl ?_
    refine yr_getR (pq := 4) (b := 109) 0 rfl dX8_waysOn_1 kF_8_9 (by decide) rfl ?_
    refine yr_bipush (pq := 6) rfl dX8_waysOn_4 rfl ?_
    refine yr_iald (pq := 7) rfl dX8_waysOn_6 rfl (by decide) (by omega) ?_
    refine yr_iload_n (pq := 8) rfl dX8_waysOn_7 rfl ?_
    rw [hN]
    refine yr_ic_ne (pq := 11) (t := 27) rfl dX8_waysOn_8 rfl (by omega) (by omega) (fun q => ?_) (fun q => ?_)
    · rw [if_neg q] at kk
      have ec : clsF g w o due N k p A = A := if_neg (by omega)
      rw [ec] at kk
      refine yr_iconst (pq := 28) rfl dX8_waysOn_27 ?_
      refine yr_istore5 (pq := 30) rfl dX8_waysOn_28 ?_
      exact key 8 0 h A (by omega) (FR_r k h) h8 kk _
    · rw [if_pos (by omega)] at kk
      refine yr_aload_n (pq := 12) rfl dX8_waysOn_11 rfl ?_
      refine yr_iload_n (pq := 13) rfl dX8_waysOn_12 rfl ?_
      refine yr_aload_n (pq := 14) rfl dX8_waysOn_13 rfl ?_
      refine yr_getR (pq := 17) (b := 109) 0 rfl dX8_waysOn_14 kF_8_9 (by decide) rfl ?_
      refine yr_bipush (pq := 19) rfl dX8_waysOn_17 rfl ?_
      refine yr_iald (pq := 20) rfl dX8_waysOn_19 rfl (by decide) (by omega) ?_
      refine yr_iload (pq := 22) rfl dX8_waysOn_20 rfl ?_
      refine yr_isub (pq := 23) rfl dX8_waysOn_22 ?_
      rw [hN]
      refine yr_vV2 (pq := 26) rfl dX8_waysOn_23 kM_8_182 (by decide) (by decide) cat0 (m_isWhole (A := A) (p := p) h8 (by rw [hN]; exact ht) (by omega) (by omega) h9 (fun g1 x1 x2 x3 => ?_))
      rw [hN] at x3
      refine yr_vret dX8_waysOn_26 rfl (kk g1 ⟨fun a q1 q2 q3 q4 q5 => x1 a q1 q5, x1 109 (by decide) (by decide), x2, fun j _ => by rw [x1 113 (by decide) (by decide)], fun j _ => by rw [x1 114 (by decide) (by decide)]⟩ x3)
theorem m_roundsOn {g w o due b : Int} (hg : g = -1) (ho : 0 ≤ o ∧ o ≤ 7) (hw : -1 ≤ w ∧ w ≤ 14) (hb : 0 ≤ b ∧ b ≤ 999) : ∀ (n : Nat) (d : Nat) (h : hT) (N : Int → Int) (v : Nat) (k : Int) (p : Int → Int) (A : aT) (KV : hT → Prop), h 109 = N → okT N → okS N → N 50 + 30 * n ≤ b + 240 → v < 256 → ((pcF v : Nat) : Int) = k + 1 → 0 ≤ k → k + n = 8 → h 108 5 = w → AR h A → (∀ j, 0 ≤ j → j < k → h 114 j = p j) →
    (∀ h', FR k h h' → AR h' (dfsF g w o due b n N v k p A) → KV h') → ClV (d + n + 7) mX8_roundsOn [vr 108, vi o, vi (v : Int), vi k, vi due] h KV := by
  intro n
  induction n with
  | zero =>
    intro d h N v k p A KV hN hO hS h1 h3 h4 h5 h6
    have := pcF_b v
    omega
  | succ n IH =>
    intro d h N v k p A KV hN hO hS h1 h3 h4 h5 h6 h7 h8 h9 kk
    rw [show d + (n + 1) + 7 = d + n + 1 + 7 by omega]
    have ht := okS_tot hS
    have hS0 := hS
    obtain ⟨a1, a2, a3, a4, a5, a6⟩ := hS0
    have key : ∀ (m : Nat) (c : Nat) (f : hT) (B : aT), c + m = 8 → FR k h f → AR f B → (∀ h', FR k h h' → AR h' (lpF (fun c A => if v.testBit c = true then A else if 0 ≤ byF N w (N 49) (c : Int) then dfsF g w o due b n (carN N (byF N w (N 49) (c : Int)) (c : Int)) (v ||| 2 ^ c) (k + 1) (ur p k (c : Int)) A else A) c m B) → KV h') → ∀ y x, Yr (d + n + 1 + 6) mX8_roundsOn 68 [vr 108, vi o, vi (v : Int), vi k, vi due, y, vi (c : Int), x] [] f (rV KV) := by
      intro m
      induction m with
      | zero =>
        intro c f B hc hf hB kk y x
        refine yr_iload (pq := 70) rfl dX8_roundsOn_68 rfl ?_
        refine yr_bipush (pq := 72) rfl dX8_roundsOn_70 rfl ?_
        refine yr_ic_ge (pq := 75) (t := 156) rfl dX8_roundsOn_72 rfl (by omega) (by omega) (fun _ => ?_) (fun q9 => absurd (by omega) q9)
        refine yr_vret dX8_roundsOn_156 rfl (kk f hf hB)
      | succ m ih =>
        intro c f B hc hf hB kk y x
        rw [lpF] at kk
        have fN : f 109 = N := hf.2.1.trans hN
        have f5 : f 108 5 = w := (hf.2.2.1 5 (by decide) (by decide) (by decide) (by decide)).trans h7
        have hO8 := hO.1
        have hb9 := byF_b (N := N) (w := w) (a := N 49) (b := (c : Int))
        refine yr_iload (pq := 70) rfl dX8_roundsOn_68 rfl ?_
        refine yr_bipush (pq := 72) rfl dX8_roundsOn_70 rfl ?_
        refine yr_ic_ge (pq := 75) (t := 156) rfl dX8_roundsOn_72 rfl (by omega) (by omega) (fun q9 => absurd q9 (by omega)) (fun _ => ?_)
        refine yr_iload_n (pq := 76) rfl dX8_roundsOn_75 rfl ?_
        refine yr_iload (pq := 78) rfl dX8_roundsOn_76 rfl ?_
        refine yr_sI2 (pq := 81) rfl dX8_roundsOn_78 kM_8_185 (by decide) cat0 (m_has (by omega) (by omega) (fun q => ?_) (fun q => ?_))
        · rw [if_pos q] at kk
          refine yr_if_eq (pq := 84) (t := 88) rfl dX8_roundsOn_81 rfl (by decide) (fun q9 => absurd q9 (by decide)) (fun _ => ?_)
          refine yr_iconst (pq := 85) rfl dX8_roundsOn_84 ?_
          refine yr_goto (t := 101) dX8_roundsOn_85 rfl ?_
          refine yr_istore7 (pq := 103) rfl dX8_roundsOn_101 ?_
          refine yr_iload (pq := 105) rfl dX8_roundsOn_103 rfl ?_
          refine yr_if_lt (pq := 108) (t := 150) rfl dX8_roundsOn_105 rfl (by decide) (fun _ => ?_) (fun q9 => absurd (by decide) q9)
          refine yr_iinc6 (pq := 153) rfl dX8_roundsOn_150 ?_
          refine yr_goto (t := 68) dX8_roundsOn_153 rfl ?_
          exact ih (c + 1) f B (by omega) hf hB kk _ _
        · rw [if_neg q] at kk
          refine yr_if_eq (pq := 84) (t := 88) rfl dX8_roundsOn_81 rfl (by decide) (fun _ => ?_) (fun q9 => absurd (by decide) q9)
          refine yr_aload_n (pq := 89) rfl dX8_roundsOn_88 rfl ?_
          refine yr_aload_n (pq := 90) rfl dX8_roundsOn_89 rfl ?_
          refine yr_getR (pq := 93) (b := 109) 0 rfl dX8_roundsOn_90 kF_8_9 (by decide) rfl ?_
          refine yr_bipush (pq := 95) rfl dX8_roundsOn_93 rfl ?_
          refine yr_iald (pq := 96) rfl dX8_roundsOn_95 rfl (by decide) (by omega) ?_
          refine yr_iload (pq := 98) rfl dX8_roundsOn_96 rfl ?_
          rw [fN]
          refine yr_vI2 (pq := 101) rfl dX8_roundsOn_98 kM_8_138 (by decide) (by decide) cat0 (m_streetBy (w := w) (by rw [fN]; exact hO) f5 hw (by omega) (by omega) ?_)
          rw [fN]
          refine yr_istore7 (pq := 103) rfl dX8_roundsOn_101 ?_
          refine yr_iload (pq := 105) rfl dX8_roundsOn_103 rfl ?_
          refine yr_if_lt (pq := 108) (t := 150) rfl dX8_roundsOn_105 rfl (by omega) (fun q2 => ?_) (fun q2 => ?_)
          · rw [if_neg (by omega)] at kk
            refine yr_iinc6 (pq := 153) rfl dX8_roundsOn_150 ?_
            refine yr_goto (t := 68) dX8_roundsOn_153 rfl ?_
            exact ih (c + 1) f B (by omega) hf hB kk _ _
          · rw [if_pos (by omega)] at kk
            have hs : 0 ≤ byF N w (N 49) (c : Int) ∧ byF N w (N 49) (c : Int) < N 8 := by omega
            generalize byF N w (N 49) (c : Int) = s at hs kk ⊢
            have htk := takesF_b hO hs.1 hs.2
            have hpc := pc_add ⟨v, h3⟩ ⟨c, by omega⟩ (by simpa using q)
            simp only at hpc
            have hp8 := pcF_b (v ||| 2 ^ c)
            refine yr_aload_n (pq := 109) rfl dX8_roundsOn_108 rfl ?_
            refine yr_iload_n (pq := 110) rfl dX8_roundsOn_109 rfl ?_
            refine yr_vV1 (pq := 113) rfl dX8_roundsOn_110 kM_8_188 (by decide) (by decide) cat0 (m_keepAhead (by omega) (fun g1 x1 x2 x3 => ?_))
            have gN : g1 109 = N := (x1 109 (by decide)).trans fN
            refine yr_aload_n (pq := 114) rfl dX8_roundsOn_113 rfl ?_
            refine yr_iload (pq := 116) rfl dX8_roundsOn_114 rfl ?_
            refine yr_iload (pq := 118) rfl dX8_roundsOn_116 rfl ?_
            refine yr_vV2 (pq := 121) rfl dX8_roundsOn_118 kM_8_160 (by decide) (by decide) cat0 (m_carried (by rw [gN]; exact hO) (by rw [gN]; exact hS) hs.1 (by rw [gN]; exact hs.2) (by omega) (fun g2 y1 y2 => ?_))
            have hpt : ∀ j, 0 ≤ j → j < k + 1 → up g2 114 k (c : Int) 114 j = ur p k (c : Int) j := by
              intro j j0 j1
              by_cases e : j = k
              · subst e; rw [up_s, ur_s]
              · rw [up_k e, ur_o e, y1 114 (by decide), x1 114 (by decide), hf.2.2.2.2 j (by omega)]; exact h9 j j0 (by omega)
            refine yr_aload_n (pq := 122) rfl dX8_roundsOn_121 rfl ?_
            refine yr_getR (pq := 125) (b := 114) 7 rfl dX8_roundsOn_122 kF_8_29 (by decide) rfl ?_
            refine yr_iload_n (pq := 126) rfl dX8_roundsOn_125 rfl ?_
            refine yr_iload (pq := 128) rfl dX8_roundsOn_126 rfl ?_
            refine yr_iast (pq := 129) rfl dX8_roundsOn_128 rfl (by decide) (by omega) ?_
            refine yr_aload_n (pq := 130) rfl dX8_roundsOn_129 rfl ?_
            refine yr_iload_n (pq := 131) rfl dX8_roundsOn_130 rfl ?_
            refine yr_iload_n (pq := 132) rfl dX8_roundsOn_131 rfl ?_
            refine yr_iconst (pq := 133) rfl dX8_roundsOn_132 ?_
            refine yr_iload (pq := 135) rfl dX8_roundsOn_133 rfl ?_
            refine yr_ishl (pq := 136) rfl dX8_roundsOn_135 ?_
            refine yr_ior (pq := 137) rfl dX8_roundsOn_136 ?_
            refine yr_iload_n (pq := 138) rfl dX8_roundsOn_137 rfl ?_
            refine yr_iconst (pq := 139) rfl dX8_roundsOn_138 ?_
            refine yr_iadd (pq := 140) rfl dX8_roundsOn_139 ?_
            refine yr_iload (pq := 142) rfl dX8_roundsOn_140 rfl ?_
            rw [or_bit h3 (by omega)]
            have e50 : carN N s (c : Int) 50 = N 50 + takesF N s := rfl
            refine yr_vV4 (pq := 145) rfl dX8_roundsOn_142 kM_8_214 (by decide) (by decide) cat0 (IH d _ (carN N s (c : Int)) (v ||| 2 ^ c) (k + 1) (ur p k (c : Int)) B _ (by rw [up_ne (by decide), y2, gN]) (okT_row hO (fun j hj => carN_lo (by omega))) (carN_okS hO hS hs.1 hs.2 (by omega) (by omega)) (by omega) hpc.1 (by omega) (by omega) (by omega) (by rw [up_ne (by decide), y1 108 (by decide), x1 108 (by decide)]; exact f5) (AR_cong hB (by rw [up_ne (by decide), y1 108 (by decide), x1 108 (by decide)]) (by rw [up_ne (by decide), y1 115 (by decide), x1 115 (by decide)])) hpt (fun g4 z1 z2 => ?_))
            refine yr_aload_n (pq := 146) rfl dX8_roundsOn_145 rfl ?_
            refine yr_iload_n (pq := 147) rfl dX8_roundsOn_146 rfl ?_
            refine yr_vV1 (pq := 150) rfl dX8_roundsOn_147 kM_8_195 (by decide) (by decide) cat0 (m_backTo (by omega) (fun g5 w1 w2 w3 => ?_))
            refine yr_iinc6 (pq := 153) rfl dX8_roundsOn_150 ?_
            refine yr_goto (t := 68) dX8_roundsOn_153 rfl ?_
            exact ih (c + 1) g5 _ (by omega) (FR_t hf (FR_step (by omega) x1 x2 x3 y1 y2 (fun a ha => up_ne ha) (fun j hj => up_k (by omega)) z1 w1 w2 w3)) (AR_cong z2 (w1 108 (by decide)) (w1 115 (by decide))) kk _ _
    have hn49 : ¬ N 49 = g := by omega
    rw [dfsF, if_neg hn49] at kk
    have hO8 := hO.1
    have hb9 := byF_b (N := N) (w := w) (a := N 49) (b := o)
    refine cl_in (al := [vr 108, vi o, vi (v : Int), vi k, vi due, .null, .null, .null]) rfl (Nat.le_of_ble_eq_true rfl) (by simp [vi_cat, vr_cat, vs_cat]) ?_
    refine yr_iload_n (pq := 1) rfl dX8_roundsOn_0 rfl ?_
    refine yr_if_ne (pq := 4) (t := 8) rfl dX8_roundsOn_1 rfl (by omega) (fun q => ?_) (fun q => ?_)
    · refine yr_aload_n (pq := 9) rfl dX8_roundsOn_8 rfl ?_
      refine yr_aload_n (pq := 10) rfl dX8_roundsOn_9 rfl ?_
      refine yr_getR (pq := 13) (b := 109) 0 rfl dX8_roundsOn_10 kF_8_9 (by decide) rfl ?_
      refine yr_bipush (pq := 15) rfl dX8_roundsOn_13 rfl ?_
      refine yr_iald (pq := 16) rfl dX8_roundsOn_15 rfl (by decide) (by omega) ?_
      refine yr_iload_n (pq := 17) rfl dX8_roundsOn_16 rfl ?_
      rw [hN]
      refine yr_vI2 (pq := 20) rfl dX8_roundsOn_17 kM_8_138 (by decide) (by decide) cat0 (m_streetBy (w := w) (by rw [hN]; exact hO) h7 hw (by omega) (by omega) ?_)
      rw [hN]
      refine yr_istore5 (pq := 22) rfl dX8_roundsOn_20 ?_
      refine yr_iload (pq := 24) rfl dX8_roundsOn_22 rfl ?_
      refine yr_if_lt (pq := 27) (t := 65) rfl dX8_roundsOn_24 rfl (by omega) (fun q2 => ?_) (fun q2 => ?_)
      · have ec : clsF g w o due N k p A = A := if_neg (by omega)
        rw [ec] at kk
        refine yr_iconst (pq := 66) rfl dX8_roundsOn_65 ?_
        refine yr_istore6 (pq := 68) rfl dX8_roundsOn_66 ?_
        exact key 8 0 h A (by omega) (FR_r k h) h8 kk _ _
      · have hs : 0 ≤ byF N w (N 49) o ∧ byF N w (N 49) o < N 8 := by omega
        have ec : clsF g w o due N k p A = if ia due (ix (carN N (byF N w (N 49) o) o 51) (-1)) = 0 then noteF A (totF (carN N (byF N w (N 49) o) o)) k 0 p else A := by
          unfold clsF
          by_cases e : ia due (ix (carN N (byF N w (N 49) o) o 51) (-1)) = 0
          · rw [if_pos ⟨⟨hg, by omega⟩, hs.1, e⟩, if_pos e]
          · rw [if_neg (fun x => e x.2.2), if_neg e]
        rw [ec] at kk
        generalize byF N w (N 49) o = s at hs kk ⊢
        have htk := takesF_b hO hs.1 hs.2
        have hSc := carN_okS hO hS hs.1 hs.2 ho (by omega)
        have htc := okS_tot hSc
        refine yr_aload_n (pq := 28) rfl dX8_roundsOn_27 rfl ?_
        refine yr_iload_n (pq := 29) rfl dX8_roundsOn_28 rfl ?_
        refine yr_vV1 (pq := 32) rfl dX8_roundsOn_29 kM_8_188 (by decide) (by decide) cat0 (m_keepAhead (by omega) (fun g1 x1 x2 x3 => ?_))
        have gN : g1 109 = N := (x1 109 (by decide)).trans hN
        refine yr_aload_n (pq := 33) rfl dX8_roundsOn_32 rfl ?_
        refine yr_iload (pq := 35) rfl dX8_roundsOn_33 rfl ?_
        refine yr_iload_n (pq := 36) rfl dX8_roundsOn_35 rfl ?_
        refine yr_vV2 (pq := 39) rfl dX8_roundsOn_36 kM_8_160 (by decide) (by decide) cat0 (m_carried (by rw [gN]; exact hO) (by rw [gN]; exact hS) hs.1 (by rw [gN]; exact hs.2) (by omega) (fun g2 y1 y2 => ?_))
        have g2N : g2 109 = carN N s o := by rw [y2, gN]
        refine yr_iload (pq := 41) rfl dX8_roundsOn_39 rfl ?_
        refine yr_aload_n (pq := 42) rfl dX8_roundsOn_41 rfl ?_
        refine yr_getR (pq := 45) (b := 109) 0 rfl dX8_roundsOn_42 kF_8_9 (by decide) rfl ?_
        refine yr_bipush (pq := 47) rfl dX8_roundsOn_45 rfl ?_
        refine yr_iald (pq := 48) rfl dX8_roundsOn_47 rfl (by decide) (by omega) ?_
        refine yr_iconst (pq := 49) rfl dX8_roundsOn_48 ?_
        refine yr_ixor (pq := 50) rfl dX8_roundsOn_49 ?_
        refine yr_iand (pq := 51) rfl dX8_roundsOn_50 ?_
        rw [g2N]
        have hir := ia_rg due (ix (carN N s o 51) (-1))
        refine yr_if_ne (pq := 54) (t := 60) rfl dX8_roundsOn_51 rfl (by omega) (fun q3 => ?_) (fun q3 => ?_)
        · rw [if_neg q3] at kk
          refine yr_aload_n (pq := 61) rfl dX8_roundsOn_60 rfl ?_
          refine yr_iload_n (pq := 62) rfl dX8_roundsOn_61 rfl ?_
          refine yr_vV1 (pq := 65) rfl dX8_roundsOn_62 kM_8_195 (by decide) (by decide) cat0 (m_backTo (by omega) (fun g5 w1 w2 w3 => ?_))
          refine yr_iconst (pq := 66) rfl dX8_roundsOn_65 ?_
          refine yr_istore6 (pq := 68) rfl dX8_roundsOn_66 ?_
          exact key 8 0 g5 A (by omega) (FR_step (by omega) x1 x2 x3 y1 y2 (fun a ha => rfl) (fun j hj => rfl) (FR_r (k + 1) g2) w1 w2 w3) (AR_cong h8 (by rw [w1 108 (by decide), y1 108 (by decide), x1 108 (by decide)]) (by rw [w1 115 (by decide), y1 115 (by decide), x1 115 (by decide)])) kk _ _
        · rw [if_pos (by omega)] at kk
          refine yr_aload_n (pq := 55) rfl dX8_roundsOn_54 rfl ?_
          refine yr_iload_n (pq := 56) rfl dX8_roundsOn_55 rfl ?_
          refine yr_iconst (pq := 57) rfl dX8_roundsOn_56 ?_
          refine yr_vV2 (pq := 60) rfl dX8_roundsOn_57 kM_8_182 (by decide) (by decide) cat0 (m_isWhole (A := A) (p := p) (AR_cong h8 (by rw [y1 108 (by decide), x1 108 (by decide)]) (by rw [y1 115 (by decide), x1 115 (by decide)])) (by rw [g2N]; exact htc) (by omega) (by omega) (fun j j0 j1 => by rw [y1 114 (by decide), x1 114 (by decide)]; exact h9 j j0 j1) (fun g4 z1 z2 z3 => ?_))
          rw [g2N] at z3
          refine yr_aload_n (pq := 61) rfl dX8_roundsOn_60 rfl ?_
          refine yr_iload_n (pq := 62) rfl dX8_roundsOn_61 rfl ?_
          refine yr_vV1 (pq := 65) rfl dX8_roundsOn_62 kM_8_195 (by decide) (by decide) cat0 (m_backTo (by omega) (fun g5 w1 w2 w3 => ?_))
          refine yr_iconst (pq := 66) rfl dX8_roundsOn_65 ?_
          refine yr_istore6 (pq := 68) rfl dX8_roundsOn_66 ?_
          exact key 8 0 g5 _ (by omega) (FR_step (by omega) x1 x2 x3 y1 y2 (fun a ha => rfl) (fun j hj => rfl) ⟨fun a q1 q2 q3 q4 q5 => z1 a q1 q5, z1 109 (by decide) (by decide), z2, fun j _ => by rw [z1 113 (by decide) (by decide)], fun j _ => by rw [z1 114 (by decide) (by decide)]⟩ w1 w2 w3) (AR_cong z3 (w1 108 (by decide)) (w1 115 (by decide))) kk _ _
    · have ec : clsF g w o due N k p A = A := if_neg (by omega)
      rw [ec] at kk
      refine yr_iconst (pq := 5) rfl dX8_roundsOn_4 ?_
      refine yr_goto (t := 20) dX8_roundsOn_5 rfl ?_
      refine yr_istore5 (pq := 22) rfl dX8_roundsOn_20 ?_
      refine yr_iload (pq := 24) rfl dX8_roundsOn_22 rfl ?_
      refine yr_if_lt (pq := 27) (t := 65) rfl dX8_roundsOn_24 rfl (by decide) (fun _ => ?_) (fun q9 => absurd (by decide) q9)
      refine yr_iconst (pq := 66) rfl dX8_roundsOn_65 ?_
      refine yr_istore6 (pq := 68) rfl dX8_roundsOn_66 ?_
      exact key 8 0 h A (by omega) (FR_r k h) h8 kk _ _
end CY
