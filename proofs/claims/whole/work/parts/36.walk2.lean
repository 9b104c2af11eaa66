/-! the class's walk -/
theorem FC_m {k : Int} {h h' : hT} (f : FC 10 h h') (hk : k ≤ 10) : FC k h h' := ⟨f.1, f.2.1, fun j q => f.2.2 j (by omega)⟩
theorem FC_step {k c : Int} {f g4 : hT} (z : FC (k + 1) (up f 74 k c) g4) : FC k f g4 := by
  obtain ⟨z1, z2, z3⟩ := z
  refine ⟨fun a q1 q2 q3 => ?_, fun j q1 q2 q3 q4 => ?_, fun j q => ?_⟩
  · rw [z1 a q1 q2 q3, up_ne q2]
  · rw [z2 j q1 q2 q3 q4, up_ne (by decide)]
  · rw [z3 j (by omega), up_k (by omega)]
theorem yr_istore9 {d : Nat} {y : am_MI} {pc : Nat} {al st : List Value} {h : hT} {Q : Option Value → hT → Prop} {x0 x1 x2 x3 x4 x5 x6 x7 x8 x9 : Value} {z : Int} {pq : Nat} (hpq : pc + 2 = pq) (hd : decode y.2.2.1 pc = .ok (.istore 9, 2)) (K : Yr d y pq (x0 :: x1 :: x2 :: x3 :: x4 :: x5 :: x6 :: x7 :: x8 :: vi z :: al) st h Q) : Yr d y pc (x0 :: x1 :: x2 :: x3 :: x4 :: x5 :: x6 :: x7 :: x8 :: x9 :: al) (vi z :: st) h Q := by
  subst hpq
  refine yr_stp hd rfl rfl rfl ?_ K
  exact if_pos (e := (none : Option am_C)) (show 9 < (x0 :: x1 :: x2 :: x3 :: x4 :: x5 :: x6 :: x7 :: x8 :: x9 :: al).length by simp)
section CN
variable {d : Nat} {h : hT} {K : Int → hT → Prop} {KV : hT → Prop} {N N0 : Int → Int} {g o due b w : Int}
theorem c_walk (hP : okP N0) (hg : -1 ≤ g ∧ g ≤ 7) (ho : 0 ≤ o ∧ o ≤ 7) (hb : 0 ≤ b ∧ b ≤ 999) : ∀ (n : Nat) (d : Nat) (h : hT) (N : Int → Int) (v : Nat) (k L x mi sn : Int) (p : Int → Int) (A : aT) (KV : hT → Prop), N 49 = x → N 50 = mi → N 51 = sn → SK h N w → okT N → okS N → ND N0 N L → 0 ≤ L → L + 3510 * n ≤ 100000 → N 50 + 30 * n ≤ b + 240 → b ≤ N 50 → v < 256 → ((pcF v : Nat) : Int) = k + 1 → 0 ≤ k → k + n = 8 → SF h g o due b N0 → AC g h A → A.1 + cnF n ≤ 1000000000 → (∀ j, 0 ≤ j → j < k → h 74 j = p j) →
    (∀ h', FC k h h' → AC g h' (dfsF g w o due b n N v k p A) → KV h') → ClV (d + n + 4) mX3_walk [vr 69, vi x, vi mi, vi L, vi sn, vi (v : Int), vi k] h KV := by
  intro n
  induction n with
  | zero =>
    intro d h N v k L x mi sn p A KV hx hm hn hK hO hS hD l0 l1 h1 h2 h3 h4 h5 h6
    have := pcF_b v
    omega
  | succ n IH =>
    intro d h N v k L x mi sn p A KV hx hm hn hK hO hS hD l0 l1 h1 h2 h3 h4 h5 h6 hF hA hA1 h9 kk
    subst hx hm hn
    rw [show d + (n + 1) + 4 = d + n + 1 + 4 by omega]
    have hO8 := hO.1
    have hC := cnF_0 n
    rw [cnF] at hA1
    have hS0 := hS
    obtain ⟨a1, a2, a3, a4, a5, a6⟩ := hS0
    have hfl := flF_b hP
    have key : ∀ (m : Nat) (c : Nat) (f : hT) (B : aT), c + m = 8 → k ≤ 6 → FC k h f → AC g f B → B.1 + (m : Int) * cnF n ≤ 1000000000 → (∀ h', FC k h h' → AC g h' (lpF (fun c A => if v.testBit c = true then A else if 0 ≤ byF N w (N 49) (c : Int) then dfsF g w o due b n (carN N (byF N w (N 49) (c : Int)) (c : Int)) (v ||| 2 ^ c) (k + 1) (ur p k (c : Int)) A else A) c m B) → KV h') → ∀ y z, Yr (d + n + 1 + 3) mX3_walk 55 [vr 69, vi (N 49), vi (N 50), vi L, vi (N 51), vi (v : Int), vi k, vi (c : Int), y, z] [] f (rV KV) := by
      intro m
      induction m with
      | zero =>
        intro c f B hc hk6 hf hB hB1 kk y z
        refine yr_iload (pq := 57) rfl dX3_walk_55 rfl ?_
        refine yr_bipush (pq := 59) rfl dX3_walk_57 rfl ?_
        refine yr_ic_ge (pq := 62) (t := 168) rfl dX3_walk_59 rfl (by omega) (by omega) (fun _ => ?_) (fun q9 => absurd (by omega) q9)
        refine yr_vret dX3_walk_168 rfl (kk f hf hB)
      | succ m ih =>
        intro c f B hc hk6 hf hB hB1 kk y z
        rw [lpF] at kk
        have hKf : SK f N w := SK_row hK (fun a q1 q2 => hf.1 a (by omega) (by omega) (by omega)) (fun _ _ => rfl)
        have hFf := SF_c hF hf
        have hmc : 0 ≤ (m : Int) * cnF n := Int.mul_nonneg (by omega) hC
        rw [show ((m + 1 : Nat) : Int) * cnF n = m * cnF n + cnF n by rw [show ((m + 1 : Nat) : Int) = (m : Int) + 1 by omega, Int.add_mul, Int.one_mul]] at hB1
        have hb9 := byF_b (N := N) (w := w) (a := N 49) (b := (c : Int))
        refine yr_iload (pq := 57) rfl dX3_walk_55 rfl ?_
        refine yr_bipush (pq := 59) rfl dX3_walk_57 rfl ?_
        refine yr_ic_ge (pq := 62) (t := 168) rfl dX3_walk_59 rfl (by omega) (by omega) (fun q9 => absurd q9 (by omega)) (fun _ => ?_)
        refine yr_aload_n (pq := 63) rfl dX3_walk_62 rfl ?_
        refine yr_getR (pq := 66) (b := 70) 0 rfl dX3_walk_63 kF_3_9 (by decide) rfl ?_
        refine yr_bipush (pq := 68) rfl dX3_walk_66 rfl ?_
        refine yr_iload_n (pq := 69) rfl dX3_walk_68 rfl ?_
        refine yr_imul (pq := 70) rfl dX3_walk_69 ?_
        refine yr_iload (pq := 72) rfl dX3_walk_70 rfl ?_
        refine yr_iadd (pq := 73) rfl dX3_walk_72 ?_
        refine yr_iald (pq := 74) rfl dX3_walk_73 rfl (by decide) (by omega) ?_
        refine yr_istore8 (pq := 76) rfl dX3_walk_74 ?_
        refine yr_iload (pq := 78) rfl dX3_walk_76 rfl ?_
        rw [hKf.1 _ _ a2.1 a2.2 (by omega) (by omega)]
        refine yr_if_lt (pq := 81) (t := 162) rfl dX3_walk_78 rfl (by omega) (fun q2 => ?_) (fun q2 => ?_)
        · refine yr_iinc7 (pq := 165) rfl dX3_walk_162 ?_
          refine yr_goto (t := 55) dX3_walk_165 rfl ?_
          by_cases qb : v.testBit c = true
          · rw [if_pos qb] at kk
            exact ih (c + 1) f B (by omega) hk6 hf hB (by omega) kk _ _
          · rw [if_neg qb, if_neg (by omega)] at kk
            exact ih (c + 1) f B (by omega) hk6 hf hB (by omega) kk _ _
        · refine yr_iload (pq := 83) rfl dX3_walk_81 rfl ?_
          refine yr_iload (pq := 85) rfl dX3_walk_83 rfl ?_
          refine yr_sI2 (pq := 88) rfl dX3_walk_85 kM_3_128 (by decide) cat0 (c_isInSet (by omega) (by omega) (fun q => ?_) (fun q => ?_))
          · rw [if_pos q] at kk
            refine yr_if_ne (pq := 91) (t := 162) rfl dX3_walk_88 rfl (by decide) (fun _ => ?_) (fun q9 => absurd q9 (by decide))
            refine yr_iinc7 (pq := 165) rfl dX3_walk_162 ?_
            refine yr_goto (t := 55) dX3_walk_165 rfl ?_
            exact ih (c + 1) f B (by omega) hk6 hf hB (by omega) kk _ _
          · rw [if_neg q, if_pos (by omega)] at kk
            have hs : 0 ≤ byF N w (N 49) (c : Int) ∧ byF N w (N 49) (c : Int) < N 8 := by omega
            generalize byF N w (N 49) (c : Int) = s at hs kk ⊢
            have htk := takesF_b hO hs.1 hs.2
            have hls := lossT_b hO a3.1 hs.1 hs.2
            have hpc := pc_add ⟨v, h3⟩ ⟨c, by omega⟩ (by simpa using q)
            simp only at hpc
            have hp8 := pcF_b (v ||| 2 ^ c)
            have hK2 : SK (up f 74 k (c : Int)) N w := SK_row hKf (fun a q1 q2 => up_ne (by omega)) (fun _ _ => rfl)
            have hpt : ∀ j, 0 ≤ j → j < k + 1 → up f 74 k (c : Int) 74 j = ur p k (c : Int) j := by
              intro j j0 j1
              by_cases e : j = k
              · subst e; rw [up_s, ur_s]
              · rw [up_k e, ur_o e, hf.2.2 j (by omega)]; exact h9 j j0 (by omega)
            have hF2 : SF (up f 74 k (c : Int)) g o due b N0 := by
              unfold SF at hFf ⊢
              rw [up_ne (by decide)]
              exact hFf
            have hn1 := dfs_n (g := g) (w := w) (o := o) (due := due) (b := b) n (carN N s (c : Int)) (v ||| 2 ^ c) (k + 1) (ur p k (c : Int)) B
            have e50 : carN N s (c : Int) 50 = N 50 + takesF N s := rfl
            refine yr_if_ne (pq := 91) (t := 162) rfl dX3_walk_88 rfl (by decide) (fun q9 => absurd (by decide) q9) (fun _ => ?_)
            refine yr_aload_n (pq := 92) rfl dX3_walk_91 rfl ?_
            refine yr_getR (pq := 95) (b := 74) 11 rfl dX3_walk_92 kF_3_46 (by decide) rfl ?_
            refine yr_iload (pq := 97) rfl dX3_walk_95 rfl ?_
            refine yr_iload (pq := 99) rfl dX3_walk_97 rfl ?_
            refine yr_iast (pq := 100) rfl dX3_walk_99 rfl (by decide) (by omega) ?_
            refine yr_iload_n (pq := 101) rfl dX3_walk_100 rfl ?_
            refine yr_aload_n (pq := 102) rfl dX3_walk_101 rfl ?_
            refine yr_getR (pq := 105) (b := 72) 2 rfl dX3_walk_102 kF_3_18 (by decide) rfl ?_
            refine yr_bipush (pq := 107) rfl dX3_walk_105 rfl ?_
            refine yr_iload (pq := 109) rfl dX3_walk_107 rfl ?_
            refine yr_imul (pq := 110) rfl dX3_walk_109 ?_
            refine yr_iload_n (pq := 111) rfl dX3_walk_110 rfl ?_
            refine yr_aload_n (pq := 112) rfl dX3_walk_111 rfl ?_
            refine yr_getR (pq := 115) (b := 71) 1 rfl dX3_walk_112 kF_3_15 (by decide) rfl ?_
            refine yr_iload (pq := 117) rfl dX3_walk_115 rfl ?_
            refine yr_iald (pq := 118) rfl dX3_walk_117 rfl (by decide) (by omega) ?_
            rw [hK2.2.1 s hs.1 hs.2]
            refine yr_sI4 (pq := 121) rfl dX3_walk_118 kM_3_132 (by decide) (Nat.le_of_ble_eq_true rfl) (c_sumAlong (a := 72) (L := 168) rfl (by decide) (by omega) (by omega) (by omega) ?_)
            rw [sk_loss hK2 hs.1 hs.2 a3.1]
            refine yr_iadd (pq := 122) rfl dX3_walk_121 ?_
            refine yr_istore9 (pq := 124) rfl dX3_walk_122 ?_
            refine yr_aload_n (pq := 125) rfl dX3_walk_124 rfl ?_
            refine yr_iload (pq := 127) rfl dX3_walk_125 rfl ?_
            refine yr_iload_n (pq := 128) rfl dX3_walk_127 rfl ?_
            refine yr_aload_n (pq := 129) rfl dX3_walk_128 rfl ?_
            refine yr_getR (pq := 132) (b := 71) 1 rfl dX3_walk_129 kF_3_15 (by decide) rfl ?_
            refine yr_iload (pq := 134) rfl dX3_walk_132 rfl ?_
            refine yr_iald (pq := 135) rfl dX3_walk_134 rfl (by decide) (by omega) ?_
            refine yr_iadd (pq := 136) rfl dX3_walk_135 ?_
            refine yr_iload (pq := 138) rfl dX3_walk_136 rfl ?_
            refine yr_aload_n (pq := 139) rfl dX3_walk_138 rfl ?_
            refine yr_iload (pq := 141) rfl dX3_walk_139 rfl ?_
            refine yr_iload (pq := 143) rfl dX3_walk_141 rfl ?_
            refine yr_iload (pq := 145) rfl dX3_walk_143 rfl ?_
            rw [hK2.2.1 s hs.1 hs.2]
            refine yr_vI3 (pq := 148) rfl dX3_walk_145 kM_3_136 (by decide) (by decide) (Nat.le_of_ble_eq_true rfl) (c_seenAt hF2.2.2.2.1 (by omega) (hK2.2.2.2 (c : Int) (by omega) (by omega)) (by omega) (by omega) ?_)
            rw [ND_seen hP hD l0 hls.1]
            refine yr_iload (pq := 150) rfl dX3_walk_148 rfl ?_
            refine yr_iconst (pq := 151) rfl dX3_walk_150 ?_
            refine yr_iload (pq := 153) rfl dX3_walk_151 rfl ?_
            refine yr_ishl (pq := 154) rfl dX3_walk_153 ?_
            refine yr_ior (pq := 155) rfl dX3_walk_154 ?_
            refine yr_iload (pq := 157) rfl dX3_walk_155 rfl ?_
            refine yr_iconst (pq := 158) rfl dX3_walk_157 ?_
            refine yr_iadd (pq := 159) rfl dX3_walk_158 ?_
            rw [or_bit h3 (by omega)]
            refine yr_vV6 (pq := 162) rfl dX3_walk_159 kM_3_116 (by decide) (by decide) cat0 (IH d _ (carN N s (c : Int)) (v ||| 2 ^ c) (k + 1) (L + lossT N s) _ _ _ (ur p k (c : Int)) B _ rfl rfl rfl (SK_row hK2 (fun _ _ _ => rfl) (fun j hj => carN_lo hj)) (okT_row hO (fun j hj => carN_lo (by omega))) (carN_okS hO hS hs.1 hs.2 (by omega) (by omega)) (ND_car hP hD l0 hls.1) (by omega) (by omega) (by omega) (by omega) hpc.1 (by omega) (by omega) (by omega) hF2 (AC_cong hB (up_ne (by decide)) (up_ne (by decide))) (by omega) hpt (fun g4 z1 z2 => ?_))
            refine yr_iinc7 (pq := 165) rfl dX3_walk_162 ?_
            refine yr_goto (t := 55) dX3_walk_165 rfl ?_
            exact ih (c + 1) g4 _ (by omega) hk6 (FC_t hf (FC_step z1)) z2 (by omega) kk _ _
    have mid : ∀ (f : hT) (B : aT), FC k h f → AC g f B → B.1 ≤ A.1 + 1 → (∀ h', FC k h h' → AC g h' (lpF (fun c A => if v.testBit c = true then A else if 0 ≤ byF N w (N 49) (c : Int) then dfsF g w o due b n (carN N (byF N w (N 49) (c : Int)) (c : Int)) (v ||| 2 ^ c) (k + 1) (ur p k (c : Int)) A else A) 0 8 B) → KV h') → Yr (d + n + 1 + 3) mX3_walk 41 [vr 69, vi (N 49), vi (N 50), vi L, vi (N 51), vi (v : Int), vi k, .null, .null, .null] [] f (rV KV) := by
      intro f B hf hB hB1 kk
      refine yr_iload (pq := 43) rfl dX3_walk_41 rfl ?_
      refine yr_aload_n (pq := 44) rfl dX3_walk_43 rfl ?_
      refine yr_getR (pq := 47) (b := 74) 11 rfl dX3_walk_44 kF_3_46 (by decide) rfl ?_
      refine yr_alen (pq := 48) rfl dX3_walk_47 rfl (by decide) ?_
      refine yr_ic_lt (pq := 51) (t := 52) rfl dX3_walk_48 rfl (by omega) (by omega) (fun q => ?_) (fun q => ?_)
      · refine yr_iconst (pq := 53) rfl dX3_walk_52 ?_
        refine yr_istore7 (pq := 55) rfl dX3_walk_53 ?_
        exact key 8 0 f B (by omega) (by omega) hf hB (by omega) kk _ _
      · have n0 : n = 0 := by omega
        subst n0
        rw [lp_id (fun c A => by split; rfl; split <;> rfl)] at kk
        refine yr_vret dX3_walk_51 rfl (kk f hf hB)
    rw [dfsF] at kk
    refine cl_in (al := [vr 69, vi (N 49), vi (N 50), vi L, vi (N 51), vi (v : Int), vi k, .null, .null, .null]) rfl (Nat.le_of_ble_eq_true rfl) (by simp [vi_cat, vr_cat, vs_cat]) ?_
    refine yr_iload_n (pq := 1) rfl dX3_walk_0 rfl ?_
    refine yr_aload_n (pq := 2) rfl dX3_walk_1 rfl ?_
    refine yr_getI (pq := 5) 9 rfl dX3_walk_2 kF_3_40 (by decide) rfl (by decide) ?_
    rw [hF.2.2.2.2.1]
    refine yr_ic_ne (pq := 8) (t := 17) rfl dX3_walk_5 rfl (by omega) (by omega) (fun q => ?_) (fun q => ?_)
    · rw [if_neg q] at kk
      refine yr_aload_n (pq := 18) rfl dX3_walk_17 rfl ?_
      refine yr_getI (pq := 21) 9 rfl dX3_walk_18 kF_3_40 (by decide) rfl (by decide) ?_
      refine yr_iconst (pq := 22) rfl dX3_walk_21 ?_
      rw [hF.2.2.2.2.1]
      refine yr_ic_ne (pq := 25) (t := 41) rfl dX3_walk_22 rfl (by omega) (by omega) (fun q1 => ?_) (fun q1 => ?_)
      · have ec : clsF g w o due N k p A = A := if_neg (fun x => q1 x.1.1)
        rw [ec] at kk
        exact mid h A (FC_r k h) hA (by omega) kk
      · refine yr_iload (pq := 27) rfl dX3_walk_25 rfl ?_
        refine yr_if_le (pq := 30) (t := 41) rfl dX3_walk_27 rfl (by omega) (fun q3 => ?_) (fun q3 => ?_)
        · have ec : clsF g w o due N k p A = A := if_neg (by omega)
          rw [ec] at kk
          exact mid h A (FC_r k h) hA (by omega) kk
        · refine yr_aload_n (pq := 31) rfl dX3_walk_30 rfl ?_
          refine yr_iload_n (pq := 32) rfl dX3_walk_31 rfl ?_
          refine yr_iload_n (pq := 33) rfl dX3_walk_32 rfl ?_
          refine yr_iload_n (pq := 34) rfl dX3_walk_33 rfl ?_
          refine yr_iload (pq := 36) rfl dX3_walk_34 rfl ?_
          refine yr_iload (pq := 38) rfl dX3_walk_36 rfl ?_
          refine yr_vV5 (pq := 41) rfl dX3_walk_38 kM_3_124 (by decide) (by decide) cat0 (c_closeRound (N := N) (N0 := N0) (w := w) (A := A) (p := p) (by omega) ho hF hP hK hO hS hD rfl rfl rfl (by omega) (by omega) (by omega) (by omega) hA (by omega) h9 (fun f x1 x2 => ?_))
          have hc1 := clsF_1 g w o due N k p A
          exact mid f _ (FC_m x1 (by omega)) x2 (by omega) kk
    · rw [if_pos (by omega)] at kk
      rw [ND_tot hP hD l0] at kk
      refine yr_aload_n (pq := 9) rfl dX3_walk_8 rfl ?_
      refine yr_iload_n (pq := 10) rfl dX3_walk_9 rfl ?_
      refine yr_iload_n (pq := 11) rfl dX3_walk_10 rfl ?_
      refine yr_iload (pq := 13) rfl dX3_walk_11 rfl ?_
      refine yr_vV3 (pq := 16) rfl dX3_walk_13 kM_3_120 (by decide) (by decide) cat0 (c_note (mm := N 50 - b) (A := A) (p := p) hF hP hA (by omega) (by omega) (by omega) (by omega) (fun _ => rfl) (by omega) h9 (fun f x1 x2 => ?_))
      refine yr_vret dX3_walk_16 rfl (kk f (FC_m x1 (by omega)) x2)
end CN
