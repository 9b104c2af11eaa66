/-! the class's scene, sheets, findings -/
section CW
variable {d : Nat} {h : hT} {K : Int → hT → Prop} {KV : hT → Prop} {N : Int → Int}
theorem RS1_tot (hR : RS1 h N) : h 23 0 = N 45 ∧ h 23 1 = N 46 ∧ h 23 2 = N 47 ∧ h 23 3 = N 48 := hR.2.1
theorem c_isTooLate {s : Int} (hR : RS1 h N) (hO : okT N) (hS : okS N) (s0 : 0 ≤ s) (s1 : s < N 8) (k1 : 999 < N 50 + takesF N s → K 1 h) (k0 : N 50 + takesF N s ≤ 999 → K 0 h) : ClI (d + 2) mX2_isTooLate [vr 1, vi s] h K := by
  have h8 := hO.1
  have ht := takesF_b hO s0 s1
  have hm := hS.2.2.1
  obtain ⟨o0, o3, o4, o5⟩ := rt_okst hR.1 hO s0 s1
  refine cl_in (al := [vr 1, vi s]) rfl (Nat.le_of_ble_eq_true rfl) (by simp [vi_cat, vr_cat, vs_cat]) ?_
  refine yr_aload_n (pq := 1) rfl dX2_isTooLate_0 rfl ?_
  refine yr_getR (pq := 4) (b := 22) 1 rfl dX2_isTooLate_1 kF_2_21 (by decide) rfl ?_
  refine yr_getI (pq := 7) 3 rfl dX2_isTooLate_4 kF_2_67 (by decide) rfl (by decide) ?_
  refine yr_aload_n (pq := 8) rfl dX2_isTooLate_7 rfl ?_
  refine yr_getR (pq := 11) (b := 2) 0 rfl dX2_isTooLate_8 kF_2_12 (by decide) rfl ?_
  refine yr_getR (pq := 14) 0 rfl dX2_isTooLate_11 kF_2_70 (tw_c (by decide)) (fr_6_0 (by decide)) ?_
  refine yr_iload_n (pq := 15) rfl dX2_isTooLate_14 rfl ?_
  refine yr_aald (pq := 16) rfl dX2_isTooLate_15 (tw_k1 (by decide)) (by decide) (by omega) (st_q (by decide) (by omega) (by omega)) ?_
  refine yr_vI0 (pq := 19) rfl dX2_isTooLate_16 kM_2_74 (by decide) (st_c (by decide) (by omega) (by omega)) (Nat.le_of_ble_eq_true rfl) (c_takes (st_c (by decide) s0 (by omega)) o0 o3 ?_)
  refine yr_iadd (pq := 20) rfl dX2_isTooLate_19 ?_
  refine yr_sipush (pq := 23) rfl dX2_isTooLate_20 rfl ?_
  rw [o5, hR.2.2.2.2.1]
  refine yr_ic_le (pq := 26) (t := 30) rfl dX2_isTooLate_23 rfl (by omega) (by omega) (fun q => ?_) (fun q => ?_)
  · refine yr_iconst (pq := 31) rfl dX2_isTooLate_30 ?_
    exact yr_zret dX2_isTooLate_31 rfl (by first | decide | omega) (k0 q)
  · refine yr_iconst (pq := 27) rfl dX2_isTooLate_26 ?_
    refine yr_goto (t := 31) dX2_isTooLate_27 rfl ?_
    exact yr_zret dX2_isTooLate_31 rfl (by first | decide | omega) (k1 (by omega))
theorem c_carryAlong {s c : Int} (hR : RS1 h N) (hO : okT N) (hS : okS N) (s0 : 0 ≤ s) (s1 : s < N 8) (hc : 0 ≤ c ∧ c ≤ 7)
    (k : ∀ h', (∀ b, b ≠ 7 → b ≠ 22 → b ≠ 23 → h' b = h b) → RS1 h' (carN N s c) → K (min (lossT N s) (totF N)) h') : ClI (d + 6) mX2_carryAlong [vr 1, vi s, vi c] h K := by
  have h8 := hO.1
  have ht := takesF_b hO s0 s1
  obtain ⟨a1, a2, a3, a4, a5, a6⟩ := hS
  have hl := lossT_b hO a3.1 s0 s1
  obtain ⟨o0, o3, o4, o5⟩ := rt_okst hR.1 hO s0 s1
  obtain ⟨r0, r1, r2, r3, r4, r5, r6, r7, r8⟩ := hR
  refine cl_in (al := [vr 1, vi s, vi c, .null]) rfl (Nat.le_of_ble_eq_true rfl) (by simp [vi_cat, vr_cat, vs_cat]) ?_
  refine yr_aload_n (pq := 1) rfl dX2_carryAlong_0 rfl ?_
  refine yr_getR (pq := 4) (b := 22) 1 rfl dX2_carryAlong_1 kF_2_21 (by decide) rfl ?_
  refine yr_aload_n (pq := 5) rfl dX2_carryAlong_4 rfl ?_
  refine yr_getR (pq := 8) (b := 2) 0 rfl dX2_carryAlong_5 kF_2_12 (by decide) rfl ?_
  refine yr_iload_n (pq := 9) rfl dX2_carryAlong_8 rfl ?_
  refine yr_aload_n (pq := 10) rfl dX2_carryAlong_9 rfl ?_
  refine yr_getR (pq := 13) (b := 22) 1 rfl dX2_carryAlong_10 kF_2_21 (by decide) rfl ?_
  refine yr_getI (pq := 16) 3 rfl dX2_carryAlong_13 kF_2_67 (by decide) rfl (by decide) ?_
  refine yr_aload_n (pq := 17) rfl dX2_carryAlong_16 rfl ?_
  refine yr_getR (pq := 20) (b := 22) 1 rfl dX2_carryAlong_17 kF_2_21 (by decide) rfl ?_
  refine yr_getI (pq := 23) 1 rfl dX2_carryAlong_20 kF_2_79 (by decide) rfl (by decide) ?_
  rw [r2, r4]
  refine yr_vI3 (pq := 26) rfl dX2_carryAlong_23 kM_2_82 (by decide) (tw_c (by decide)) (Nat.le_of_ble_eq_true rfl) (c_lossAlong (T := 2) (by decide) r0 hO ⟨s0, s1⟩ (by omega) a1 (fun g g1 => ?_))
  have gn : ∀ b, b ≠ 7 → g b = h b := fun b q => g1 b q
  refine yr_vI1 (pq := 29) rfl dX2_carryAlong_26 kM_2_86 (by decide) (by decide) cat0 (c_melt (L := lossT N s) (p0 := N 45) (p1 := N 46) (p2 := N 47) (p3 := N 48) (by omega) (by rw [gn 23 (by decide)]; exact r1.1) (by rw [gn 23 (by decide)]; exact r1.2.1) (by rw [gn 23 (by decide)]; exact r1.2.2.1) (by rw [gn 23 (by decide)]; exact r1.2.2.2) (by omega) (by omega) (by omega) (by omega) (fun g' f1 f2 f3 f4 f5 f6 f7 => ?_))
  have fn : ∀ b, b ≠ 7 → b ≠ 22 → b ≠ 23 → g' b = h b := fun b q1 q2 q3 => by rw [f1 b q2 q3]; exact gn b q1
  have es : g' (2 + 6 + s) = h (2 + 6 + s) := fn _ (by omega) (by omega) (by omega)
  refine yr_istore3 (pq := 30) rfl dX2_carryAlong_29 ?_
  refine yr_aload_n (pq := 31) rfl dX2_carryAlong_30 rfl ?_
  refine yr_getR (pq := 34) (b := 22) 1 rfl dX2_carryAlong_31 kF_2_21 (by decide) rfl ?_
  refine yr_dup (pq := 35) rfl dX2_carryAlong_34 rfl ?_
  refine yr_getI (pq := 38) 3 rfl dX2_carryAlong_35 kF_2_67 (by decide) rfl (by decide) ?_
  refine yr_aload_n (pq := 39) rfl dX2_carryAlong_38 rfl ?_
  refine yr_getR (pq := 42) (b := 2) 0 rfl dX2_carryAlong_39 kF_2_12 (by decide) rfl ?_
  refine yr_getR (pq := 45) 0 rfl dX2_carryAlong_42 kF_2_70 (tw_c (by decide)) (fr_6_0 (by decide)) ?_
  refine yr_iload_n (pq := 46) rfl dX2_carryAlong_45 rfl ?_
  refine yr_aald (pq := 47) rfl dX2_carryAlong_46 (tw_k1 (by decide)) (by decide) (by omega) (st_q (by decide) (by omega) (by omega)) ?_
  refine yr_vI0 (pq := 50) rfl dX2_carryAlong_47 kM_2_74 (by decide) (st_c (by decide) (by omega) (by omega)) (Nat.le_of_ble_eq_true rfl) (c_takes (st_c (by decide) s0 (by omega)) (by rw [es]; exact o0) (by rw [es]; exact o3) ?_)
  refine yr_iadd (pq := 51) rfl dX2_carryAlong_50 ?_
  refine yr_putI (pq := 54) 3 rfl dX2_carryAlong_51 kF_2_67 (by decide) rfl rfl (by decide) ?_
  refine yr_aload_n (pq := 55) rfl dX2_carryAlong_54 rfl ?_
  refine yr_getR (pq := 58) (b := 22) 1 rfl dX2_carryAlong_55 kF_2_21 (by decide) rfl ?_
  refine yr_iload_n (pq := 59) rfl dX2_carryAlong_58 rfl ?_
  refine yr_putI (pq := 62) 2 rfl dX2_carryAlong_59 kF_2_47 (by decide) rfl rfl (by decide) ?_
  refine yr_aload_n (pq := 63) rfl dX2_carryAlong_62 rfl ?_
  refine yr_getR (pq := 66) (b := 22) 1 rfl dX2_carryAlong_63 kF_2_21 (by decide) rfl ?_
  refine yr_getR (pq := 69) (b := 23) 0 rfl dX2_carryAlong_66 kF_2_89 (by decide) rfl ?_
  refine yr_iconst (pq := 70) rfl dX2_carryAlong_69 ?_
  refine yr_iald (pq := 71) rfl dX2_carryAlong_70 rfl (by decide) (by omega) ?_
  simp (disch := omega) only [up_o, up_k, up_s]
  rw [es, o5, f4]
  have e3 : g' 22 3 = N 50 := by rw [f6 3 (by decide), gn 22 (by decide)]; exact r4
  have e4 : g' 22 4 = N 51 := by rw [f6 4 (by decide), gn 22 (by decide)]; exact r5
  have e1 : g' 22 1 = N 44 := by rw [f6 1 (by decide), gn 22 (by decide)]; exact r2
  have e5 : g' 22 5 = N 52 + min (lossT N s) (totF N) := by rw [f7, gn 22 (by decide), r6]; rfl
  have q24 : g' 24 = h 24 := fn _ (by decide) (by decide) (by decide)
  have q1 : g' 1 = h 1 := fn _ (by decide) (by decide) (by decide)
  have hmb : -2147483648 ≤ mltP (lossT N s) (N 45 + N 46) (N 47) ∧ mltP (lossT N s) (N 45 + N 46) (N 47) ≤ 2147483647 := by unfold mltP; omega
  have rt : ∀ g2 : Int → Int → Int, (∀ b, b ≠ 22 → g2 b = g' b) → RT g2 2 (carN N s c) := by
    intro g2 hg
    refine RT_row (N := N) (RT_cong r0 hO (fun j j0 j1 j2 => ?_)) (fun j hj => carN_lo (by omega))
    rw [hg _ (by omega)]
    exact fn _ (by omega) (by omega) (by omega)
  refine yr_if_le (pq := 74) (t := 97) rfl dX2_carryAlong_71 rfl (by omega) (fun q => ?_) (fun q => ?_)
  · refine yr_iload_n (pq := 98) rfl dX2_carryAlong_97 rfl ?_
    refine yr_iret dX2_carryAlong_98 rfl (k _ (fun b q2 q3 q4 => ?_) ⟨rt _ (fun b hb => ?_), ⟨?_, ?_, ?_, ?_⟩, ?_, ?_, ?_, ?_, ?_, fun t t0 t1 => ?_, ?_⟩)
    · rw [up_ne q3, up_ne q3]; exact fn b q2 q3 q4
    · rw [up_ne hb, up_ne hb]
    · rw [up_ne (by decide), up_ne (by decide)]; exact f2
    · rw [up_ne (by decide), up_ne (by decide)]; exact f3
    · rw [up_ne (by decide), up_ne (by decide)]; exact f4
    · rw [up_ne (by decide), up_ne (by decide)]; exact f5
    · simp (disch := omega) only [up_o, up_k, up_s]; rw [e1, carN_lo (by omega)]
    · simp (disch := omega) only [up_o, up_k, up_s]; rfl
    · simp (disch := omega) only [up_o, up_k, up_s]; rw [e3]; rfl
    · simp (disch := omega) only [up_o, up_k, up_s]
      rw [e4]
      show N 51 = (if 0 < mltP (lossT N s) (N 45 + N 46) (N 47) then io (N 51) (il 1 (N c)) else N 51)
      rw [if_neg (by omega)]
    · simp (disch := omega) only [up_o, up_k, up_s]; rw [e5]; rfl
    · rw [up_ne (by decide), up_ne (by decide), q24, carN_lo (by omega)]; exact r7 t t0 t1
    · rw [up_ne (by decide), up_ne (by decide), q1, carN_lo (by omega)]; exact r8
  · refine yr_aload_n (pq := 75) rfl dX2_carryAlong_74 rfl ?_
    refine yr_getR (pq := 78) (b := 22) 1 rfl dX2_carryAlong_75 kF_2_21 (by decide) rfl ?_
    refine yr_dup (pq := 79) rfl dX2_carryAlong_78 rfl ?_
    refine yr_getI (pq := 82) 4 rfl dX2_carryAlong_79 kF_2_92 (by decide) rfl (by decide) ?_
    refine yr_iconst (pq := 83) rfl dX2_carryAlong_82 ?_
    refine yr_aload_n (pq := 84) rfl dX2_carryAlong_83 rfl ?_
    refine yr_getR (pq := 87) (b := 2) 0 rfl dX2_carryAlong_84 kF_2_12 (by decide) rfl ?_
    refine yr_getR (pq := 90) 2 rfl dX2_carryAlong_87 kF_2_95 (tw_c (by decide)) (fr_6_2 (by decide)) ?_
    refine yr_iload_n (pq := 91) rfl dX2_carryAlong_90 rfl ?_
    refine yr_iald (pq := 92) rfl dX2_carryAlong_91 (tw_k2 (by decide)) (tw_n (by decide) 2 (by decide)) (by omega) ?_
    refine yr_ishl (pq := 93) rfl dX2_carryAlong_92 ?_
    refine yr_ior (pq := 94) rfl dX2_carryAlong_93 ?_
    refine yr_putI (pq := 97) 4 rfl dX2_carryAlong_94 kF_2_92 (by decide) rfl rfl (by decide) ?_
    refine yr_iload_n (pq := 98) rfl dX2_carryAlong_97 rfl ?_
    simp (disch := omega) only [up_o, up_k, up_s]
    have eq : g' (2 + 2) c = N c := by rw [fn _ (by omega) (by omega) (by omega)]; exact r0.2.1 c hc.1 (by omega)
    rw [eq, e4]
    refine yr_iret dX2_carryAlong_98 rfl (k _ (fun b q2 q3 q4 => ?_) ⟨rt _ (fun b hb => ?_), ⟨?_, ?_, ?_, ?_⟩, ?_, ?_, ?_, ?_, ?_, fun t t0 t1 => ?_, ?_⟩)
    · rw [up_ne q3, up_ne q3, up_ne q3]; exact fn b q2 q3 q4
    · rw [up_ne hb, up_ne hb, up_ne hb]
    · rw [up_ne (by decide), up_ne (by decide), up_ne (by decide)]; exact f2
    · rw [up_ne (by decide), up_ne (by decide), up_ne (by decide)]; exact f3
    · rw [up_ne (by decide), up_ne (by decide), up_ne (by decide)]; exact f4
    · rw [up_ne (by decide), up_ne (by decide), up_ne (by decide)]; exact f5
    · simp (disch := omega) only [up_o, up_k, up_s]; rw [e1, carN_lo (by omega)]
    · simp (disch := omega) only [up_o, up_k, up_s]; rfl
    · simp (disch := omega) only [up_o, up_k, up_s]; rw [e3]; rfl
    · simp (disch := omega) only [up_o, up_k, up_s]
      show _ = (if 0 < mltP (lossT N s) (N 45 + N 46) (N 47) then io (N 51) (il 1 (N c)) else N 51)
      rw [if_pos (by omega)]
    · simp (disch := omega) only [up_o, up_k, up_s]; rw [e5]; rfl
    · rw [up_ne (by decide), up_ne (by decide), up_ne (by decide), q24, carN_lo (by omega)]; exact r7 t t0 t1
    · rw [up_ne (by decide), up_ne (by decide), up_ne (by decide), q1, carN_lo (by omega)]; exact r8
/-- a draw: z goes on -/
theorem nbF_nat (w c : Int) : ∃ m : Nat, m < 256 ∧ nbF N w c = (m : Int) ∧ m = mkS (nbP N w c) 8 := ⟨mkS (nbP N w c) 8, mkS_lt _ 8, rfl, rfl⟩
theorem c_drawNeighbour (hR : RS1 h N) (hO : okT N) (hS : okS N)
    (k0 : mkS (nbP N (-1) (N 49)) 8 = 0 → K (-1) h) (k1 : mkS (nbP N (-1) (N 49)) 8 ≠ 0 → ∀ h', (∀ a, a ≠ 1 → h' a = h a) → (∀ j, j ≠ 3 → h' 1 j = h 1 j) → h' 1 3 = h 1 3 * 1103515245 + 12345 → K (pickF (mkS (nbP N (-1) (N 49)) 8) 0 (drwF (h 1 3) % ((pcF (mkS (nbP N (-1) (N 49)) 8) : Nat) : Int)) 8) h') : ClI (d + 3) mX2_drawNeighbour [vr 1] h K := by
  obtain ⟨m, hm, e, em⟩ := nbF_nat (N := N) (-1) (N 49)
  rw [← em] at k0 k1
  have hp := pcF_b m
  have hp0 := pcF_0 ⟨m, hm⟩
  simp only at hp0
  have hd := iu_8 (h 1 3 * 1103515245 + 12345)
  have key : ∀ (n : Nat) (c x : Int) (g : Int → Int → Int), 0 ≤ c → c + n = 8 → 0 ≤ x → x ≤ 100000000 → K (pickF m c x n) g → Yr (d + 2) mX2_drawNeighbour 36 [vr 1, vi (m : Int), vi ((pcF m : Nat) : Int), vi x, vi c] [] g (rI K) := by
    intro n
    induction n with
    | zero =>
      intro c x g hc hn hx hx2 kk
      refine yr_iload (pq := 38) rfl dX2_drawNeighbour_36 rfl ?_
      refine yr_bipush (pq := 40) rfl dX2_drawNeighbour_38 rfl ?_
      refine yr_ic_ge (pq := 43) (t := 68) rfl dX2_drawNeighbour_40 rfl (by omega) (by omega) (fun _ => ?_) (fun q9 => absurd (by omega) q9)
      refine yr_iconst (pq := 69) rfl dX2_drawNeighbour_68 ?_
      exact yr_iret dX2_drawNeighbour_69 rfl (kk)
    | succ n ih =>
      intro c x g hc hn hx hx2 kk
      obtain ⟨cn, rfl⟩ := Int.eq_ofNat_of_zero_le hc
      rw [pickF, Int.toNat_natCast] at kk
      refine yr_iload (pq := 38) rfl dX2_drawNeighbour_36 rfl ?_
      refine yr_bipush (pq := 40) rfl dX2_drawNeighbour_38 rfl ?_
      refine yr_ic_ge (pq := 43) (t := 68) rfl dX2_drawNeighbour_40 rfl (by omega) (by omega) (fun q9 => absurd q9 (by omega)) (fun _ => ?_)
      refine yr_iload_n (pq := 44) rfl dX2_drawNeighbour_43 rfl ?_
      refine yr_iload (pq := 46) rfl dX2_drawNeighbour_44 rfl ?_
      refine yr_sI2 (pq := 49) rfl dX2_drawNeighbour_46 kM_2_63 (by decide) cat0 (c_isInSet (by omega) (by omega) (fun q => ?_) (fun q => ?_))
      · rw [if_pos q] at kk
        refine yr_if_eq (pq := 52) (t := 62) rfl dX2_drawNeighbour_49 rfl (by decide) (fun q9 => absurd q9 (by decide)) (fun _ => ?_)
        refine yr_iload_n (pq := 53) rfl dX2_drawNeighbour_52 rfl ?_
        refine yr_if_ne (pq := 56) (t := 59) rfl dX2_drawNeighbour_53 rfl (by omega) (fun q2 => ?_) (fun q2 => ?_)
        · rw [if_neg q2] at kk
          refine yr_iinc3 (pq := 62) rfl dX2_drawNeighbour_59 ?_
          refine yr_iinc4 (pq := 65) rfl dX2_drawNeighbour_62 ?_
          refine yr_goto (t := 36) dX2_drawNeighbour_65 rfl ?_
          exact ih _ _ g (by omega) (by omega) (by omega) (by omega) kk
        · rw [if_pos q2] at kk
          refine yr_iload (pq := 58) rfl dX2_drawNeighbour_56 rfl ?_
          exact yr_iret dX2_drawNeighbour_58 rfl (kk)
      · rw [if_neg q] at kk
        refine yr_if_eq (pq := 52) (t := 62) rfl dX2_drawNeighbour_49 rfl (by decide) (fun _ => ?_) (fun q9 => absurd (by decide) q9)
        refine yr_iinc4 (pq := 65) rfl dX2_drawNeighbour_62 ?_
        refine yr_goto (t := 36) dX2_drawNeighbour_65 rfl ?_
        exact ih _ _ g (by omega) (by omega) (by omega) (by omega) kk
  refine cl_in (al := [vr 1, .null, .null, .null, .null]) rfl (Nat.le_of_ble_eq_true rfl) (by simp [vi_cat, vr_cat, vs_cat]) ?_
  refine yr_aload_n (pq := 1) rfl dX2_drawNeighbour_0 rfl ?_
  refine yr_getR (pq := 4) (b := 2) 0 rfl dX2_drawNeighbour_1 kF_2_12 (by decide) rfl ?_
  refine yr_aload_n (pq := 5) rfl dX2_drawNeighbour_4 rfl ?_
  refine yr_getR (pq := 8) (b := 22) 1 rfl dX2_drawNeighbour_5 kF_2_21 (by decide) rfl ?_
  refine yr_getI (pq := 11) 2 rfl dX2_drawNeighbour_8 kF_2_47 (by decide) rfl (by decide) ?_
  rw [hR.2.2.2.1]
  refine yr_vI1 (pq := 14) rfl dX2_drawNeighbour_11 kM_2_50 (by decide) (tw_c (by decide)) cat0 (c_neighbours (by decide) hR.1 hO hS.2.1 ?_)
  rw [e]
  refine yr_istore1 (pq := 15) rfl dX2_drawNeighbour_14 ?_
  refine yr_iload_n (pq := 16) rfl dX2_drawNeighbour_15 rfl ?_
  refine yr_sI1 (pq := 19) rfl dX2_drawNeighbour_16 kM_2_54 (by decide) cat0 (j_bitCount hm ?_)
  refine yr_istore2 (pq := 20) rfl dX2_drawNeighbour_19 ?_
  refine yr_iload_n (pq := 21) rfl dX2_drawNeighbour_20 rfl ?_
  refine yr_if_ne (pq := 24) (t := 26) rfl dX2_drawNeighbour_21 rfl (by omega) (fun q => ?_) (fun q => ?_)
  · refine yr_aload_n (pq := 27) rfl dX2_drawNeighbour_26 rfl ?_
    refine yr_vI0 (pq := 30) rfl dX2_drawNeighbour_27 kM_2_59 (by decide) (by decide) cat0 (c_draw (fun g g1 g2 g3 => ?_))
    have hdr : 0 ≤ drwF (h 1 3) ∧ drwF (h 1 3) ≤ 16777215 := hd
    have hmod : 0 ≤ drwF (h 1 3) % ((pcF m : Nat) : Int) ∧ drwF (h 1 3) % ((pcF m : Nat) : Int) ≤ drwF (h 1 3) := ⟨Int.emod_nonneg _ (by omega), by have := Int.emod_lt_of_pos (drwF (h 1 3)) (show 0 < ((pcF m : Nat) : Int) by omega); have h9 := Int.emod_nonneg (drwF (h 1 3)) (show ((pcF m : Nat) : Int) ≠ 0 by omega); exact Int.le_trans (Int.le_of_eq rfl) (by have e9 := Int.emod_add_mul_ediv (drwF (h 1 3)) ((pcF m : Nat) : Int); have h10 : 0 ≤ drwF (h 1 3) / ((pcF m : Nat) : Int) := Int.ediv_nonneg hdr.1 (by omega); have h11 : 0 ≤ ((pcF m : Nat) : Int) * (drwF (h 1 3) / ((pcF m : Nat) : Int)) := Int.mul_nonneg (by omega) h10; omega)⟩
    refine yr_iload_n (pq := 31) rfl dX2_drawNeighbour_30 rfl ?_
    refine yr_irem (pq := 32) rfl dX2_drawNeighbour_31 (by omega) (by omega) ?_
    refine yr_istore3 (pq := 33) rfl dX2_drawNeighbour_32 ?_
    refine yr_iconst (pq := 34) rfl dX2_drawNeighbour_33 ?_
    refine yr_istore4 (pq := 36) rfl dX2_drawNeighbour_34 ?_
    exact key 8 0 _ g (by omega) (by omega) (by omega) (by omega) (k1 (fun q9 => q (by rw [hp0.mpr q9]; rfl)) g g1 g2 g3)
  · refine yr_iconst (pq := 25) rfl dX2_drawNeighbour_24 ?_
    exact yr_iret dX2_drawNeighbour_25 rfl (k0 (hp0.mp (by omega)))
theorem c_spotsHeld (hR : ∀ s, 0 ≤ s → s < 10 → h 24 s = N (10 + s)) (hb : ∀ s, 0 ≤ s → s < 10 → -1 ≤ N (10 + s) ∧ N (10 + s) ≤ 14) (k : K (sumA (fun s => if N (10 + s) < 0 then 0 else 1) 0 0 10) h) : ClI (d + 1) mX2_spotsHeld [vr 1] h K := by
  have key : ∀ (n : Nat) (i acc : Int), 0 ≤ i → i + n = 10 → K (sumA (fun s => if N (10 + s) < 0 then 0 else 1) acc i n) h → ∀ w, Yr d mX2_spotsHeld 13 [vr 1, vi acc, vr 24, vi ((10 : Nat) : Int), vi i, w] [] h (rI K) := by
    intro n
    induction n with
    | zero =>
      intro i acc hi hn kk w
      refine yr_iload (pq := 15) rfl dX2_spotsHeld_13 rfl ?_
      refine yr_iload_n (pq := 16) rfl dX2_spotsHeld_15 rfl ?_
      refine yr_ic_ge (pq := 19) (t := 39) rfl dX2_spotsHeld_16 rfl (by omega) (by omega) (fun _ => ?_) (fun q9 => absurd (by omega) q9)
      refine yr_iload_n (pq := 40) rfl dX2_spotsHeld_39 rfl ?_
      exact yr_iret dX2_spotsHeld_40 rfl (kk)
    | succ n ih =>
      intro i acc hi hn kk w
      have hq := hb i hi (by omega)
      rw [sumA] at kk
      refine yr_iload (pq := 15) rfl dX2_spotsHeld_13 rfl ?_
      refine yr_iload_n (pq := 16) rfl dX2_spotsHeld_15 rfl ?_
      refine yr_ic_ge (pq := 19) (t := 39) rfl dX2_spotsHeld_16 rfl (by omega) (by omega) (fun q9 => absurd q9 (by omega)) (fun _ => ?_)
      refine yr_aload_n (pq := 20) rfl dX2_spotsHeld_19 rfl ?_
      refine yr_iload (pq := 22) rfl dX2_spotsHeld_20 rfl ?_
      refine yr_iald (pq := 23) rfl dX2_spotsHeld_22 rfl (by decide) (by omega) ?_
      refine yr_istore5 (pq := 25) rfl dX2_spotsHeld_23 ?_
      refine yr_iload (pq := 27) rfl dX2_spotsHeld_25 rfl ?_
      rw [hR i hi (by omega)]
      refine yr_if_lt (pq := 30) (t := 33) rfl dX2_spotsHeld_27 rfl (by omega) (fun q => ?_) (fun q => ?_)
      · rw [if_pos q, Int.add_zero] at kk
        refine yr_iinc4 (pq := 36) rfl dX2_spotsHeld_33 ?_
        refine yr_goto (t := 13) dX2_spotsHeld_36 rfl ?_
        exact ih _ _ (by omega) (by omega) kk _
      · rw [if_neg q] at kk
        refine yr_iinc1 (pq := 33) rfl dX2_spotsHeld_30 ?_
        refine yr_iinc4 (pq := 36) rfl dX2_spotsHeld_33 ?_
        refine yr_goto (t := 13) dX2_spotsHeld_36 rfl ?_
        exact ih _ _ (by omega) (by omega) kk _
  refine cl_in (al := [vr 1, .null, .null, .null, .null, .null]) rfl (Nat.le_of_ble_eq_true rfl) (by simp [vi_cat, vr_cat, vs_cat]) ?_
  refine yr_iconst (pq := 1) rfl dX2_spotsHeld_0 ?_
  refine yr_istore1 (pq := 2) rfl dX2_spotsHeld_1 ?_
  refine yr_aload_n (pq := 3) rfl dX2_spotsHeld_2 rfl ?_
  refine yr_getR (pq := 6) (b := 24) 2 rfl dX2_spotsHeld_3 kF_2_25 (by decide) rfl ?_
  refine yr_astore2 (pq := 7) rfl dX2_spotsHeld_6 ?_
  refine yr_aload_n (pq := 8) rfl dX2_spotsHeld_7 rfl ?_
  refine yr_alen (pq := 9) rfl dX2_spotsHeld_8 rfl (by decide) ?_
  refine yr_istore3 (pq := 10) rfl dX2_spotsHeld_9 ?_
  refine yr_iconst (pq := 11) rfl dX2_spotsHeld_10 ?_
  refine yr_istore4 (pq := 13) rfl dX2_spotsHeld_11 ?_
  exact key 10 0 0 (by omega) (by omega) k _
/-- findings -/
theorem c_finding {w : Int} (hw : 0 ≤ w ∧ w ≤ 6) (k : K (-1000001 - w) (up h 99 w (h 99 w + 1))) : ClI (d + 2) mX7_finding [vr 0, vi w] h K := by
  refine cl_in (al := [vr 0, vi w]) rfl (Nat.le_of_ble_eq_true rfl) (by simp [vi_cat, vr_cat, vs_cat]) ?_
  refine yr_iload_n (pq := 1) rfl dX7_finding_0 rfl ?_
  refine yr_iconst (pq := 2) rfl dX7_finding_1 ?_
  refine yr_bipush (pq := 4) rfl dX7_finding_2 rfl ?_
  refine yr_sI3 (pq := 7) rfl dX7_finding_4 kM_7_62 (by decide) cat0 (c_isIn (by omega) (by omega) (by omega) (fun q => ?_) (fun q => ?_))
  · refine yr_if_eq (pq := 10) (t := 20) rfl dX7_finding_7 rfl (by decide) (fun q9 => absurd q9 (by decide)) (fun _ => ?_)
    refine yr_aload_n (pq := 11) rfl dX7_finding_10 rfl ?_
    refine yr_getR (pq := 14) (b := 99) 7 rfl dX7_finding_11 kF_7_50 (by decide) rfl ?_
    refine yr_iload_n (pq := 15) rfl dX7_finding_14 rfl ?_
    refine yr_dup2 (pq := 16) rfl dX7_finding_15 rfl rfl ?_
    refine yr_iald (pq := 17) rfl dX7_finding_16 rfl (by decide) (by omega) ?_
    refine yr_iconst (pq := 18) rfl dX7_finding_17 ?_
    refine yr_iadd (pq := 19) rfl dX7_finding_18 ?_
    refine yr_iast (pq := 20) rfl dX7_finding_19 rfl (by decide) (by omega) ?_
    refine yr_ldc_w (pq := 23) rfl dX7_finding_20 kN_7_311 ?_
    refine yr_iload_n (pq := 24) rfl dX7_finding_23 rfl ?_
    refine yr_isub (pq := 25) rfl dX7_finding_24 ?_
    exact yr_iret dX7_finding_25 rfl (k)
  · omega
theorem c_put {a i v : Int} {L : Nat} (hA : am_kd a.toNat = (0, L)) (h0 : 0 ≤ a) (hi : 0 ≤ i ∧ i < (L : Int)) (k : K (h a i) (up h a i v)) : ClI (d + 1) mX7_put [vr a, vi i, vi v] h K := by
  refine cl_in (al := [vr a, vi i, vi v, .null]) rfl (Nat.le_of_ble_eq_true rfl) (by simp [vi_cat, vr_cat, vs_cat]) ?_
  refine yr_aload_n (pq := 1) rfl dX7_put_0 rfl ?_
  refine yr_iload_n (pq := 2) rfl dX7_put_1 rfl ?_
  refine yr_iald (pq := 3) rfl dX7_put_2 hA h0 (by omega) ?_
  refine yr_istore3 (pq := 4) rfl dX7_put_3 ?_
  refine yr_aload_n (pq := 5) rfl dX7_put_4 rfl ?_
  refine yr_iload_n (pq := 6) rfl dX7_put_5 rfl ?_
  refine yr_iload_n (pq := 7) rfl dX7_put_6 rfl ?_
  refine yr_iast (pq := 8) rfl dX7_put_7 hA h0 (by omega) ?_
  refine yr_iload_n (pq := 9) rfl dX7_put_8 rfl ?_
  exact yr_iret dX7_put_9 rfl (k)
theorem c_isPast (hR : RS1 h N) (hS : okS N) (k1 : 700 < N 50 → K 1 h) (k0 : N 50 ≤ 700 → K 0 h) : ClI (d + 1) mX7_isPastPlanning [vr 0] h K := by
  have hm := hS.2.2.1
  refine cl_in (al := [vr 0]) rfl (Nat.le_of_ble_eq_true rfl) (by simp [vi_cat, vr_cat, vs_cat]) ?_
  refine yr_aload_n (pq := 1) rfl dX7_isPastPlanning_0 rfl ?_
  refine yr_getR (pq := 4) (b := 1) 0 rfl dX7_isPastPlanning_1 kF_7_10 (by decide) rfl ?_
  refine yr_getR (pq := 7) (b := 22) 1 rfl dX7_isPastPlanning_4 kF_7_135 (by decide) rfl ?_
  refine yr_getI (pq := 10) 3 rfl dX7_isPastPlanning_7 kF_7_163 (by decide) rfl (by decide) ?_
  refine yr_sipush (pq := 13) rfl dX7_isPastPlanning_10 rfl ?_
  rw [hR.2.2.2.2.1]
  refine yr_ic_le (pq := 16) (t := 20) rfl dX7_isPastPlanning_13 rfl (by omega) (by omega) (fun q => ?_) (fun q => ?_)
  · refine yr_iconst (pq := 21) rfl dX7_isPastPlanning_20 ?_
    exact yr_zret dX7_isPastPlanning_21 rfl (by first | decide | omega) (k0 q)
  · refine yr_iconst (pq := 17) rfl dX7_isPastPlanning_16 ?_
    refine yr_goto (t := 21) dX7_isPastPlanning_17 rfl ?_
    exact yr_zret dX7_isPastPlanning_21 rfl (by first | decide | omega) (k1 (by omega))
theorem c_isKind {v : Int} (hv : -2147483648 ≤ v ∧ v ≤ 2147483647) (k1 : 0 ≤ v ∧ v ≤ 6 → K 1 h) (k0 : ¬ (0 ≤ v ∧ v ≤ 6) → K 0 h) : ClI (d + 2) mX7_isKind [vi v] h K := by
  refine cl_in (al := [vi v]) rfl (Nat.le_of_ble_eq_true rfl) (by simp [vi_cat, vr_cat, vs_cat]) ?_
  refine yr_iload_n (pq := 1) rfl dX7_isKind_0 rfl ?_
  refine yr_iconst (pq := 2) rfl dX7_isKind_1 ?_
  refine yr_bipush (pq := 4) rfl dX7_isKind_2 rfl ?_
  refine yr_sI3 (pq := 7) rfl dX7_isKind_4 kM_7_62 (by decide) cat0 (c_isIn hv (by omega) (by omega) (fun q => ?_) (fun q => ?_))
  · exact yr_zret dX7_isKind_7 rfl (by first | decide | omega) (k1 q)
  · exact yr_zret dX7_isKind_7 rfl (by first | decide | omega) (k0 q)
theorem c_isSheet {v : Int} (hv : -2147483648 ≤ v ∧ v ≤ 2147483647) (k1 : 0 ≤ v ∧ v ≤ 3 → K 1 h) (k0 : ¬ (0 ≤ v ∧ v ≤ 3) → K 0 h) : ClI (d + 2) mX7_isSheet [vi v] h K := by
  refine cl_in (al := [vi v]) rfl (Nat.le_of_ble_eq_true rfl) (by simp [vi_cat, vr_cat, vs_cat]) ?_
  refine yr_iload_n (pq := 1) rfl dX7_isSheet_0 rfl ?_
  refine yr_iconst (pq := 2) rfl dX7_isSheet_1 ?_
  refine yr_iconst (pq := 3) rfl dX7_isSheet_2 ?_
  refine yr_sI3 (pq := 6) rfl dX7_isSheet_3 kM_7_62 (by decide) cat0 (c_isIn hv (by omega) (by omega) (fun q => ?_) (fun q => ?_))
  · exact yr_zret dX7_isSheet_6 rfl (by first | decide | omega) (k1 q)
  · exact yr_zret dX7_isSheet_6 rfl (by first | decide | omega) (k0 q)
theorem c_costsIn {T s m : Int} {P : Int → Int} (hT : tw T) (h23 : h 23 0 = N 45 ∧ h 23 1 = N 46 ∧ h 23 2 = N 47 ∧ h 23 3 = N 48) (h22 : h 22 1 = N 44) (hS : okS N) (hR : RT h T P) (hO : okT P) (hs : 0 ≤ s ∧ s < P 8) (hm : 0 ≤ m ∧ m ≤ 10000)
    (k : ∀ h', (∀ b, b ≠ T + 5 → h' b = h b) → K (min (totF N) (sumM (lossF P (N 44) s) m (takesF P s).toNat)) h') : ClI (d + 6) mX7_costsIn [vr 0, vr T, vi s, vi m] h K := by
  obtain ⟨a1, a2, a3, a4, a5, a6⟩ := hS
  have ht := takesF_b hO hs.1 hs.2
  have hl := sumM_b (f := lossF P (N 44) s) (B := 117) (fun i i0 i1 => lossF_b hO i0 i1) (takesF P s).toNat m hm.1
  refine cl_in (al := [vr 0, vr T, vi s, vi m]) rfl (Nat.le_of_ble_eq_true rfl) (by simp [vi_cat, vr_cat, vs_cat]) ?_
  refine yr_aload_n (pq := 1) rfl dX7_costsIn_0 rfl ?_
  refine yr_getR (pq := 4) (b := 1) 0 rfl dX7_costsIn_1 kF_7_10 (by decide) rfl ?_
  refine yr_getR (pq := 7) (b := 22) 1 rfl dX7_costsIn_4 kF_7_135 (by decide) rfl ?_
  refine yr_vI0 (pq := 10) rfl dX7_costsIn_7 kM_7_157 (by decide) (by decide) cat0 (c_total h23 ?_)
  refine yr_aload_n (pq := 11) rfl dX7_costsIn_10 rfl ?_
  refine yr_iload_n (pq := 12) rfl dX7_costsIn_11 rfl ?_
  refine yr_iload_n (pq := 13) rfl dX7_costsIn_12 rfl ?_
  refine yr_aload_n (pq := 14) rfl dX7_costsIn_13 rfl ?_
  refine yr_getR (pq := 17) (b := 1) 0 rfl dX7_costsIn_14 kF_7_10 (by decide) rfl ?_
  refine yr_getR (pq := 20) (b := 22) 1 rfl dX7_costsIn_17 kF_7_135 (by decide) rfl ?_
  refine yr_getI (pq := 23) 1 rfl dX7_costsIn_20 kF_7_139 (by decide) rfl (by decide) ?_
  rw [h22]
  refine yr_vI3 (pq := 26) rfl dX7_costsIn_23 kM_7_296 (by decide) (tw_c hT) (Nat.le_of_ble_eq_true rfl) (c_lossAlong hT hR hO hs hm a1 (fun g g1 => ?_))
  refine yr_sI2 (pq := 29) rfl dX7_costsIn_26 kM_7_100 (by decide) cat0 (j_min (by unfold totF; omega) (by omega) ?_)
  exact yr_iret dX7_costsIn_29 rfl (k g g1)
/-- Arrays.fill -/
theorem j_fill {a v : Int} {L : Nat} (hA : am_kd a.toNat = (0, L)) (h0 : 0 ≤ a) (hL : L ≤ 1200) (k : ∀ h', (∀ b, b ≠ a → h' b = h b) → (∀ j, 0 ≤ j → j < (L : Int) → h' a j = v) → KV h') : ClV (d + 1) mJ7_fill_53178 [vr a, vi v] h KV := by
  have key : ∀ (n : Nat) (i : Int) (g : Int → Int → Int), 0 ≤ i → i + n = L → (∀ b, b ≠ a → g b = h b) → (∀ j, 0 ≤ j → j < i → g a j = v) → Yr d mJ7_fill_53178 5 [vr a, vi v, vi i, vi (L : Int)] [] g (rV KV) := by
    intro n
    induction n with
    | zero =>
      intro i g hi hn g1 g2
      refine yr_iload_n (pq := 6) rfl dJ7_fill_53178_5 rfl ?_
      refine yr_iload_n (pq := 7) rfl dJ7_fill_53178_6 rfl ?_
      refine yr_ic_ge (pq := 10) (t := 20) rfl dJ7_fill_53178_7 rfl (by omega) (by omega) (fun _ => ?_) (fun q9 => absurd (by omega) q9)
      exact yr_vret dJ7_fill_53178_20 rfl (k g g1 (fun j j0 j1 => g2 j j0 (by omega)))
    | succ n ih =>
      intro i g hi hn g1 g2
      refine yr_iload_n (pq := 6) rfl dJ7_fill_53178_5 rfl ?_
      refine yr_iload_n (pq := 7) rfl dJ7_fill_53178_6 rfl ?_
      refine yr_ic_ge (pq := 10) (t := 20) rfl dJ7_fill_53178_7 rfl (by omega) (by omega) (fun q9 => absurd q9 (by omega)) (fun _ => ?_)
      refine yr_aload_n (pq := 11) rfl dJ7_fill_53178_10 rfl ?_
      refine yr_iload_n (pq := 12) rfl dJ7_fill_53178_11 rfl ?_
      refine yr_iload_n (pq := 13) rfl dJ7_fill_53178_12 rfl ?_
      refine yr_iast (pq := 14) rfl dJ7_fill_53178_13 hA h0 (by omega) ?_
      refine yr_iinc2 (pq := 17) rfl dJ7_fill_53178_14 ?_
      refine yr_goto (t := 5) dJ7_fill_53178_17 rfl ?_
      refine ih _ _ (by omega) (by omega) (fun b hb => by rw [up_ne hb]; exact g1 b hb) (fun j j0 j1 => ?_)
      by_cases e : j = i
      · subst e; rw [up_s]
      · rw [up_k e]; exact g2 j j0 (by omega)
  refine cl_in (al := [vr a, vi v, .null, .null]) rfl (Nat.le_of_ble_eq_true rfl) (by simp [vi_cat, vr_cat, vs_cat]) ?_
  refine yr_iconst (pq := 1) rfl dJ7_fill_53178_0 ?_
  refine yr_istore2 (pq := 2) rfl dJ7_fill_53178_1 ?_
  refine yr_aload_n (pq := 3) rfl dJ7_fill_53178_2 rfl ?_
  refine yr_alen (pq := 4) rfl dJ7_fill_53178_3 hA (by decide) ?_
  refine yr_istore3 (pq := 5) rfl dJ7_fill_53178_4 ?_
  exact key L 0 h (by omega) (by omega) (fun _ _ => rfl) (fun j j0 j1 => by omega)
/-- sheets -/
theorem c_isMissing {a : Int} (ha : sq a) (hb : -2147483648 ≤ h a 0 ∧ h a 0 ≤ 2147483647) (k1 : h a 0 = 0 → K 1 h) (k0 : h a 0 ≠ 0 → K 0 h) : ClI (d + 1) mX4_isMissing [vr a] h K := by
  refine cl_in (al := [vr a]) rfl (Nat.le_of_ble_eq_true rfl) (by simp [vi_cat, vr_cat, vs_cat]) ?_
  refine yr_aload_n (pq := 1) rfl dX4_isMissing_0 rfl ?_
  refine yr_getI (pq := 4) 0 rfl dX4_isMissing_1 kF_4_9 (by decide) rfl (sq_c ha) ?_
  refine yr_if_ne (pq := 7) (t := 11) rfl dX4_isMissing_4 rfl (by omega) (fun q => ?_) (fun q => ?_)
  · refine yr_iconst (pq := 12) rfl dX4_isMissing_11 ?_
    exact yr_zret dX4_isMissing_12 rfl (by first | decide | omega) (k0 q)
  · refine yr_iconst (pq := 8) rfl dX4_isMissing_7 ?_
    refine yr_goto (t := 12) dX4_isMissing_8 rfl ?_
    exact yr_zret dX4_isMissing_12 rfl (by first | decide | omega) (k1 q)
theorem c_shRemake {a b n : Int} (ha : sq a) (hb : -2147483648 ≤ b ∧ b ≤ 2147483647) (k : ∀ h', (∀ c, c ≠ a → c ≠ a + 1 → h' c = h c) → h' a 0 = b → h' a 1 = (if b = 0 then 0 else n) → (∀ j, 0 ≤ j → j < 40 → h' (a + 1) j = 0) → KV h') : ClV (d + 2) mX4_remake [vr a, vi b, vi n] h KV := by
  refine cl_in (al := [vr a, vi b, vi n]) rfl (Nat.le_of_ble_eq_true rfl) (by simp [vi_cat, vr_cat, vs_cat]) ?_
  refine yr_aload_n (pq := 1) rfl dX4_remake_0 rfl ?_
  refine yr_iload_n (pq := 2) rfl dX4_remake_1 rfl ?_
  refine yr_putI (pq := 5) 0 rfl dX4_remake_2 kF_4_9 (by decide) rfl rfl (sq_c ha) ?_
  refine yr_aload_n (pq := 6) rfl dX4_remake_5 rfl ?_
  refine yr_iload_n (pq := 7) rfl dX4_remake_6 rfl ?_
  refine yr_if_ne (pq := 10) (t := 14) rfl dX4_remake_7 rfl (by omega) (fun q => ?_) (fun q => ?_)
  · rw [if_neg q] at k
    refine yr_iload_n (pq := 15) rfl dX4_remake_14 rfl ?_
    refine yr_putI (pq := 18) 1 rfl dX4_remake_15 kF_4_15 (by decide) rfl rfl (sq_c ha) ?_
    refine yr_aload_n (pq := 19) rfl dX4_remake_18 rfl ?_
    refine yr_getR (pq := 22) 2 rfl dX4_remake_19 kF_4_18 (sq_c ha) (fr_4_2 ha) ?_
    refine yr_iconst (pq := 23) rfl dX4_remake_22 ?_
    refine yr_sV2 (pq := 26) rfl dX4_remake_23 kM_4_22 (by decide) cat0 (j_fill (sq_k1 ha) (sq_n ha 1 (by decide)) (by decide) (fun g g1 g2 => ?_))
    exact yr_vret dX4_remake_26 rfl (k g (fun c q1 q2 => by rw [g1 c q2, up_ne q1, up_ne q1]) (by rw [g1 a (by omega)]; simp [up]) (by rw [g1 a (by omega)]; simp [up]) g2)
  · rw [if_pos q] at k
    refine yr_iconst (pq := 11) rfl dX4_remake_10 ?_
    refine yr_goto (t := 15) dX4_remake_11 rfl ?_
    refine yr_putI (pq := 18) 1 rfl dX4_remake_15 kF_4_15 (by decide) rfl rfl (sq_c ha) ?_
    refine yr_aload_n (pq := 19) rfl dX4_remake_18 rfl ?_
    refine yr_getR (pq := 22) 2 rfl dX4_remake_19 kF_4_18 (sq_c ha) (fr_4_2 ha) ?_
    refine yr_iconst (pq := 23) rfl dX4_remake_22 ?_
    refine yr_sV2 (pq := 26) rfl dX4_remake_23 kM_4_22 (by decide) cat0 (j_fill (sq_k1 ha) (sq_n ha 1 (by decide)) (by decide) (fun g g1 g2 => ?_))
    exact yr_vret dX4_remake_26 rfl (k g (fun c q1 q2 => by rw [g1 c q2, up_ne q1, up_ne q1]) (by rw [g1 a (by omega)]; simp [up]) (by rw [g1 a (by omega)]; simp [up]) g2)
/-- a number cut to so many bits -/
def cutF (v b : Int) : Int := if b = 8 then ib v else if b = 16 then ih v else v
theorem c_shSet {a i v : Int} (ha : sq a) (hb : h a 0 = 8 ∨ h a 0 = 16 ∨ h a 0 = 32) (hi : 0 ≤ i ∧ i < 40) (k : KV (up h (a + 1) i (cutF v (h a 0)))) : ClV (d + 1) mX4_set [vr a, vi i, vi v] h KV := by
  refine cl_in (al := [vr a, vi i, vi v]) rfl (Nat.le_of_ble_eq_true rfl) (by simp [vi_cat, vr_cat, vs_cat]) ?_
  refine yr_aload_n (pq := 1) rfl dX4_set_0 rfl ?_
  refine yr_getI (pq := 4) 0 rfl dX4_set_1 kF_4_9 (by decide) rfl (sq_c ha) ?_
  rcases hb with e | e | e
  · rw [e] at k ⊢
    refine yr_look (t := 32) dX4_set_4 (by omega) (by decide) rfl rfl ?_
    refine yr_aload_n (pq := 33) rfl dX4_set_32 rfl ?_
    refine yr_getR (pq := 36) 2 rfl dX4_set_33 kF_4_18 (sq_c ha) (fr_4_2 ha) ?_
    refine yr_iload_n (pq := 37) rfl dX4_set_36 rfl ?_
    refine yr_iload_n (pq := 38) rfl dX4_set_37 rfl ?_
    refine yr_i2b (pq := 39) rfl dX4_set_38 ?_
    refine yr_iast (pq := 40) rfl dX4_set_39 (sq_k1 ha) (sq_n ha 1 (by decide)) (by omega) ?_
    refine yr_goto (t := 61) dX4_set_40 rfl ?_
    exact yr_vret dX4_set_61 rfl (k)
  · rw [e] at k ⊢
    refine yr_look (t := 43) dX4_set_4 (by omega) (by decide) rfl rfl ?_
    refine yr_aload_n (pq := 44) rfl dX4_set_43 rfl ?_
    refine yr_getR (pq := 47) 2 rfl dX4_set_44 kF_4_18 (sq_c ha) (fr_4_2 ha) ?_
    refine yr_iload_n (pq := 48) rfl dX4_set_47 rfl ?_
    refine yr_iload_n (pq := 49) rfl dX4_set_48 rfl ?_
    refine yr_i2s (pq := 50) rfl dX4_set_49 ?_
    refine yr_iast (pq := 51) rfl dX4_set_50 (sq_k1 ha) (sq_n ha 1 (by decide)) (by omega) ?_
    refine yr_goto (t := 61) dX4_set_51 rfl ?_
    exact yr_vret dX4_set_61 rfl (k)
  · rw [e] at k ⊢
    refine yr_look (t := 54) dX4_set_4 (by omega) (by decide) rfl rfl ?_
    refine yr_aload_n (pq := 55) rfl dX4_set_54 rfl ?_
    refine yr_getR (pq := 58) 2 rfl dX4_set_55 kF_4_18 (sq_c ha) (fr_4_2 ha) ?_
    refine yr_iload_n (pq := 59) rfl dX4_set_58 rfl ?_
    refine yr_iload_n (pq := 60) rfl dX4_set_59 rfl ?_
    refine yr_iast (pq := 61) rfl dX4_set_60 (sq_k1 ha) (sq_n ha 1 (by decide)) (by omega) ?_
    exact yr_vret dX4_set_61 rfl (k)
theorem c_hasRange {a f n : Int} (ha : sq a) (hs : 0 ≤ h a 1 ∧ h a 1 ≤ 40) (hf : -2147483648 ≤ f ∧ f ≤ 2147483647) (hn : -2147483648 ≤ n ∧ n ≤ 2147483647) (k1 : 0 ≤ f ∧ 0 ≤ n ∧ f + n ≤ h a 1 → K 1 h) (k0 : ¬ (0 ≤ f ∧ 0 ≤ n ∧ f + n ≤ h a 1) → K 0 h) : ClI (d + 1) mX4_hasRange [vr a, vi f, vi n] h K := by
  refine cl_in (al := [vr a, vi f, vi n]) rfl (Nat.le_of_ble_eq_true rfl) (by simp [vi_cat, vr_cat, vs_cat]) ?_
  refine yr_iload_n (pq := 1) rfl dX4_hasRange_0 rfl ?_
  refine yr_if_lt (pq := 4) (t := 30) rfl dX4_hasRange_1 rfl (by omega) (fun q => ?_) (fun q => ?_)
  · refine yr_iconst (pq := 31) rfl dX4_hasRange_30 ?_
    exact yr_zret dX4_hasRange_31 rfl (by first | decide | omega) (k0 (by omega))
  · refine yr_iload_n (pq := 5) rfl dX4_hasRange_4 rfl ?_
    refine yr_if_lt (pq := 8) (t := 30) rfl dX4_hasRange_5 rfl (by omega) (fun q2 => ?_) (fun q2 => ?_)
    · refine yr_iconst (pq := 31) rfl dX4_hasRange_30 ?_
      exact yr_zret dX4_hasRange_31 rfl (by first | decide | omega) (k0 (by omega))
    · refine yr_iload_n (pq := 9) rfl dX4_hasRange_8 rfl ?_
      refine yr_aload_n (pq := 10) rfl dX4_hasRange_9 rfl ?_
      refine yr_getI (pq := 13) 1 rfl dX4_hasRange_10 kF_4_15 (by decide) rfl (sq_c ha) ?_
      refine yr_ic_gt (pq := 16) (t := 30) rfl dX4_hasRange_13 rfl (by omega) (by omega) (fun q3 => ?_) (fun q3 => ?_)
      · refine yr_iconst (pq := 31) rfl dX4_hasRange_30 ?_
        exact yr_zret dX4_hasRange_31 rfl (by first | decide | omega) (k0 (by omega))
      · refine yr_iload_n (pq := 17) rfl dX4_hasRange_16 rfl ?_
        refine yr_aload_n (pq := 18) rfl dX4_hasRange_17 rfl ?_
        refine yr_getI (pq := 21) 1 rfl dX4_hasRange_18 kF_4_15 (by decide) rfl (sq_c ha) ?_
        refine yr_iload_n (pq := 22) rfl dX4_hasRange_21 rfl ?_
        refine yr_isub (pq := 23) rfl dX4_hasRange_22 ?_
        refine yr_ic_gt (pq := 26) (t := 30) rfl dX4_hasRange_23 rfl (by omega) (by omega) (fun q4 => ?_) (fun q4 => ?_)
        · refine yr_iconst (pq := 31) rfl dX4_hasRange_30 ?_
          exact yr_zret dX4_hasRange_31 rfl (by first | decide | omega) (k0 (by omega))
        · refine yr_iconst (pq := 27) rfl dX4_hasRange_26 ?_
          refine yr_goto (t := 31) dX4_hasRange_27 rfl ?_
          exact yr_zret dX4_hasRange_31 rfl (by first | decide | omega) (k1 (by omega))
end CW
