/-! the class goes all ways -/
theorem lp_id {f : Nat → aT → aT} (hf : ∀ c A, f c A = A) : ∀ (m c : Nat) (A : aT), lpF f c m A = A := by
  intro m
  induction m with
  | zero => intro c A; rfl
  | succ m ih => intro c A; rw [lpF, hf, ih]
def cnF : Nat → Int
  | 0 => 0
  | n + 1 => 1 + 8 * cnF n
theorem cnF_0 (n : Nat) : 0 ≤ cnF n := by
  induction n with
  | zero => exact Int.le_refl 0
  | succ n ih => rw [cnF]; omega
theorem noteF_1 (A : aT) (l k m : Int) (p : Int → Int) : (noteF A l k m p).1 = A.1 + 1 := by
  unfold noteF
  split <;> rfl
theorem clsF_1 (g w o due : Int) (N : Int → Int) (k : Int) (p : Int → Int) (A : aT) : A.1 ≤ (clsF g w o due N k p A).1 ∧ (clsF g w o due N k p A).1 ≤ A.1 + 1 := by
  unfold clsF
  split
  · rw [noteF_1]; omega
  · omega
theorem lp_n {f : Nat → aT → aT} {C : Int} (hf : ∀ c A, (f c A).1 ≤ A.1 + C) : ∀ (m c : Nat) (A : aT), (lpF f c m A).1 ≤ A.1 + m * C := by
  intro m
  induction m with
  | zero => intro c A; rw [lpF]; simp
  | succ m ih =>
    intro c A
    have h1 := ih (c + 1) (f c A)
    have h2 := hf c A
    rw [lpF, show ((m + 1 : Nat) : Int) * C = m * C + C by rw [show ((m + 1 : Nat) : Int) = (m : Int) + 1 by omega, Int.add_mul, Int.one_mul]]
    omega
theorem dfs_n {g w o due b : Int} : ∀ (n : Nat) (N : Int → Int) (v : Nat) (k : Int) (p : Int → Int) (A : aT), (dfsF g w o due b n N v k p A).1 ≤ A.1 + cnF n := by
  intro n
  induction n with
  | zero => intro N v k p A; rw [dfsF, cnF]; omega
  | succ n ih =>
    intro N v k p A
    have hc0 := cnF_0 n
    rw [dfsF, cnF]
    split
    · rw [noteF_1]; omega
    · have h1 := clsF_1 g w o due N k p A
      refine Int.le_trans (lp_n (C := cnF n) (fun c B => ?_) 8 0 _) ?_
      · split
        · omega
        · split
          · exact ih _ _ _ _ _
          · omega
      · rw [show ((8 : Nat) : Int) = 8 from rfl]; omega
theorem AC_cong {g : Int} {h h' : hT} {A : aT} (hA : AC g h A) (e1 : h' 69 = h 69) (e2 : h' 75 = h 75) : AC g h' A := by
  unfold AC at hA ⊢
  rw [e1, e2]
  exact hA
section CL
variable {d : Nat} {h : hT} {K : Int → hT → Prop} {KV : hT → Prop} {N N0 : Int → Int} {g o due b w : Int}
/-- the sum that the class makes of its table -/
theorem sk_loss {s : Int} (hK : SK h N w) (s0 : 0 ≤ s) (s1 : s < N 8) (hm : 0 ≤ N 50) : sumM (fun i => h 72 (12 * s + i)) (N 50) (takesF N s).toNat = lossT N s :=
  sumM_cong (fun i i0 i1 => hK.2.2.1 s i s0 s1 i0 i1) _ _ hm
theorem c_closeRound {x m sn L k : Int} {A : aT} {p : Int → Int} (hg : g = -1) (ho : 0 ≤ o ∧ o ≤ 7) (hF : SF h g o due b N0) (hP : okP N0) (hK : SK h N w) (hO : okT N) (hS : okS N) (hD : ND N0 N L) (hx : N 49 = x) (hm : N 50 = m) (hn : N 51 = sn) (hL : 0 ≤ L ∧ L + 3510 ≤ 100000) (hmb : N 50 + 30 ≤ b + 240) (hb : 0 ≤ b ∧ b ≤ N 50 ∧ b ≤ 999) (hk : 0 < k ∧ k ≤ 7) (hA : AC g h A) (hA1 : A.1 ≤ 1000000000) (hp : ∀ j, 0 ≤ j → j < k → h 74 j = p j)
    (kk : ∀ h', FC 10 h h' → AC g h' (clsF g w o due N k p A) → KV h') : ClV (d + 3) mX3_closeRound [vr 69, vi x, vi m, vi L, vi sn, vi k] h KV := by
  subst hx hm hn
  have hO8 := hO.1
  have hb9 := byF_b (N := N) (w := w) (a := N 49) (b := o)
  have hF0 := hF
  obtain ⟨s1, s2, s3, s4, s5, s6⟩ := hF0
  have hfl := flF_b hP
  obtain ⟨a1, a2, a3, a4, a5, a6⟩ := hS
  refine cl_in (al := [vr 69, vi (N 49), vi (N 50), vi L, vi (N 51), vi k, .null, .null]) rfl (Nat.le_of_ble_eq_true rfl) (by simp [vi_cat, vr_cat, vs_cat]) ?_
  refine yr_aload_n (pq := 1) rfl dX3_closeRound_0 rfl ?_
  refine yr_getR (pq := 4) (b := 70) 0 rfl dX3_closeRound_1 kF_3_9 (by decide) rfl ?_
  refine yr_bipush (pq := 6) rfl dX3_closeRound_4 rfl ?_
  refine yr_iload_n (pq := 7) rfl dX3_closeRound_6 rfl ?_
  refine yr_imul (pq := 8) rfl dX3_closeRound_7 ?_
  refine yr_aload_n (pq := 9) rfl dX3_closeRound_8 rfl ?_
  refine yr_getI (pq := 12) 5 rfl dX3_closeRound_9 kF_3_28 (by decide) rfl (by decide) ?_
  refine yr_iadd (pq := 13) rfl dX3_closeRound_12 ?_
  rw [s2]
  refine yr_iald (pq := 14) rfl dX3_closeRound_13 rfl (by decide) (by omega) ?_
  refine yr_istore6 (pq := 16) rfl dX3_closeRound_14 ?_
  refine yr_iload (pq := 18) rfl dX3_closeRound_16 rfl ?_
  rw [hK.1 _ _ a2.1 a2.2 ho.1 ho.2]
  refine yr_if_ge (pq := 21) (t := 22) rfl dX3_closeRound_18 rfl (by omega) (fun q => ?_) (fun q => ?_)
  · have hs : 0 ≤ byF N w (N 49) o ∧ byF N w (N 49) o < N 8 := by omega
    have ec : clsF g w o due N k p A = if ia due (ix (carN N (byF N w (N 49) o) o 51) (-1)) = 0 then noteF A (totF (carN N (byF N w (N 49) o) o)) k 0 p else A := by
      unfold clsF
      by_cases e : ia due (ix (carN N (byF N w (N 49) o) o 51) (-1)) = 0
      · rw [if_pos ⟨⟨hg, by omega⟩, hs.1, e⟩, if_pos e]
      · rw [if_neg (fun x => e x.2.2), if_neg e]
    rw [ec] at kk
    generalize byF N w (N 49) o = s at hs kk ⊢
    have htk := takesF_b hO hs.1 hs.2
    have hls := lossT_b hO a3.1 hs.1 hs.2
    refine yr_iload_n (pq := 23) rfl dX3_closeRound_22 rfl ?_
    refine yr_aload_n (pq := 24) rfl dX3_closeRound_23 rfl ?_
    refine yr_getR (pq := 27) (b := 72) 2 rfl dX3_closeRound_24 kF_3_18 (by decide) rfl ?_
    refine yr_bipush (pq := 29) rfl dX3_closeRound_27 rfl ?_
    refine yr_iload (pq := 31) rfl dX3_closeRound_29 rfl ?_
    refine yr_imul (pq := 32) rfl dX3_closeRound_31 ?_
    refine yr_iload_n (pq := 33) rfl dX3_closeRound_32 rfl ?_
    refine yr_aload_n (pq := 34) rfl dX3_closeRound_33 rfl ?_
    refine yr_getR (pq := 37) (b := 71) 1 rfl dX3_closeRound_34 kF_3_15 (by decide) rfl ?_
    refine yr_iload (pq := 39) rfl dX3_closeRound_37 rfl ?_
    refine yr_iald (pq := 40) rfl dX3_closeRound_39 rfl (by decide) (by omega) ?_
    rw [hK.2.1 s hs.1 hs.2]
    refine yr_sI4 (pq := 43) rfl dX3_closeRound_40 kM_3_132 (by decide) (Nat.le_of_ble_eq_true rfl) (c_sumAlong (a := 72) (L := 168) rfl (by decide) (by omega) (by omega) (by omega) ?_)
    rw [sk_loss hK hs.1 hs.2 a3.1]
    refine yr_iadd (pq := 44) rfl dX3_closeRound_43 ?_
    refine yr_istore7 (pq := 46) rfl dX3_closeRound_44 ?_
    refine yr_aload_n (pq := 47) rfl dX3_closeRound_46 rfl ?_
    refine yr_getI (pq := 50) 4 rfl dX3_closeRound_47 kF_3_24 (by decide) rfl (by decide) ?_
    refine yr_aload_n (pq := 51) rfl dX3_closeRound_50 rfl ?_
    refine yr_aload_n (pq := 52) rfl dX3_closeRound_51 rfl ?_
    refine yr_getI (pq := 55) 5 rfl dX3_closeRound_52 kF_3_28 (by decide) rfl (by decide) ?_
    refine yr_iload (pq := 57) rfl dX3_closeRound_55 rfl ?_
    refine yr_iload (pq := 59) rfl dX3_closeRound_57 rfl ?_
    rw [s1, s2]
    refine yr_vI3 (pq := 62) rfl dX3_closeRound_59 kM_3_136 (by decide) (by decide) (Nat.le_of_ble_eq_true rfl) (c_seenAt s4 ho (hK.2.2.2 o ho.1 (by omega)) (by omega) (by omega) ?_)
    rw [ND_seen hP hD hL.1 hls.1]
    refine yr_iconst (pq := 63) rfl dX3_closeRound_62 ?_
    refine yr_ixor (pq := 64) rfl dX3_closeRound_63 ?_
    refine yr_iand (pq := 65) rfl dX3_closeRound_64 ?_
    have hir := ia_rg due (ix (carN N s o 51) (-1))
    refine yr_if_ne (pq := 68) (t := 85) rfl dX3_closeRound_65 rfl (by omega) (fun q3 => ?_) (fun q3 => ?_)
    · rw [if_neg q3] at kk
      refine yr_vret dX3_closeRound_85 rfl (kk h (FC_r _ h) hA)
    · rw [if_pos (by omega), ND_tot hP (ND_car hP hD hL.1 hls.1) (by omega)] at kk
      refine yr_aload_n (pq := 69) rfl dX3_closeRound_68 rfl ?_
      refine yr_iload_n (pq := 70) rfl dX3_closeRound_69 rfl ?_
      refine yr_aload_n (pq := 71) rfl dX3_closeRound_70 rfl ?_
      refine yr_getR (pq := 74) (b := 71) 1 rfl dX3_closeRound_71 kF_3_15 (by decide) rfl ?_
      refine yr_iload (pq := 76) rfl dX3_closeRound_74 rfl ?_
      refine yr_iald (pq := 77) rfl dX3_closeRound_76 rfl (by decide) (by omega) ?_
      refine yr_iadd (pq := 78) rfl dX3_closeRound_77 ?_
      refine yr_iload (pq := 80) rfl dX3_closeRound_78 rfl ?_
      refine yr_iload (pq := 82) rfl dX3_closeRound_80 rfl ?_
      rw [hK.2.1 s hs.1 hs.2]
      refine yr_vV3 (pq := 85) rfl dX3_closeRound_82 kM_3_120 (by decide) (by decide) cat0 (c_note (mm := 0) (A := A) (p := p) hF hP hA (by omega) (by omega) (by omega) (by omega) (fun g0 => by omega) hA1 hp (fun f x1 x2 => ?_))
      refine yr_vret dX3_closeRound_85 rfl (kk f x1 x2)
  · have ec : clsF g w o due N k p A = A := if_neg (by omega)
    rw [ec] at kk
    refine yr_vret dX3_closeRound_21 rfl (kk h (FC_r _ h) hA)
end CL
