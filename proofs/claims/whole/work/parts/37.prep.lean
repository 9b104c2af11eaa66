/-! the seeker is told the town, and seeks -/
theorem okS_P {N : Int → Int} (hS : okS N) : okP N := by
  have ht := okS_tot hS
  obtain ⟨a1, a2, a3, a4, a5, a6⟩ := hS
  exact ⟨a5.1, a5.2.1, a5.2.2.1, a5.2.2.2.1, ht.2⟩
theorem ND_0 {N : Int → Int} (hP : okP N) : ND N N 0 := by
  obtain ⟨p1, p2, p3, p4, p5⟩ := hP
  unfold ND mltP
  omega
theorem pc_one : ∀ c : Fin 8, 2 ^ c.val < 256 ∧ pcF (2 ^ c.val) = 1 := by decide +kernel
theorem cnF_8 : cnF 8 ≤ 1000000000 := by decide
section CP
variable {d : Nat} {h : hT} {K : Int → hT → Prop} {KV : hT → Prop} {N N0 : Int → Int} {g o due b w : Int}
theorem c_seek {p : Int → Int} (hO : okT N) (hS : okS N) (hK : SK h N w) (f4 : h 69 4 = due) (f5 : h 69 5 = N 49) (f6 : h 69 6 = totF N) (f7 : h 69 7 = flF N) (f8 : h 69 8 = N 51) (hg : -1 ≤ g ∧ g ≤ 7) (hb : N 50 = b) (hb2 : b ≤ 999)
    (kk : ∀ h', (∀ a, a ≠ 69 → a ≠ 74 → a ≠ 75 → h' a = h a) → (∀ j, j < 9 → h' 69 j = h 69 j) → AC g h' (dfsF g w (N 49) due b 8 N (2 ^ (N 49).toNat) 0 p (0, -1, 0, 999, p)) → KV h') : ClV (d + 8 + 5) mX3_seek [vr 69, vi g, vi b] h KV := by
  have hS0 := hS
  obtain ⟨a1, a2, a3, a4, a5, a6⟩ := hS0
  have hP := okS_P hS
  obtain ⟨c, ec⟩ := Int.eq_ofNat_of_zero_le a2.1
  have hpc := pc_one ⟨c, by omega⟩
  simp only at hpc
  have el : il 1 (N 49) = ((2 ^ c : Nat) : Int) := by rw [ec, il_nat (by omega)]
  have et : (N 49).toNat = c := by omega
  rw [et] at kk
  refine cl_in (al := [vr 69, vi g, vi b]) rfl (Nat.le_of_ble_eq_true rfl) (by simp [vi_cat, vr_cat, vs_cat]) ?_
  refine yr_aload_n (pq := 1) rfl dX3_seek_0 rfl ?_
  refine yr_iload_n (pq := 2) rfl dX3_seek_1 rfl ?_
  refine yr_putI (pq := 5) 9 rfl dX3_seek_2 kF_3_40 (by decide) rfl rfl (by decide) ?_
  refine yr_aload_n (pq := 6) rfl dX3_seek_5 rfl ?_
  refine yr_iload_n (pq := 7) rfl dX3_seek_6 rfl ?_
  refine yr_putI (pq := 10) 10 rfl dX3_seek_7 kF_3_43 (by decide) rfl rfl (by decide) ?_
  refine yr_aload_n (pq := 11) rfl dX3_seek_10 rfl ?_
  refine yr_iconst (pq := 12) rfl dX3_seek_11 ?_
  refine yr_putI (pq := 15) 12 rfl dX3_seek_12 kF_3_49 (by decide) rfl rfl (by decide) ?_
  refine yr_aload_n (pq := 16) rfl dX3_seek_15 rfl ?_
  refine yr_iconst (pq := 17) rfl dX3_seek_16 ?_
  refine yr_putI (pq := 20) 13 rfl dX3_seek_17 kF_3_52 (by decide) rfl rfl (by decide) ?_
  refine yr_aload_n (pq := 21) rfl dX3_seek_20 rfl ?_
  refine yr_iconst (pq := 22) rfl dX3_seek_21 ?_
  refine yr_putI (pq := 25) 14 rfl dX3_seek_22 kF_3_55 (by decide) rfl rfl (by decide) ?_
  refine yr_aload_n (pq := 26) rfl dX3_seek_25 rfl ?_
  refine yr_iconst (pq := 27) rfl dX3_seek_26 ?_
  refine yr_putI (pq := 30) 16 rfl dX3_seek_27 kF_3_61 (by decide) rfl rfl (by decide) ?_
  refine yr_aload_n (pq := 31) rfl dX3_seek_30 rfl ?_
  refine yr_aload_n (pq := 32) rfl dX3_seek_31 rfl ?_
  refine yr_getI (pq := 35) 5 rfl dX3_seek_32 kF_3_28 (by decide) rfl (by decide) ?_
  refine yr_iload_n (pq := 36) rfl dX3_seek_35 rfl ?_
  refine yr_iconst (pq := 37) rfl dX3_seek_36 ?_
  refine yr_aload_n (pq := 38) rfl dX3_seek_37 rfl ?_
  refine yr_getI (pq := 41) 8 rfl dX3_seek_38 kF_3_37 (by decide) rfl (by decide) ?_
  refine yr_iconst (pq := 42) rfl dX3_seek_41 ?_
  refine yr_aload_n (pq := 43) rfl dX3_seek_42 rfl ?_
  refine yr_getI (pq := 46) 5 rfl dX3_seek_43 kF_3_28 (by decide) rfl (by decide) ?_
  refine yr_ishl (pq := 47) rfl dX3_seek_46 ?_
  refine yr_iconst (pq := 48) rfl dX3_seek_47 ?_
  simp (disch := decide) only [up_k]
  rw [f5, f8, el]
  refine yr_vV6 (pq := 51) rfl dX3_seek_48 kM_3_116 (by decide) (by decide) cat0 (c_walk (N0 := N) (b := b) (w := w) (o := N 49) (due := due) hP hg (by omega) (by omega) 8 d _ N (2 ^ c) 0 0 _ _ _ p (0, -1, 0, 999, p) _ rfl hb rfl (SK_row hK (fun a q1 q2 => ?_) (fun _ _ => rfl)) hO hS (ND_0 hP) (by decide) (by decide) (by omega) (by omega) hpc.1 (by omega) (by decide) (by decide) ?_ ?_ ?_ (fun j j0 j1 => by omega) (fun f x1 x2 => ?_))
  · rw [up_ne (by omega), up_ne (by omega), up_ne (by omega), up_ne (by omega), up_ne (by omega), up_ne (by omega)]
  · refine ⟨?_, ?_, ?_, ?_, ?_, ?_⟩
    · simp (disch := decide) only [up_k]; exact f4
    · simp (disch := decide) only [up_k]; exact f5
    · simp (disch := decide) only [up_k]; exact f6
    · simp (disch := decide) only [up_k]; exact f7
    · simp (disch := decide) only [up_k, up_s]
    · simp (disch := decide) only [up_k, up_s]
  · refine ⟨?_, ?_, ?_, ?_, fun _ => ⟨fun q => absurd rfl q, fun _ => rfl⟩, fun j j0 j1 => ?_, ?_, Int.le_refl 0⟩
    · simp (disch := decide) only [up_k, up_s]
    · simp (disch := decide) only [up_k, up_s]
    · rw [up_s]
    · simp (disch := decide) only [up_k, up_s]
      decide
    · have j2 : j < 0 := j1
      omega
    · show (-1 ≤ (-1 : Int) ∧ (-1 : Int) ≤ 99999) ∧ ((0 : Int) ≤ 0 ∧ (0 : Int) ≤ 7) ∧ ((0 : Int) ≤ 999 ∧ (999 : Int) ≤ 999)
      decide
  · have := cnF_8
    show 0 + cnF 8 ≤ 1000000000
    omega
  · refine yr_vret dX3_seek_51 rfl (kk f (fun a q1 q2 q3 => ?_) (fun j q => ?_) x2)
    · rw [x1.1 a q1 q2 q3, up_ne q1, up_ne q1, up_ne q1, up_ne q1, up_ne q1, up_ne q1]
    · rw [x1.2.1 j (by omega) (by omega) (by omega) (by omega), up_k (by omega), up_k (by omega), up_k (by omega), up_k (by omega), up_k (by omega), up_k (by omega)]
theorem c_prepare {T salt : Int} (hT : tw T) (hR : RT h T N) (hO : okT N) (hsalt : N 44 = salt) (hl : 0 ≤ salt ∧ salt ≤ 1) (hG : h 23 0 = N 45 ∧ h 23 1 = N 46 ∧ h 23 2 = N 47 ∧ h 23 3 = N 48) (h2 : -2147483648 ≤ N 47 ∧ N 47 ≤ 2147483647) (hc : h 22 2 = N 49) (hs : h 22 4 = N 51) (hw : -1 ≤ w ∧ w ≤ 14)
    (kk : ∀ h', (∀ a, a < 69 ∨ 73 < a → h' a = h a) → SK h' N w → h' 69 4 = dueF N 0 0 (N 8).toNat → h' 69 5 = N 49 → h' 69 6 = totF N → h' 69 7 = flF N → h' 69 8 = N 51 → KV h') : ClV (d + 5) mX3_prepare [vr 69, vr T, vr 22, vi salt, vi w] h KV := by
  have hT2 : T = 2 ∨ T = 26 ∨ T = 49 ∨ T = 78 := hT
  have hO8 := hO.1
  have key : ∀ (n : Nat) (i : Int) (f : Int → Int → Int), i + 1 = n → i < N 8 → (∀ a, a ≠ 70 → a ≠ 71 → a ≠ 72 → f a = h a) → (∀ a b, 0 ≤ a → a ≤ 7 → 0 ≤ b → b ≤ 7 → f 70 (8 * a + b) = fsM (endsP N w a b) (i + 1) (N 8 - (i + 1)).toNat) → (∀ s, i < s → s < N 8 → f 71 s = takesF N s) → (∀ s j, i < s → s < N 8 → 0 ≤ j → j < 12 → f 72 (12 * s + j) = lossF N salt s j) → ∀ x, Yr (d + 4) mX3_prepare 16 [vr 69, vr T, vr 22, vi salt, vi w, vi i, x] [] f (rV KV) := by
    intro n
    induction n with
    | zero =>
      intro i f hi hn f0 f1 f2 f3 x
      obtain rfl : i = -1 := by omega
      have rt : ∀ g2 : Int → Int → Int, (∀ a, (a < 69 ∨ 73 < a) → g2 a = f a) → RT g2 T N := fun g2 e => RT_cong hR hO (fun j j0 j1 j2 => by rw [e _ (by omega)]; exact f0 _ (by omega) (by omega) (by omega))
      have hG2 : ∀ g2 : Int → Int → Int, (∀ a, (a < 69 ∨ 73 < a) → g2 a = f a) → g2 23 0 = N 45 ∧ g2 23 1 = N 46 ∧ g2 23 2 = N 47 ∧ g2 23 3 = N 48 := fun g2 e => by
        rw [e 23 (by decide), f0 23 (by decide) (by decide) (by decide)]; exact hG
      refine yr_iload (pq := 18) rfl dX3_prepare_16 rfl ?_
      refine yr_if_lt (pq := 21) (t := 113) rfl dX3_prepare_18 rfl (by omega) (fun _ => ?_) (fun q9 => absurd (by omega) q9)
      refine yr_aload_n (pq := 114) rfl dX3_prepare_113 rfl ?_
      refine yr_getR (pq := 117) 2 rfl dX3_prepare_114 kF_3_94 (tw_c hT) (fr_6_2 hT) ?_
      refine yr_iconst (pq := 118) rfl dX3_prepare_117 ?_
      refine yr_aload_n (pq := 119) rfl dX3_prepare_118 rfl ?_
      refine yr_getR (pq := 122) (b := 73) 3 rfl dX3_prepare_119 kF_3_21 (by decide) rfl ?_
      refine yr_iconst (pq := 123) rfl dX3_prepare_122 ?_
      refine yr_bipush (pq := 125) rfl dX3_prepare_123 rfl ?_
      refine yr_cpy (pq := 128) rfl dX3_prepare_125 kO_3_95 kX_3_95 (tw_k2 hT) rfl ⟨(tw_n hT 2 (by decide)), (by decide)⟩ (by omega) (by omega) (by omega) cat0 ?_
      refine yr_aload_n (pq := 129) rfl dX3_prepare_128 rfl ?_
      refine yr_aload_n (pq := 130) rfl dX3_prepare_129 rfl ?_
      have cf : ∀ a, (a < 69 ∨ 73 < a) → cp f (T + 2) 0 73 0 8 a = f a := fun a ha => cp_o (by omega)
      refine yr_vI0 (pq := 133) rfl dX3_prepare_130 kM_3_101 (by decide) (tw_c hT) (Nat.le_of_ble_eq_true rfl) (c_quartersOnStreets hT (rt _ cf) hO ?_)
      refine yr_putI (pq := 136) 4 rfl dX3_prepare_133 kF_3_24 (by decide) rfl rfl (by decide) ?_
      refine yr_aload_n (pq := 137) rfl dX3_prepare_136 rfl ?_
      refine yr_aload_n (pq := 138) rfl dX3_prepare_137 rfl ?_
      refine yr_getI (pq := 141) 2 rfl dX3_prepare_138 kF_3_104 (by decide) rfl (by decide) ?_
      refine yr_putI (pq := 144) 5 rfl dX3_prepare_141 kF_3_28 (by decide) rfl rfl (by decide) ?_
      refine yr_aload_n (pq := 145) rfl dX3_prepare_144 rfl ?_
      refine yr_aload_n (pq := 146) rfl dX3_prepare_145 rfl ?_
      have e2 : f 22 = h 22 := f0 22 (by decide) (by decide) (by decide)
      simp (disch := decide) only [up_o, cp_o]
      rw [e2, hc]
      refine yr_vI0 (pq := 149) rfl dX3_prepare_146 kM_3_109 (by decide) (by decide) (Nat.le_of_ble_eq_true rfl) (c_total (N := N) (hG2 _ (fun a ha => by rw [up_ne (by omega), up_ne (by omega)]; exact cf a ha)) ?_)
      refine yr_putI (pq := 152) 6 rfl dX3_prepare_149 kF_3_31 (by decide) rfl rfl (by decide) ?_
      refine yr_aload_n (pq := 153) rfl dX3_prepare_152 rfl ?_
      refine yr_aload_n (pq := 154) rfl dX3_prepare_153 rfl ?_
      refine yr_vI0 (pq := 157) rfl dX3_prepare_154 kM_3_111 (by decide) (by decide) (Nat.le_of_ble_eq_true rfl) (c_faceLasts (N := N) (hG2 _ (fun a ha => by rw [up_ne (by omega), up_ne (by omega), up_ne (by omega)]; exact cf a ha)) h2 ?_)
      refine yr_putI (pq := 160) 7 rfl dX3_prepare_157 kF_3_34 (by decide) rfl rfl (by decide) ?_
      refine yr_aload_n (pq := 161) rfl dX3_prepare_160 rfl ?_
      refine yr_aload_n (pq := 162) rfl dX3_prepare_161 rfl ?_
      refine yr_getI (pq := 165) 4 rfl dX3_prepare_162 kF_3_113 (by decide) rfl (by decide) ?_
      refine yr_putI (pq := 168) 8 rfl dX3_prepare_165 kF_3_37 (by decide) rfl rfl (by decide) ?_
      simp (disch := decide) only [up_o, cp_o]
      rw [e2, hs]
      refine yr_vret dX3_prepare_168 rfl (kk _ (fun a ha => ?_) ⟨fun a b a0 a1 b0 b1 => ?_, fun s s0 s1 => ?_, fun s j s0 s1 j0 j1 => ?_, fun c c0 c1 => ?_⟩ ?_ ?_ ?_ ?_ ?_)
      · rw [up_ne (by omega), up_ne (by omega), up_ne (by omega), up_ne (by omega), up_ne (by omega), cf a ha]; exact f0 a (by omega) (by omega) (by omega)
      · rw [up_ne (by decide), up_ne (by decide), up_ne (by decide), up_ne (by decide), up_ne (by decide), cp_o (by decide), f1 a b a0 a1 b0 b1]
        unfold byF
        rw [show (-1 : Int) + 1 = 0 by omega, show N 8 - 0 = N 8 by omega]
      · rw [up_ne (by decide), up_ne (by decide), up_ne (by decide), up_ne (by decide), up_ne (by decide), cp_o (by decide)]; exact f2 s (by omega) s1
      · rw [up_ne (by decide), up_ne (by decide), up_ne (by decide), up_ne (by decide), up_ne (by decide), cp_o (by decide), hsalt]; exact f3 s j (by omega) s1 j0 j1
      · rw [up_ne (by decide), up_ne (by decide), up_ne (by decide), up_ne (by decide), up_ne (by decide), cp_i (by omega) (by omega), show (0 : Int) + (c - 0) = c by omega, f0 _ (by omega) (by omega) (by omega)]; exact hR.2.1 c c0 c1
      · simp (disch := decide) only [up_k, up_s]
      · simp (disch := decide) only [up_k, up_s]
      · simp (disch := decide) only [up_k, up_s]
      · simp (disch := decide) only [up_k, up_s]
        rfl
      · simp (disch := decide) only [up_k, up_s]
    | succ n ih =>
      intro i f hi hn f0 f1 f2 f3 x
      have i0 : 0 ≤ i := by omega
      have es : f (T + 6 + i) = h (T + 6 + i) := f0 _ (by omega) (by omega) (by omega)
      obtain ⟨o0, o3, o4, o5⟩ := rt_okst hR hO i0 hn
      obtain ⟨n1, n2, n3⟩ := rt_ends hR hO i0 hn
      obtain ⟨-, m1, m2, -⟩ := hR.2.2.2.2 i i0 hn
      refine yr_iload (pq := 18) rfl dX3_prepare_16 rfl ?_
      refine yr_if_lt (pq := 21) (t := 113) rfl dX3_prepare_18 rfl (by omega) (fun q9 => absurd q9 (by omega)) (fun _ => ?_)
      refine yr_aload_n (pq := 22) rfl dX3_prepare_21 rfl ?_
      refine yr_getR (pq := 25) 0 rfl dX3_prepare_22 kF_3_75 (tw_c hT) (fr_6_0 hT) ?_
      refine yr_iload (pq := 27) rfl dX3_prepare_25 rfl ?_
      refine yr_aald (pq := 28) rfl dX3_prepare_27 (tw_k1 hT) (by decide) (by omega) (st_q hT (by omega) (by omega)) ?_
      refine yr_astore6 (pq := 30) rfl dX3_prepare_28 ?_
      refine yr_aload_n (pq := 31) rfl dX3_prepare_30 rfl ?_
      refine yr_getR (pq := 34) (b := 71) 1 rfl dX3_prepare_31 kF_3_15 (by decide) rfl ?_
      refine yr_iload (pq := 36) rfl dX3_prepare_34 rfl ?_
      refine yr_aload (pq := 38) rfl dX3_prepare_36 rfl ?_
      refine yr_vI0 (pq := 41) rfl dX3_prepare_38 kM_3_79 (by decide) (st_c hT (by omega) (by omega)) (Nat.le_of_ble_eq_true rfl) (c_takes (st_c hT i0 (by omega)) (by rw [es]; exact o0) (by rw [es]; exact o3) ?_)
      rw [es, o5]
      refine yr_iast (pq := 42) rfl dX3_prepare_41 rfl (by decide) (by omega) ?_
      refine yr_aload_n (pq := 43) rfl dX3_prepare_42 rfl ?_
      refine yr_iload (pq := 45) rfl dX3_prepare_43 rfl ?_
      refine yr_iload_n (pq := 46) rfl dX3_prepare_45 rfl ?_
      refine yr_aload_n (pq := 47) rfl dX3_prepare_46 rfl ?_
      refine yr_getR (pq := 50) (b := 72) 2 rfl dX3_prepare_47 kF_3_18 (by decide) rfl ?_
      refine yr_bipush (pq := 52) rfl dX3_prepare_50 rfl ?_
      refine yr_iload (pq := 54) rfl dX3_prepare_52 rfl ?_
      refine yr_imul (pq := 55) rfl dX3_prepare_54 ?_
      refine yr_vV4 (pq := 58) rfl dX3_prepare_55 kM_3_84 (by decide) (tw_c hT) cat0 (c_tellLosses (T := T) (N := N) (L := 168) hT (RT_cong hR hO (fun j j0 j1 j2 => by rw [up_ne (by omega)]; exact f0 _ (by omega) (by omega) (by omega))) hO ⟨i0, hn⟩ hl rfl (by decide) (by decide) (by omega) (by omega) (by omega) (fun g1 x1 x2 x3 => ?_))
      have q0 : ∀ a, a ≠ 70 → a ≠ 71 → a ≠ 72 → g1 a = h a := fun a b1 b2 b3 => by rw [x1 a b3, up_ne b2]; exact f0 a b1 b2 b3
      have q70 : g1 70 = f 70 := by rw [x1 70 (by decide), up_ne (by decide)]
      have q71 : ∀ s, i - 1 < s → s < N 8 → g1 71 s = takesF N s := by
        intro s s0 s1
        rw [x1 71 (by decide)]
        by_cases e : s = i
        · subst e; rw [up_s]
        · rw [up_k e]; exact f2 s (by omega) s1
      have q72 : ∀ s j, i - 1 < s → s < N 8 → 0 ≤ j → j < 12 → g1 72 (12 * s + j) = lossF N salt s j := by
        intro s j s0 s1 j0 j1
        by_cases e : s = i
        · subst e; exact x2 j j0 j1
        · rw [x3 _ (by omega), up_ne (by decide)]; exact f3 s j (by omega) s1 j0 j1
      have eN : (N 8 - (i - 1 + 1)).toNat = (N 8 - (i + 1)).toNat + 1 := by omega
      have es2 : g1 (T + 6 + i) = h (T + 6 + i) := q0 _ (by omega) (by omega) (by omega)
      refine yr_iload (pq := 60) rfl dX3_prepare_58 rfl ?_
      refine yr_iload (pq := 62) rfl dX3_prepare_60 rfl ?_
      refine yr_ic_eq (pq := 65) (t := 107) rfl dX3_prepare_62 rfl (by omega) (by omega) (fun q => ?_) (fun q => ?_)
      · refine yr_iinc5 (pq := 110) rfl dX3_prepare_107 ?_
        refine yr_goto (t := 16) dX3_prepare_110 rfl ?_
        refine ih _ g1 (by omega) (by omega) q0 (fun a b a0 a1 b0 b1 => ?_) q71 q72 _
        rw [eN, fsM, show i - 1 + 1 = i by omega, if_neg (by unfold endsP; simp [q]), q70]
        exact f1 a b a0 a1 b0 b1
      · refine yr_aload_n (pq := 66) rfl dX3_prepare_65 rfl ?_
        refine yr_getR (pq := 69) (b := 70) 0 rfl dX3_prepare_66 kF_3_9 (by decide) rfl ?_
        refine yr_bipush (pq := 71) rfl dX3_prepare_69 rfl ?_
        refine yr_aload (pq := 73) rfl dX3_prepare_71 rfl ?_
        refine yr_getI (pq := 76) 1 rfl dX3_prepare_73 kF_3_88 (by decide) rfl (st_c hT (by omega) (by omega)) ?_
        refine yr_imul (pq := 77) rfl dX3_prepare_76 ?_
        refine yr_aload (pq := 79) rfl dX3_prepare_77 rfl ?_
        refine yr_getI (pq := 82) 2 rfl dX3_prepare_79 kF_3_91 (by decide) rfl (st_c hT (by omega) (by omega)) ?_
        refine yr_iadd (pq := 83) rfl dX3_prepare_82 ?_
        refine yr_iload (pq := 85) rfl dX3_prepare_83 rfl ?_
        rw [es2]
        refine yr_iast (pq := 86) rfl dX3_prepare_85 rfl (by decide) (by omega) ?_
        refine yr_aload_n (pq := 87) rfl dX3_prepare_86 rfl ?_
        refine yr_getR (pq := 90) (b := 70) 0 rfl dX3_prepare_87 kF_3_9 (by decide) rfl ?_
        refine yr_bipush (pq := 92) rfl dX3_prepare_90 rfl ?_
        refine yr_aload (pq := 94) rfl dX3_prepare_92 rfl ?_
        refine yr_getI (pq := 97) 2 rfl dX3_prepare_94 kF_3_91 (by decide) rfl (st_c hT (by omega) (by omega)) ?_
        refine yr_imul (pq := 98) rfl dX3_prepare_97 ?_
        refine yr_aload (pq := 100) rfl dX3_prepare_98 rfl ?_
        refine yr_getI (pq := 103) 1 rfl dX3_prepare_100 kF_3_88 (by decide) rfl (st_c hT (by omega) (by omega)) ?_
        refine yr_iadd (pq := 104) rfl dX3_prepare_103 ?_
        refine yr_iload (pq := 106) rfl dX3_prepare_104 rfl ?_
        simp (disch := omega) only [up_o]
        rw [es2]
        refine yr_iast (pq := 107) rfl dX3_prepare_106 rfl (by decide) (by omega) ?_
        refine yr_iinc5 (pq := 110) rfl dX3_prepare_107 ?_
        refine yr_goto (t := 16) dX3_prepare_110 rfl ?_
        refine ih _ _ (by omega) (by omega) (fun a b1 b2 b3 => by rw [up_ne b1, up_ne b1]; exact q0 a b1 b2 b3) (fun a b a0 a1 b0 b1 => ?_) (fun s s0 s1 => by rw [up_ne (by decide), up_ne (by decide)]; exact q71 s s0 s1) (fun s j s0 s1 j0 j1 => by rw [up_ne (by decide), up_ne (by decide)]; exact q72 s j s0 s1 j0 j1) _
        rw [show i + -1 = i - 1 by omega, eN, fsM, show i - 1 + 1 = i by omega]
        have hi2 : endsP N w a b i = true ↔ (a = h (T + 6 + i) 1 ∧ b = h (T + 6 + i) 2) ∨ (a = h (T + 6 + i) 2 ∧ b = h (T + 6 + i) 1) := by
          unfold endsP
          rw [decide_eq_true_iff, ← m1, ← m2]
          omega
        by_cases e : endsP N w a b i = true
        · rw [if_pos e]
          rcases hi2.mp e with ⟨e1, e2⟩ | ⟨e1, e2⟩
          · rw [up_k (by omega), e1, e2, up_s]
          · rw [e1, e2, up_s]
        · rw [if_neg e]
          have e3 : ¬ ((a = h (T + 6 + i) 1 ∧ b = h (T + 6 + i) 2) ∨ (a = h (T + 6 + i) 2 ∧ b = h (T + 6 + i) 1)) := fun y => e (hi2.mpr y)
          rw [up_k (by omega), up_k (by omega), q70]
          exact f1 a b a0 a1 b0 b1
  refine cl_in (al := [vr 69, vr T, vr 22, vi salt, vi w, .null, .null]) rfl (Nat.le_of_ble_eq_true rfl) (by simp [vi_cat, vr_cat, vs_cat]) ?_
  refine yr_aload_n (pq := 1) rfl dX3_prepare_0 rfl ?_
  refine yr_getR (pq := 4) (b := 70) 0 rfl dX3_prepare_1 kF_3_9 (by decide) rfl ?_
  refine yr_iconst (pq := 5) rfl dX3_prepare_4 ?_
  refine yr_sV2 (pq := 8) rfl dX3_prepare_5 kM_3_64 (by decide) cat0 (j_fill (a := 70) (L := 64) rfl (by decide) (by decide) (fun f f0 f1 => ?_))
  refine yr_aload_n (pq := 9) rfl dX3_prepare_8 rfl ?_
  refine yr_getI (pq := 12) 1 rfl dX3_prepare_9 kF_3_70 (by decide) rfl (tw_c hT) ?_
  refine yr_iconst (pq := 13) rfl dX3_prepare_12 ?_
  refine yr_isub (pq := 14) rfl dX3_prepare_13 ?_
  refine yr_istore5 (pq := 16) rfl dX3_prepare_14 ?_
  have e1 : f T 1 = N 8 := by rw [f0 T (by omega)]; exact hR.1
  rw [e1]
  refine key (N 8).toNat _ f (by omega) (by omega) (fun a b1 b2 b3 => f0 a b1) (fun a b a0 a1 b0 b1 => ?_) (fun s s0 s1 => by omega) (fun s j s0 s1 => by omega) _
  rw [f1 _ (by omega) (by omega), show (N 8 - (N 8 - 1 + 1)).toNat = 0 by omega]
  rfl
end CP
