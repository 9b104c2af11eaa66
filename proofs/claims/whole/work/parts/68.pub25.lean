/-! stray -/
theorem pick_ok0 : ∀ m : Fin 256, ∀ x : Fin 8, x.val < pcF m.val → 0 ≤ pickF m.val 0 (x.val : Int) 8 ∧ pickF m.val 0 (x.val : Int) 8 ≤ 7 ∧ m.val.testBit (pickF m.val 0 (x.val : Int) 8).toNat = true := by decide +kernel
theorem pick_ok {m : Nat} {x : Int} (hm : m < 256) (x0 : 0 ≤ x) (x1 : x < ((pcF m : Nat) : Int)) : 0 ≤ pickF m 0 x 8 ∧ pickF m 0 x 8 ≤ 7 ∧ m.testBit (pickF m 0 x 8).toNat = true := by
  obtain ⟨n, rfl⟩ := Int.eq_ofNat_of_zero_le x0
  have := pcF_b m
  exact pick_ok0 ⟨m, hm⟩ ⟨n, by omega⟩ (by simp only; omega)
/-- her row behind a draw; where the draw sends her; by which street -/
def stZ (N : Int → Int) : Int → Int := ur N 9 (zF (N 9))
def stM (N : Int → Int) : Nat := mkS (nbP N (-1) (N 49)) 8
def stC (N : Int → Int) : Int := pickF (stM N) 0 (drwF (N 9) % ((pcF (stM N) : Nat) : Int)) 8
def stS (N : Int → Int) : Int := byF (stZ N) (-1) (stZ N 49) (stC N)
def strI (N : Int → Int) : Nat → Int → Int
  | 0 => N
  | n + 1 => if stM N = 0 then N else if 999 < stZ N 50 + takesF (stZ N) (stS N) then stZ N else strI (carN (stZ N) (stS N) (stC N)) n
theorem stM_lt (N : Int → Int) : stM N < 256 := mkS_lt _ 8
theorem st_ok {N : Int → Int} (q : stM N ≠ 0) : (0 ≤ stC N ∧ stC N ≤ 7) ∧ 0 ≤ stS N ∧ stS N < stZ N 8 := by
  have hm := stM_lt N
  have hp := pcF_b (stM N)
  have hp0 := pcF_0 ⟨stM N, hm⟩
  simp only at hp0
  have hpos : 0 < ((pcF (stM N) : Nat) : Int) := by
    have : pcF (stM N) ≠ 0 := fun e => q (hp0.mp e)
    omega
  obtain ⟨p1, p2, p3⟩ := pick_ok hm (Int.emod_nonneg (drwF (N 9)) (by omega)) (Int.emod_lt_of_pos (drwF (N 9)) hpos)
  have e : (stM N).testBit (stC N).toNat = true := p3
  unfold stM at e
  rw [mkS_bit] at e
  have e2 : nbP N (-1) (N 49) (stC N).toNat = true := by
    rw [Bool.and_eq_true] at e
    exact e.2
  unfold nbP at e2
  rw [decide_eq_true_eq] at e2
  have c0 : 0 ≤ stC N := p1
  rw [Int.toNat_of_nonneg c0] at e2
  have e3 : stS N = byF N (-1) (N 49) (stC N) := by
    unfold stS stZ
    rw [ur_o (show (49 : Int) ≠ 9 by decide)]
    exact byF_row (ur_o (by decide)) (fun j hj => ur_o (by omega))
  have hb := byF_b (N := N) (w := -1) (a := N 49) (b := stC N)
  have e8 : stZ N 8 = N 8 := ur_o (by decide)
  rw [e3, e8]
  exact ⟨⟨p1, p2⟩, e2, by omega⟩
theorem stZ_ok {N : Int → Int} (hO : okT N) (hS : okS N) : okT (stZ N) ∧ okS (stZ N) := ⟨okT_mid hO (by omega), okS_9 hS (by omega)⟩
theorem strI_ok : ∀ (n : Nat) {N : Int → Int}, okT N → okS N → N 50 ≤ 999 → okT (strI N n) ∧ okS (strI N n) ∧ strI N n 50 ≤ 999 := by
  intro n
  induction n with
  | zero => intro N h1 h2 h3; exact ⟨h1, h2, h3⟩
  | succ n ih =>
    intro N h1 h2 h3
    obtain ⟨o1, o2⟩ := stZ_ok h1 h2
    have e50 : stZ N 50 = N 50 := ur_o (by decide)
    rw [strI]
    split
    · exact ⟨h1, h2, h3⟩
    · rename_i q
      split
      · exact ⟨o1, o2, by rw [e50]; exact h3⟩
      · rename_i q2
        obtain ⟨hc, s0, s1⟩ := st_ok q
        exact ih (carN_T o1) (carN_okS o1 o2 s0 s1 hc (by omega)) (show stZ N 50 + takesF (stZ N) (stS N) ≤ 999 by omega)
section S25
variable {d : Nat} {h : hT} {K : Int → hT → Prop}
theorem r_stray {n : Int} {N : Int → Int} (hB : RB h N) (hO : okT N) (hS : okS N) (hl : N 50 ≤ 999) (hn : -2147483648 ≤ n ∧ n ≤ 2147483647) (k0 : ¬ (1 ≤ n ∧ n ≤ 12) → ∀ e, FD (-1000001) h e → K (-1000001) e) (k1 : (1 ≤ n ∧ n ≤ 12) → ∀ e, (∀ a, a ≠ 109 → e a = h a) → e 109 = strI N n.toNat → K (totF (strI N n.toNat)) e) : ClI (d + 7) mX8_stray [vr 108, vi n] h K := by
  obtain ⟨e9, h5⟩ := hB
  subst e9
  refine cl_in (al := [vr 108, vi n, .null, .null, .null, .null, .null, .null]) rfl (Nat.le_of_ble_eq_true rfl) (by simp [vi_cat, vr_cat, vs_cat]) ?_
  refine yr_iload_n (pq := 1) rfl dX8_stray_0 rfl ?_
  refine yr_iconst (pq := 2) rfl dX8_stray_1 ?_
  refine yr_bipush (pq := 4) rfl dX8_stray_2 rfl ?_
  refine yr_sI3 (pq := 7) rfl dX8_stray_4 kM_8_78 (by decide) cat0 (m_within hn (by decide) (by decide) (fun q1 => ?_) (fun q1 => ?_))
  · have fin : ∀ (g : hT), (∀ a, a ≠ 109 → g a = h a) → g 109 = strI (h 109) n.toNat → ∀ al, al.length = 8 → al.head? = some (vr 108) → Yr (d + 6) mX8_stray 185 al [] g (rI K) := by
      intro g g0 g1 al ha hb
      obtain ⟨al', rfl⟩ : ∃ l, al = vr 108 :: l := by
        cases al with
        | nil => cases hb
        | cons x l => exact ⟨l, by rw [Option.some.inj hb]⟩
      refine yr_aload_n (pq := 186) rfl dX8_stray_185 rfl ?_
      refine yr_vI0 (pq := 189) rfl dX8_stray_186 kM_8_145 (by decide) (by decide) cat0 (m_allGrains ?_)
      rw [g1]
      exact yr_iret dX8_stray_189 rfl (k1 q1 g g0 g1)
    have stop : ∀ (i : Int) (g : hT), 0 ≤ i → i ≤ 13 → (∀ a, a ≠ 109 → g a = h a) → g 109 = strI (h 109) n.toNat → ∀ x4 x5 x6 x7, Yr (d + 6) mX8_stray 21 [vr 108, vi n, vi 0, vi i, x4, x5, x6, x7] [] g (rI K) := by
      intro i g i0 i1 g0 g1 x4 x5 x6 x7
      refine yr_iload_n (pq := 22) rfl dX8_stray_21 rfl ?_
      refine yr_iload_n (pq := 23) rfl dX8_stray_22 rfl ?_
      refine yr_ic_ge (pq := 26) (t := 185) rfl dX8_stray_23 rfl (by omega) (by omega) (fun q => ?_) (fun q => ?_)
      · exact fin g g0 g1 _ rfl rfl
      · refine yr_iload_n (pq := 27) rfl dX8_stray_26 rfl ?_
        refine yr_if_eq (pq := 30) (t := 185) rfl dX8_stray_27 rfl (by decide) (fun _ => ?_) (fun q9 => absurd (by decide) q9)
        exact fin g g0 g1 _ rfl rfl
    have key : ∀ (c : Nat) (i : Int) (g : hT) (P : Int → Int), 0 ≤ i → i + c = n → (∀ a, a ≠ 109 → g a = h a) → g 109 = P → okT P → okS P → P 50 ≤ 999 → strI P c = strI (h 109) n.toNat → ∀ x4 x5 x6 x7, Yr (d + 6) mX8_stray 21 [vr 108, vi n, vi 1, vi i, x4, x5, x6, x7] [] g (rI K) := by
      intro c
      induction c with
      | zero =>
        intro i g P hi hc g0 g1 gO gS gl g2 x4 x5 x6 x7
        have g2' : P = strI (h 109) n.toNat := g2
        refine yr_iload_n (pq := 22) rfl dX8_stray_21 rfl ?_
        refine yr_iload_n (pq := 23) rfl dX8_stray_22 rfl ?_
        refine yr_ic_ge (pq := 26) (t := 185) rfl dX8_stray_23 rfl (by omega) (by omega) (fun _ => ?_) (fun q9 => absurd (by omega) q9)
        exact fin g g0 (by rw [g1, g2']) _ rfl rfl
      | succ c ih =>
        intro i g P hi hc g0 g1 gO gS gl g2 x4 x5 x6 x7
        subst g1
        have a2 := gS.2.1
        have hm := stM_lt (g 109)
        have hp := pcF_b (stM (g 109))
        have hp0 := pcF_0 ⟨stM (g 109), hm⟩
        simp only at hp0
        have d1 := drw_b (g 109 9)
        have w5 : g 108 5 = -1 := by rw [g0 108 (by decide)]; exact h5
        rw [strI] at g2
        refine yr_iload_n (pq := 22) rfl dX8_stray_21 rfl ?_
        refine yr_iload_n (pq := 23) rfl dX8_stray_22 rfl ?_
        refine yr_ic_ge (pq := 26) (t := 185) rfl dX8_stray_23 rfl (by omega) (by omega) (fun q9 => absurd q9 (by omega)) (fun _ => ?_)
        refine yr_iload_n (pq := 27) rfl dX8_stray_26 rfl ?_
        refine yr_if_eq (pq := 30) (t := 185) rfl dX8_stray_27 rfl (by decide) (fun q9 => absurd q9 (by decide)) (fun _ => ?_)
        refine yr_aload_n (pq := 31) rfl dX8_stray_30 rfl ?_
        refine yr_aload_n (pq := 32) rfl dX8_stray_31 rfl ?_
        refine yr_getR (pq := 35) (b := 109) 0 rfl dX8_stray_32 kF_8_9 (by decide) rfl ?_
        refine yr_bipush (pq := 37) rfl dX8_stray_35 rfl ?_
        refine yr_iald (pq := 38) rfl dX8_stray_37 rfl (by decide) (by omega) ?_
        refine yr_vI1 (pq := 41) rfl dX8_stray_38 kM_8_141 (by decide) (by decide) cat0 (m_nextTo (w := -1) gO w5 (by decide) a2 ?_)
        have en : nbF (g 109) (-1) (g 109 49) = ((stM (g 109) : Nat) : Int) := rfl
        rw [en]
        refine yr_istore4 (pq := 43) rfl dX8_stray_41 ?_
        refine yr_iload (pq := 45) rfl dX8_stray_43 rfl ?_
        refine yr_if_eq (pq := 48) (t := 52) rfl dX8_stray_45 rfl (by omega) (fun q2 => ?_) (fun q2 => ?_)
        · have q2' : stM (g 109) = 0 := by omega
          rw [if_pos q2'] at g2
          refine yr_iconst (pq := 53) rfl dX8_stray_52 ?_
          refine yr_istore2 (pq := 54) rfl dX8_stray_53 ?_
          refine yr_iload_n (pq := 55) rfl dX8_stray_54 rfl ?_
          refine yr_if_eq (pq := 58) (t := 70) rfl dX8_stray_55 rfl (by decide) (fun _ => ?_) (fun q9 => absurd (by decide) q9)
          refine yr_iconst (pq := 71) rfl dX8_stray_70 ?_
          refine yr_istore5 (pq := 73) rfl dX8_stray_71 ?_
          refine yr_iconst (pq := 74) rfl dX8_stray_73 ?_
          refine yr_istore6 (pq := 76) rfl dX8_stray_74 ?_
          refine yr_iload_n (pq := 77) rfl dX8_stray_76 rfl ?_
          refine yr_if_eq (pq := 80) (t := 121) rfl dX8_stray_77 rfl (by decide) (fun _ => ?_) (fun q9 => absurd (by decide) q9)
          refine yr_iload_n (pq := 122) rfl dX8_stray_121 rfl ?_
          refine yr_if_eq (pq := 125) (t := 141) rfl dX8_stray_122 rfl (by decide) (fun _ => ?_) (fun q9 => absurd (by decide) q9)
          refine yr_iconst (pq := 142) rfl dX8_stray_141 ?_
          refine yr_istore7 (pq := 144) rfl dX8_stray_142 ?_
          refine yr_iload_n (pq := 145) rfl dX8_stray_144 rfl ?_
          refine yr_if_eq (pq := 148) (t := 165) rfl dX8_stray_145 rfl (by decide) (fun _ => ?_) (fun q9 => absurd (by decide) q9)
          refine yr_iconst (pq := 166) rfl dX8_stray_165 ?_
          refine yr_istore2 (pq := 167) rfl dX8_stray_166 ?_
          refine yr_iload_n (pq := 168) rfl dX8_stray_167 rfl ?_
          refine yr_if_eq (pq := 171) (t := 179) rfl dX8_stray_168 rfl (by decide) (fun _ => ?_) (fun q9 => absurd (by decide) q9)
          refine yr_iinc3 (pq := 182) rfl dX8_stray_179 ?_
          refine yr_goto (t := 21) dX8_stray_182 rfl ?_
          exact stop _ _ (by omega) (by omega) g0 g2 _ _ _ _
        · have q2' : stM (g 109) ≠ 0 := by omega
          rw [if_neg q2'] at g2
          obtain ⟨hcc, s0, s1⟩ := st_ok q2'
          have hpos : pcF (stM (g 109)) ≠ 0 := fun e => q2' (hp0.mp e)
          refine yr_iconst (pq := 49) rfl dX8_stray_48 ?_
          refine yr_goto (t := 53) dX8_stray_49 rfl ?_
          refine yr_istore2 (pq := 54) rfl dX8_stray_53 ?_
          refine yr_iload_n (pq := 55) rfl dX8_stray_54 rfl ?_
          refine yr_if_eq (pq := 58) (t := 70) rfl dX8_stray_55 rfl (by decide) (fun q9 => absurd q9 (by decide)) (fun _ => ?_)
          refine yr_aload_n (pq := 59) rfl dX8_stray_58 rfl ?_
          refine yr_iload (pq := 61) rfl dX8_stray_59 rfl ?_
          refine yr_sI1 (pq := 64) rfl dX8_stray_61 kM_8_164 (by decide) (Nat.le_of_ble_eq_true rfl) (m_bits hm ?_)
          refine yr_vI1 (pq := 67) rfl dX8_stray_64 kM_8_243 (by decide) (by decide) cat0 (m_drawn (by omega) (fun f f0 f1 => ?_))
          have ef : f 109 = stZ (g 109) := f1
          obtain ⟨oZ, sZ⟩ := stZ_ok gO gS
          have hmod : 0 ≤ drwF (g 109 9) % ((pcF (stM (g 109)) : Nat) : Int) := Int.emod_nonneg _ (by omega)
          have hmod2 := Int.emod_lt_of_pos (drwF (g 109 9)) (show 0 < ((pcF (stM (g 109)) : Nat) : Int) by omega)
          have after : ∀ x5 x7, Yr (d + 6) mX8_stray 121 [vr 108, vi n, vi 1, vi i, vi ((stM (g 109) : Nat) : Int), x5, vi (stC (g 109)), x7] [] f (rI K) := by
            intro x5 x7
            have f5 : f 108 5 = -1 := by rw [f0 108 (by decide)]; exact w5
            have b2 := sZ.2.1
            have b3 := sZ.2.2.1
            have tk := takesF_b oZ s0 s1
            refine yr_iload_n (pq := 122) rfl dX8_stray_121 rfl ?_
            refine yr_if_eq (pq := 125) (t := 141) rfl dX8_stray_122 rfl (by decide) (fun q9 => absurd q9 (by decide)) (fun _ => ?_)
            refine yr_aload_n (pq := 126) rfl dX8_stray_125 rfl ?_
            refine yr_aload_n (pq := 127) rfl dX8_stray_126 rfl ?_
            refine yr_getR (pq := 130) (b := 109) 0 rfl dX8_stray_127 kF_8_9 (by decide) rfl ?_
            refine yr_bipush (pq := 132) rfl dX8_stray_130 rfl ?_
            refine yr_iald (pq := 133) rfl dX8_stray_132 rfl (by decide) (by omega) ?_
            refine yr_iload (pq := 135) rfl dX8_stray_133 rfl ?_
            refine yr_vI2 (pq := 138) rfl dX8_stray_135 kM_8_138 (by decide) (by decide) cat0 (m_streetBy (w := -1) (by rw [ef]; exact oZ) f5 (by decide) (by rw [ef]; omega) (by omega) ?_)
            rw [ef]
            have es : byF (stZ (g 109)) (-1) (stZ (g 109) 49) (stC (g 109)) = stS (g 109) := rfl
            rw [es]
            refine yr_goto (t := 142) dX8_stray_138 rfl ?_
            refine yr_istore7 (pq := 144) rfl dX8_stray_142 ?_
            refine yr_iload_n (pq := 145) rfl dX8_stray_144 rfl ?_
            refine yr_if_eq (pq := 148) (t := 165) rfl dX8_stray_145 rfl (by decide) (fun q9 => absurd q9 (by decide)) (fun _ => ?_)
            refine yr_aload_n (pq := 149) rfl dX8_stray_148 rfl ?_
            refine yr_aload_n (pq := 150) rfl dX8_stray_149 rfl ?_
            refine yr_iload (pq := 152) rfl dX8_stray_150 rfl ?_
            refine yr_vI1 (pq := 155) rfl dX8_stray_152 kM_8_126 (by decide) (by decide) (Nat.le_of_ble_eq_true rfl) (m_takes (by rw [ef]; exact oZ) s0 (by rw [ef]; exact s1) ?_)
            rw [ef]
            refine yr_vI1 (pq := 158) rfl dX8_stray_155 kM_8_156 (by decide) (by decide) cat0 (m_isTooLate (by rw [ef]; omega) (by omega) (fun q3 => ?_) (fun q3 => ?_))
            · rw [ef] at q3
              rw [if_pos q3] at g2
              refine yr_if_ne (pq := 161) (t := 165) rfl dX8_stray_158 rfl (by decide) (fun _ => ?_) (fun q9 => absurd q9 (by decide))
              refine yr_iconst (pq := 166) rfl dX8_stray_165 ?_
              refine yr_istore2 (pq := 167) rfl dX8_stray_166 ?_
              refine yr_iload_n (pq := 168) rfl dX8_stray_167 rfl ?_
              refine yr_if_eq (pq := 171) (t := 179) rfl dX8_stray_168 rfl (by decide) (fun _ => ?_) (fun q9 => absurd (by decide) q9)
              refine yr_iinc3 (pq := 182) rfl dX8_stray_179 ?_
              refine yr_goto (t := 21) dX8_stray_182 rfl ?_
              exact stop _ _ (by omega) (by omega) (fun a ha => by rw [f0 a ha, g0 a ha]) (by rw [ef, g2]) _ _ _ _
            · rw [ef] at q3
              rw [if_neg (by omega)] at g2
              refine yr_if_ne (pq := 161) (t := 165) rfl dX8_stray_158 rfl (by decide) (fun q9 => absurd (by decide) q9) (fun _ => ?_)
              refine yr_iconst (pq := 162) rfl dX8_stray_161 ?_
              refine yr_goto (t := 166) dX8_stray_162 rfl ?_
              refine yr_istore2 (pq := 167) rfl dX8_stray_166 ?_
              refine yr_iload_n (pq := 168) rfl dX8_stray_167 rfl ?_
              refine yr_if_eq (pq := 171) (t := 179) rfl dX8_stray_168 rfl (by decide) (fun q9 => absurd q9 (by decide)) (fun _ => ?_)
              refine yr_aload_n (pq := 172) rfl dX8_stray_171 rfl ?_
              refine yr_iload (pq := 174) rfl dX8_stray_172 rfl ?_
              refine yr_iload (pq := 176) rfl dX8_stray_174 rfl ?_
              refine yr_vV2 (pq := 179) rfl dX8_stray_176 kM_8_160 (by decide) (by decide) cat0 (m_carried (by rw [ef]; exact oZ) (by rw [ef]; exact sZ) s0 (by rw [ef]; exact s1) hcc (fun e e0 e1 => ?_))
              rw [ef] at e1
              refine yr_iinc3 (pq := 182) rfl dX8_stray_179 ?_
              refine yr_goto (t := 21) dX8_stray_182 rfl ?_
              exact ih _ e _ (by omega) (by omega) (fun a ha => by rw [e0 a ha, f0 a ha, g0 a ha]) e1 (carN_T oZ) (carN_okS oZ sZ s0 s1 hcc (by omega)) q3 g2 _ _ _ _
          have pick : ∀ (k : Nat) (c x : Int), 0 ≤ c → c + k = 8 → 0 ≤ x → x ≤ 100 → pickF (stM (g 109)) c x k = stC (g 109) → ∀ x7, Yr (d + 6) mX8_stray 76 [vr 108, vi n, vi 1, vi i, vi ((stM (g 109) : Nat) : Int), vi x, vi c, x7] [] f (rI K) := by
            intro k
            induction k with
            | zero =>
              intro c x hc0 hk hx hx2 kk x7
              rw [pickF] at kk
              omega
            | succ k ihk =>
              intro c x hc0 hk hx hx2 kk x7
              obtain ⟨cn, rfl⟩ := Int.eq_ofNat_of_zero_le hc0
              rw [pickF, Int.toNat_natCast] at kk
              refine yr_iload_n (pq := 77) rfl dX8_stray_76 rfl ?_
              refine yr_if_eq (pq := 80) (t := 121) rfl dX8_stray_77 rfl (by decide) (fun q9 => absurd q9 (by decide)) (fun _ => ?_)
              refine yr_iload (pq := 82) rfl dX8_stray_80 rfl ?_
              refine yr_iload (pq := 84) rfl dX8_stray_82 rfl ?_
              refine yr_sI2 (pq := 87) rfl dX8_stray_84 kM_8_185 (by decide) cat0 (m_has (by omega) (by omega) (fun q3 => ?_) (fun q3 => ?_))
              · rw [if_pos q3] at kk
                refine yr_if_eq (pq := 90) (t := 95) rfl dX8_stray_87 rfl (by decide) (fun q9 => absurd q9 (by decide)) (fun _ => ?_)
                refine yr_iload (pq := 92) rfl dX8_stray_90 rfl ?_
                refine yr_if_le (pq := 95) (t := 121) rfl dX8_stray_92 rfl (by omega) (fun q4 => ?_) (fun q4 => ?_)
                · rw [if_pos (by omega)] at kk
                  rw [kk]
                  exact after _ _
                · rw [if_neg (by omega)] at kk
                  refine yr_iload (pq := 97) rfl dX8_stray_95 rfl ?_
                  refine yr_iload (pq := 99) rfl dX8_stray_97 rfl ?_
                  refine yr_iload (pq := 101) rfl dX8_stray_99 rfl ?_
                  refine yr_sI2 (pq := 104) rfl dX8_stray_101 kM_8_185 (by decide) (Nat.le_of_ble_eq_true rfl) (m_has (by omega) (by omega) (fun _ => ?_) (fun q9 => absurd q3 q9))
                  refine yr_if_eq (pq := 107) (t := 111) rfl dX8_stray_104 rfl (by decide) (fun q9 => absurd q9 (by decide)) (fun _ => ?_)
                  refine yr_iconst (pq := 108) rfl dX8_stray_107 ?_
                  refine yr_goto (t := 112) dX8_stray_108 rfl ?_
                  refine yr_isub (pq := 113) rfl dX8_stray_112 ?_
                  refine yr_istore5 (pq := 115) rfl dX8_stray_113 ?_
                  refine yr_iinc6 (pq := 118) rfl dX8_stray_115 ?_
                  refine yr_goto (t := 76) dX8_stray_118 rfl ?_
                  exact ihk _ _ (by omega) (by omega) (by omega) (by omega) kk _
              · rw [if_neg q3] at kk
                refine yr_if_eq (pq := 90) (t := 95) rfl dX8_stray_87 rfl (by decide) (fun _ => ?_) (fun q9 => absurd (by decide) q9)
                refine yr_iload (pq := 97) rfl dX8_stray_95 rfl ?_
                refine yr_iload (pq := 99) rfl dX8_stray_97 rfl ?_
                refine yr_iload (pq := 101) rfl dX8_stray_99 rfl ?_
                refine yr_sI2 (pq := 104) rfl dX8_stray_101 kM_8_185 (by decide) (Nat.le_of_ble_eq_true rfl) (m_has (by omega) (by omega) (fun q9 => absurd q9 q3) (fun _ => ?_))
                refine yr_if_eq (pq := 107) (t := 111) rfl dX8_stray_104 rfl (by decide) (fun _ => ?_) (fun q9 => absurd (by decide) q9)
                refine yr_iconst (pq := 112) rfl dX8_stray_111 ?_
                refine yr_isub (pq := 113) rfl dX8_stray_112 ?_
                refine yr_istore5 (pq := 115) rfl dX8_stray_113 ?_
                refine yr_iinc6 (pq := 118) rfl dX8_stray_115 ?_
                refine yr_goto (t := 76) dX8_stray_118 rfl ?_
                rw [Int.sub_zero]
                exact ihk _ _ (by omega) (by omega) (by omega) (by omega) kk _
          refine yr_goto (t := 71) dX8_stray_67 rfl ?_
          refine yr_istore5 (pq := 73) rfl dX8_stray_71 ?_
          refine yr_iconst (pq := 74) rfl dX8_stray_73 ?_
          refine yr_istore6 (pq := 76) rfl dX8_stray_74 ?_
          exact pick 8 0 _ (by omega) (by omega) hmod (by omega) rfl _
    refine yr_if_ne (pq := 10) (t := 17) rfl dX8_stray_7 rfl (by decide) (fun _ => ?_) (fun q9 => absurd q9 (by decide))
    refine yr_iconst (pq := 18) rfl dX8_stray_17 ?_
    refine yr_istore2 (pq := 19) rfl dX8_stray_18 ?_
    refine yr_iconst (pq := 20) rfl dX8_stray_19 ?_
    refine yr_istore3 (pq := 21) rfl dX8_stray_20 ?_
    exact key n.toNat 0 h (h 109) (by omega) (by omega) (fun _ _ => rfl) rfl hO hS hl rfl _ _ _ _
  · refine yr_if_ne (pq := 10) (t := 17) rfl dX8_stray_7 rfl (by decide) (fun q9 => absurd (by decide) q9) (fun _ => ?_)
    refine yr_aload_n (pq := 11) rfl dX8_stray_10 rfl ?_
    refine yr_ldc (pq := 13) rfl dX8_stray_11 kN_8_73 ?_
    refine yr_vI1 (pq := 16) rfl dX8_stray_13 kM_8_101 (by decide) (by decide) cat0 (r_fnd (by decide) (fun e hf => ?_))
    exact yr_iret dX8_stray_16 rfl (k0 q1 e hf)
theorem s_stray {n : Int} (hI : Inv h) (hn : -2147483648 ≤ n ∧ n ≤ 2147483647) : Sm (d + 30) mX7_stray mX8_stray [vi n] h := by
  have hI0 := hI
  obtain ⟨⟨i1, i2, i3, i3'⟩, -, -, -, -, -, i11⟩ := hI0
  show ClI (d + 30) mX7_stray [vr 0, vi n] h (SKn (d + 30) mX8_stray [vr 108, vi n])
  refine cl_in (al := [vr 0, vi n, .null, .null, .null]) rfl (Nat.le_of_ble_eq_true rfl) (by simp [vi_cat, vr_cat, vs_cat]) ?_
  refine yr_iload_n (pq := 1) rfl dX7_stray_0 rfl ?_
  refine yr_iconst (pq := 2) rfl dX7_stray_1 ?_
  refine yr_bipush (pq := 4) rfl dX7_stray_2 rfl ?_
  refine yr_sI3 (pq := 7) rfl dX7_stray_4 kM_7_62 (by decide) cat0 (c_isIn hn (by decide) (by decide) (fun q1 => ?_) (fun q1 => ?_))
  · obtain ⟨z1, z2, z3⟩ := strI_ok n.toNat i2 i3 i3'
    have fin : ∀ (g : hT) (P : Int → Int), (∀ a, a ≠ 1 → a ≠ 7 → a ≠ 22 → a ≠ 23 → g a = h a) → RS1 g P → P = strI (h 109) n.toNat → ∀ x2 x3 x4, Yr (d + 29) mX7_stray 99 [vr 0, vi n, x2, x3, x4] [] g (rI (SKn (d + 30) mX8_stray [vr 108, vi n])) := by
      intro g P g0 g1 g2 x2 x3 x4
      rw [g2] at g1
      refine yr_aload_n (pq := 100) rfl dX7_stray_99 rfl ?_
      refine yr_getR (pq := 103) (b := 1) 0 rfl dX7_stray_100 kF_7_10 (by decide) rfl ?_
      refine yr_getR (pq := 106) (b := 22) 1 rfl dX7_stray_103 kF_7_135 (by decide) rfl ?_
      refine yr_vI0 (pq := 109) rfl dX7_stray_106 kM_7_157 (by decide) (by decide) cat0 (c_total g1.2.1 ?_)
      refine yr_iret dX7_stray_109 rfl ?_
      refine r_stray (N := h 109) ⟨g0 109 (by decide) (by decide) (by decide) (by decide), by rw [g0 108 (by decide) (by decide) (by decide) (by decide)]; exact i11⟩ i2 i3 i3' hn (fun q9 => absurd q1 q9) (fun _ e e0 e1 => ⟨rfl, ?_⟩)
      exact Inv_rs hI (fun a ha => g0 a (by omega) (by omega) (by omega) (by omega)) g1 e0 e1 z1 z2 z3
    have key : ∀ (c : Nat) (i : Int) (g : hT) (P : Int → Int), 0 ≤ i → i + c = n → (∀ a, a ≠ 1 → a ≠ 7 → a ≠ 22 → a ≠ 23 → g a = h a) → RS1 g P → okT P → okS P → P 50 ≤ 999 → strI P c = strI (h 109) n.toNat → ∀ x3 x4, Yr (d + 29) mX7_stray 18 [vr 0, vi n, vi i, x3, x4] [] g (rI (SKn (d + 30) mX8_stray [vr 108, vi n])) := by
      intro c
      induction c with
      | zero =>
        intro i g P hi hc g0 g1 gO gS gl g2 x3 x4
        refine yr_iload_n (pq := 19) rfl dX7_stray_18 rfl ?_
        refine yr_iload_n (pq := 20) rfl dX7_stray_19 rfl ?_
        refine yr_ic_ge (pq := 23) (t := 99) rfl dX7_stray_20 rfl (by omega) (by omega) (fun _ => ?_) (fun q9 => absurd (by omega) q9)
        exact fin g P g0 g1 g2 _ _ _
      | succ c ih =>
        intro i g P hi hc g0 g1 gO gS gl g2 x3 x4
        have e9 : g 1 3 = P 9 := g1.2.2.2.2.2.2.2.2
        rw [strI] at g2
        refine yr_iload_n (pq := 19) rfl dX7_stray_18 rfl ?_
        refine yr_iload_n (pq := 20) rfl dX7_stray_19 rfl ?_
        refine yr_ic_ge (pq := 23) (t := 99) rfl dX7_stray_20 rfl (by omega) (by omega) (fun q9 => absurd q9 (by omega)) (fun _ => ?_)
        refine yr_aload_n (pq := 24) rfl dX7_stray_23 rfl ?_
        refine yr_getR (pq := 27) (b := 1) 0 rfl dX7_stray_24 kF_7_10 (by decide) rfl ?_
        refine yr_vI0 (pq := 30) rfl dX7_stray_27 kM_7_245 (by decide) (by decide) cat0 (c_drawNeighbour (N := P) g1 gO gS (fun q2 => ?_) (fun q2 f f0 f1 f2 => ?_))
        · have q2' : stM P = 0 := q2
          rw [if_pos q2'] at g2
          refine yr_istore3 (pq := 31) rfl dX7_stray_30 ?_
          refine yr_iload_n (pq := 32) rfl dX7_stray_31 rfl ?_
          refine yr_if_ge (pq := 35) (t := 39) rfl dX7_stray_32 rfl (by omega) (fun q9 => absurd q9 (by decide)) (fun _ => ?_)
          refine yr_iconst (pq := 36) rfl dX7_stray_35 ?_
          refine yr_goto (t := 60) dX7_stray_36 rfl ?_
          refine yr_istore4 (pq := 62) rfl dX7_stray_60 ?_
          refine yr_iload (pq := 64) rfl dX7_stray_62 rfl ?_
          refine yr_if_lt (pq := 67) (t := 99) rfl dX7_stray_64 rfl (by decide) (fun _ => ?_) (fun q9 => absurd (by decide) q9)
          exact fin g P g0 g1 g2 _ _ _
        · have q2' : stM P ≠ 0 := q2
          rw [if_neg q2'] at g2
          obtain ⟨hcc, s0, s1⟩ := st_ok q2'
          obtain ⟨oZ, sZ⟩ := stZ_ok gO gS
          have b2 := sZ.2.1
          have h8 := oZ.1
          have ec : pickF (mkS (nbP P (-1) (P 49)) 8) 0 (drwF (g 1 3) % ((pcF (mkS (nbP P (-1) (P 49)) 8) : Nat) : Int)) 8 = stC P := by rw [e9]; rfl
          have ef : f = up g 1 3 (zF (P 9)) := by
            funext a j
            by_cases q : a = 1
            · subst q
              by_cases q2 : j = 3
              · subst q2; rw [up_s, f2, e9]; rfl
              · rw [up_k q2, f1 j q2]
            · rw [up_o q, f0 a q]
          have fR : RS1 f (stZ P) := by
            rw [ef]
            exact RS1_up (A := 1) (j := 3) (r := 9) g1 gO (by unfold PL; omega)
          rw [ec]
          refine yr_istore3 (pq := 31) rfl dX7_stray_30 ?_
          refine yr_iload_n (pq := 32) rfl dX7_stray_31 rfl ?_
          refine yr_if_ge (pq := 35) (t := 39) rfl dX7_stray_32 rfl (by omega) (fun _ => ?_) (fun q9 => absurd (by omega) q9)
          refine yr_aload_n (pq := 40) rfl dX7_stray_39 rfl ?_
          refine yr_getR (pq := 43) (b := 1) 0 rfl dX7_stray_40 kF_7_10 (by decide) rfl ?_
          refine yr_getR (pq := 46) (b := 2) 0 rfl dX7_stray_43 kF_7_70 (by decide) rfl ?_
          refine yr_aload_n (pq := 47) rfl dX7_stray_46 rfl ?_
          refine yr_getR (pq := 50) (b := 1) 0 rfl dX7_stray_47 kF_7_10 (by decide) rfl ?_
          refine yr_getR (pq := 53) (b := 22) 1 rfl dX7_stray_50 kF_7_135 (by decide) rfl ?_
          refine yr_getI (pq := 56) 2 rfl dX7_stray_53 kF_7_160 (by decide) rfl (by decide) ?_
          refine yr_iload_n (pq := 57) rfl dX7_stray_56 rfl ?_
          rw [fR.2.2.2.1]
          refine yr_vI2 (pq := 60) rfl dX7_stray_57 kM_7_151 (by decide) (tw_c (by decide)) cat0 (c_between (N := stZ P) (T := 2) (by decide) fR.1 oZ (by omega) hcc ?_)
          have es : byF (stZ P) (-1) (stZ P 49) (stC P) = stS P := rfl
          rw [es]
          refine yr_istore4 (pq := 62) rfl dX7_stray_60 ?_
          refine yr_iload (pq := 64) rfl dX7_stray_62 rfl ?_
          refine yr_if_lt (pq := 67) (t := 99) rfl dX7_stray_64 rfl (by omega) (fun q9 => absurd q9 (by omega)) (fun _ => ?_)
          refine yr_aload_n (pq := 68) rfl dX7_stray_67 rfl ?_
          refine yr_getR (pq := 71) (b := 1) 0 rfl dX7_stray_68 kF_7_10 (by decide) rfl ?_
          refine yr_iload (pq := 73) rfl dX7_stray_71 rfl ?_
          refine yr_vI1 (pq := 76) rfl dX7_stray_73 kM_7_172 (by decide) (by decide) cat0 (c_isTooLate (N := stZ P) fR oZ sZ s0 s1 (fun q3 => ?_) (fun q3 => ?_))
          · rw [if_pos q3] at g2
            refine yr_if_eq (pq := 79) (t := 82) rfl dX7_stray_76 rfl (by decide) (fun q9 => absurd q9 (by decide)) (fun _ => ?_)
            refine yr_goto (t := 99) dX7_stray_79 rfl ?_
            exact fin f _ (fun a a1 a2 a3 a4 => by rw [f0 a a1]; exact g0 a a1 a2 a3 a4) fR g2 _ _ _
          · rw [if_neg (by omega)] at g2
            refine yr_if_eq (pq := 79) (t := 82) rfl dX7_stray_76 rfl (by decide) (fun _ => ?_) (fun q9 => absurd (by decide) q9)
            refine yr_aload_n (pq := 83) rfl dX7_stray_82 rfl ?_
            refine yr_getR (pq := 86) (b := 1) 0 rfl dX7_stray_83 kF_7_10 (by decide) rfl ?_
            refine yr_iload (pq := 88) rfl dX7_stray_86 rfl ?_
            refine yr_iload_n (pq := 89) rfl dX7_stray_88 rfl ?_
            refine yr_vI2 (pq := 92) rfl dX7_stray_89 kM_7_175 (by decide) (by decide) cat0 (c_carryAlong (N := stZ P) fR oZ sZ s0 s1 hcc (fun e e0 e1 => ?_))
            refine yr_pop (pq := 93) rfl dX7_stray_92 rfl ?_
            refine yr_iinc2 (pq := 96) rfl dX7_stray_93 ?_
            refine yr_goto (t := 18) dX7_stray_96 rfl ?_
            exact ih _ e _ (by omega) (by omega) (fun a a1 a2 a3 a4 => by rw [e0 a a2 a3 a4, f0 a a1]; exact g0 a a1 a2 a3 a4) e1 (carN_T oZ) (carN_okS oZ sZ s0 s1 hcc (by omega)) q3 g2 _ _
    refine yr_if_ne (pq := 10) (t := 16) rfl dX7_stray_7 rfl (by decide) (fun _ => ?_) (fun q9 => absurd q9 (by decide))
    refine yr_iconst (pq := 17) rfl dX7_stray_16 ?_
    refine yr_istore2 (pq := 18) rfl dX7_stray_17 ?_
    exact key n.toNat 0 h (h 109) (by omega) (by omega) (fun _ _ _ _ _ => rfl) i1 i2 i3 i3' rfl _ _
  · refine yr_if_ne (pq := 10) (t := 16) rfl dX7_stray_7 rfl (by decide) (fun q9 => absurd (by decide) q9) (fun _ => ?_)
    refine yr_aload_n (pq := 11) rfl dX7_stray_10 rfl ?_
    refine yr_iconst (pq := 12) rfl dX7_stray_11 ?_
    refine yr_vI1 (pq := 15) rfl dX7_stray_12 kM_7_66 (by decide) (by decide) cat0 (c_finding (by decide) ?_)
    exact yr_iret dX7_stray_15 rfl (r_stray (rb_u hI (by decide) (by decide)) i2 i3 i3' hn (fun _ e hf => fd_end hI (by decide) (by decide) hf) (fun q9 => absurd q9 q1))
end S25
