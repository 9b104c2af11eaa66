/-! the reference: ways of streets, minutes, carrying -/
theorem fsM_top (p : Int → Bool) (k : Int) (n : Nat) : fsM p k (n + 1) = if p k = true then k else fsM p (k + 1) n := rfl
/-- her row when k minutes have gone on the street s -/
def mnN (N : Int → Int) (s : Int) (n : Nat) : Int → Int := fun j =>
  if j = 45 then mltP (sumM (lossF N (N 44) s) (N 50) n) 0 (N 45)
  else if j = 46 then mltP (sumM (lossF N (N 44) s) (N 50) n) (N 45) (N 46)
  else if j = 47 then mltP (sumM (lossF N (N 44) s) (N 50) n) (N 45 + N 46) (N 47)
  else if j = 48 then mltP (sumM (lossF N (N 44) s) (N 50) n) (N 45 + N 46 + N 47) (N 48)
  else if j = 50 then N 50 + n
  else if j = 52 then N 52 + min (sumM (lossF N (N 44) s) (N 50) n) (totF N)
  else N j
theorem mnN_lo {N : Int → Int} {s j : Int} {n : Nat} (q : j < 45 ∨ j = 49 ∨ j = 51 ∨ 53 ≤ j) : mnN N s n j = N j := by
  unfold mnN
  rw [if_neg (by omega), if_neg (by omega), if_neg (by omega), if_neg (by omega), if_neg (by omega), if_neg (by omega)]
/-- one minute -/
def minN (N : Int → Int) (L : Int) : Int → Int := fun j =>
  if j = 45 then mltP L 0 (N 45)
  else if j = 46 then mltP L (N 45) (N 46)
  else if j = 47 then mltP L (N 45 + N 46) (N 47)
  else if j = 48 then mltP L (N 45 + N 46 + N 47) (N 48)
  else if j = 50 then N 50 + 1
  else if j = 52 then N 52 + min L (totF N)
  else N j
theorem mnN_step {N : Int → Int} {s : Int} {n : Nat} (hO : okT N) (hm : 0 ≤ N 50) (hp : 0 ≤ N 45 ∧ 0 ≤ N 46 ∧ 0 ≤ N 47 ∧ 0 ≤ N 48) : minN (mnN N s n) (lossF N (N 44) s (spellF (N 50 + n))) = mnN N s (n + 1) := by
  have h1 := sumM_b (f := lossF N (N 44) s) (B := 117) (fun i i0 i1 => lossF_b hO i0 i1) n (N 50) hm
  have h2 := lossF_b hO (salt := N 44) (s := s) (i := spellF (N 50 + n)) (by unfold spellF; omega) (by unfold spellF; omega)
  have h3 : sumM (lossF N (N 44) s) (N 50) (n + 1) = sumM (lossF N (N 44) s) (N 50) n + lossF N (N 44) s (spellF (N 50 + n)) := by
    rw [sumM_add]
    simp [sumM]
  funext j
  have e45 : mnN N s n 45 = mltP (sumM (lossF N (N 44) s) (N 50) n) 0 (N 45) := rfl
  have e46 : mnN N s n 46 = mltP (sumM (lossF N (N 44) s) (N 50) n) (N 45) (N 46) := rfl
  have e47 : mnN N s n 47 = mltP (sumM (lossF N (N 44) s) (N 50) n) (N 45 + N 46) (N 47) := rfl
  have e48 : mnN N s n 48 = mltP (sumM (lossF N (N 44) s) (N 50) n) (N 45 + N 46 + N 47) (N 48) := rfl
  have e50 : mnN N s n 50 = N 50 + n := rfl
  have e52 : mnN N s n 52 = N 52 + min (sumM (lossF N (N 44) s) (N 50) n) (totF N) := rfl
  unfold minN totF
  rw [e45, e46, e47, e48, e50, e52]
  by_cases q : j = 45 ∨ j = 46 ∨ j = 47 ∨ j = 48 ∨ j = 50 ∨ j = 52
  · rcases q with rfl | rfl | rfl | rfl | rfl | rfl
    · show mltP _ _ _ = mltP (sumM (lossF N (N 44) s) (N 50) (n + 1)) 0 (N 45)
      rw [h3]; unfold mltP; omega
    · show mltP _ _ _ = mltP (sumM (lossF N (N 44) s) (N 50) (n + 1)) (N 45) (N 46)
      rw [h3]; unfold mltP; omega
    · show mltP _ _ _ = mltP (sumM (lossF N (N 44) s) (N 50) (n + 1)) (N 45 + N 46) (N 47)
      rw [h3]; unfold mltP; omega
    · show mltP _ _ _ = mltP (sumM (lossF N (N 44) s) (N 50) (n + 1)) (N 45 + N 46 + N 47) (N 48)
      rw [h3]; unfold mltP; omega
    · show N 50 + n + 1 = N 50 + ((n + 1 : Nat) : Int)
      omega
    · show N 52 + min (sumM (lossF N (N 44) s) (N 50) n) (totF N) + _ = N 52 + min (sumM (lossF N (N 44) s) (N 50) (n + 1)) (totF N)
      rw [h3]; unfold mltP totF; omega
  · rw [if_neg (by omega), if_neg (by omega), if_neg (by omega), if_neg (by omega), if_neg (by omega), if_neg (by omega), mnN_lo (by omega), mnN_lo (by omega)]
theorem lossF_row {N N' : Int → Int} {salt s i : Int} (i0 : 0 ≤ i) (i1 : i < 12) (s0 : 0 ≤ s) (e : ∀ j, ((20 ≤ j ∧ j < 44) ∨ 53 ≤ j) → N' j = N j) : lossF N' salt s i = lossF N salt s i := by
  unfold lossF
  rw [e _ (by omega), e _ (by omega), e _ (by omega), e _ (by omega)]
theorem takesF_row {N N' : Int → Int} {s : Int} (s0 : 0 ≤ s) (e : ∀ j, 53 ≤ j → N' j = N j) : takesF N' s = takesF N s := by
  unfold takesF
  rw [e _ (by omega), e _ (by omega)]
theorem byF_row {N N' : Int → Int} {w a b : Int} (e8 : N' 8 = N 8) (e : ∀ j, 53 ≤ j → N' j = N j) : byF N' w a b = byF N w a b := by
  unfold byF
  rw [e8]
  refine fsM_cong _ _ (fun j j0 j1 => ?_)
  unfold endsP
  rw [e _ (by omega), e _ (by omega)]
section MS
variable {d : Nat} {h : hT} {K : Int → hT → Prop} {KV : hT → Prop}
theorem m_streetBy {a b w : Int} (hO : okT (h 109)) (hw : h 108 5 = w) (hwb : -1 ≤ w ∧ w ≤ 14) (ha : -2147483648 ≤ a ∧ a ≤ 2147483647) (hb : -2147483648 ≤ b ∧ b ≤ 2147483647) (k : K (byF (h 109) w a b) h) : ClI (d + 3) mX8_streetBy [vr 108, vi a, vi b] h K := by
  have h8 := hO.1
  have key : ∀ (n : Nat) (i : Int) (m : Nat), -1 ≤ i → i + 1 = n → i + 1 + m = h 109 8 → ∀ x, Yr (d + 2) mX8_streetBy 13 [vr 108, vi a, vi b, vi (fsM (endsP (h 109) w a b) (i + 1) m), vi i, x] [] h (rI K) := by
    intro n
    induction n with
    | zero =>
      intro i m hi hn hm x
      have hi : i = -1 := by omega
      subst hi
      refine yr_iload (pq := 15) rfl dX8_streetBy_13 rfl ?_
      refine yr_if_lt (pq := 18) (t := 82) rfl dX8_streetBy_15 rfl (by omega) (fun _ => ?_) (fun q9 => absurd (by omega) q9)
      refine yr_iload_n (pq := 83) rfl dX8_streetBy_82 rfl ?_
      have e : fsM (endsP (h 109) w a b) (-1 + 1) m = byF (h 109) w a b := by
        unfold byF
        rw [show (h 109 8).toNat = m by omega]
        rfl
      rw [e]
      exact yr_iret dX8_streetBy_83 rfl (k)
    | succ n ih =>
      intro i m hi hn hm x
      obtain ⟨-, o1, -⟩ := hO.2.2.2.2 i (by omega) (by omega)
      have nx : (if endsP (h 109) w a b i = true then i else fsM (endsP (h 109) w a b) (i + 1) m) = fsM (endsP (h 109) w a b) (i + -1 + 1) (m + 1) := by
        rw [show i + -1 + 1 = i by omega, fsM_top]
      have no : ¬ (h 109 (53 + 5 * i + 1) = min a b ∧ h 109 (53 + 5 * i + 2) = max a b ∧ i ≠ w) → fsM (endsP (h 109) w a b) (i + 1) m = fsM (endsP (h 109) w a b) (i + -1 + 1) (m + 1) := by
        intro q
        rw [← nx, if_neg (by unfold endsP; rw [decide_eq_true_eq]; exact q)]
      have ye : (h 109 (53 + 5 * i + 1) = min a b ∧ h 109 (53 + 5 * i + 2) = max a b ∧ i ≠ w) → i = fsM (endsP (h 109) w a b) (i + -1 + 1) (m + 1) := by
        intro q
        rw [← nx, if_pos (by unfold endsP; rw [decide_eq_true_eq]; exact q)]
      refine yr_iload (pq := 15) rfl dX8_streetBy_13 rfl ?_
      refine yr_if_lt (pq := 18) (t := 82) rfl dX8_streetBy_15 rfl (by omega) (fun q9 => absurd q9 (by omega)) (fun _ => ?_)
      refine yr_aload_n (pq := 19) rfl dX8_streetBy_18 rfl ?_
      refine yr_iload (pq := 21) rfl dX8_streetBy_19 rfl ?_
      refine yr_iconst (pq := 22) rfl dX8_streetBy_21 ?_
      refine yr_vI2 (pq := 25) rfl dX8_streetBy_22 kM_8_113 (by decide) (by decide) cat0 (m_streetIs (by omega) (by omega) ?_)
      refine yr_iload_n (pq := 26) rfl dX8_streetBy_25 rfl ?_
      refine yr_iload_n (pq := 27) rfl dX8_streetBy_26 rfl ?_
      refine yr_sI2 (pq := 30) rfl dX8_streetBy_27 kM_8_86 (by decide) (Nat.le_of_ble_eq_true rfl) (j_min ha hb ?_)
      refine yr_ic_ne (pq := 33) (t := 52) rfl dX8_streetBy_30 rfl (by omega) (by omega) (fun q => ?_) (fun q => ?_)
      · refine yr_iconst (pq := 53) rfl dX8_streetBy_52 ?_
        refine yr_istore5 (pq := 55) rfl dX8_streetBy_53 ?_
        refine yr_iload (pq := 57) rfl dX8_streetBy_55 rfl ?_
        refine yr_if_eq (pq := 60) (t := 74) rfl dX8_streetBy_57 rfl (by decide) (fun _ => ?_) (fun q9 => absurd (by decide) q9)
        refine yr_iload_n (pq := 75) rfl dX8_streetBy_74 rfl ?_
        refine yr_istore3 (pq := 76) rfl dX8_streetBy_75 ?_
        refine yr_iinc4 (pq := 79) rfl dX8_streetBy_76 ?_
        refine yr_goto (t := 13) dX8_streetBy_79 rfl ?_
        rw [no (fun z => q z.1)]
        exact ih _ (m + 1) (by omega) (by omega) (by omega) _
      · refine yr_aload_n (pq := 34) rfl dX8_streetBy_33 rfl ?_
        refine yr_iload (pq := 36) rfl dX8_streetBy_34 rfl ?_
        refine yr_iconst (pq := 37) rfl dX8_streetBy_36 ?_
        refine yr_vI2 (pq := 40) rfl dX8_streetBy_37 kM_8_113 (by decide) (by decide) cat0 (m_streetIs (by omega) (by omega) ?_)
        refine yr_iload_n (pq := 41) rfl dX8_streetBy_40 rfl ?_
        refine yr_iload_n (pq := 42) rfl dX8_streetBy_41 rfl ?_
        refine yr_sI2 (pq := 45) rfl dX8_streetBy_42 kM_8_91 (by decide) (Nat.le_of_ble_eq_true rfl) (j_max ha hb ?_)
        refine yr_ic_ne (pq := 48) (t := 52) rfl dX8_streetBy_45 rfl (by omega) (by omega) (fun q2 => ?_) (fun q2 => ?_)
        · refine yr_iconst (pq := 53) rfl dX8_streetBy_52 ?_
          refine yr_istore5 (pq := 55) rfl dX8_streetBy_53 ?_
          refine yr_iload (pq := 57) rfl dX8_streetBy_55 rfl ?_
          refine yr_if_eq (pq := 60) (t := 74) rfl dX8_streetBy_57 rfl (by decide) (fun _ => ?_) (fun q9 => absurd (by decide) q9)
          refine yr_iload_n (pq := 75) rfl dX8_streetBy_74 rfl ?_
          refine yr_istore3 (pq := 76) rfl dX8_streetBy_75 ?_
          refine yr_iinc4 (pq := 79) rfl dX8_streetBy_76 ?_
          refine yr_goto (t := 13) dX8_streetBy_79 rfl ?_
          rw [no (fun z => q2 z.2.1)]
          exact ih _ (m + 1) (by omega) (by omega) (by omega) _
        · refine yr_iconst (pq := 49) rfl dX8_streetBy_48 ?_
          refine yr_goto (t := 53) dX8_streetBy_49 rfl ?_
          refine yr_istore5 (pq := 55) rfl dX8_streetBy_53 ?_
          refine yr_iload (pq := 57) rfl dX8_streetBy_55 rfl ?_
          refine yr_if_eq (pq := 60) (t := 74) rfl dX8_streetBy_57 rfl (by decide) (fun q9 => absurd q9 (by decide)) (fun _ => ?_)
          refine yr_iload (pq := 62) rfl dX8_streetBy_60 rfl ?_
          refine yr_aload_n (pq := 63) rfl dX8_streetBy_62 rfl ?_
          refine yr_getI (pq := 66) 5 rfl dX8_streetBy_63 kF_8_22 (by decide) rfl (by decide) ?_
          rw [hw]
          refine yr_ic_eq (pq := 69) (t := 74) rfl dX8_streetBy_66 rfl (by omega) (by omega) (fun q3 => ?_) (fun q3 => ?_)
          · refine yr_iload_n (pq := 75) rfl dX8_streetBy_74 rfl ?_
            refine yr_istore3 (pq := 76) rfl dX8_streetBy_75 ?_
            refine yr_iinc4 (pq := 79) rfl dX8_streetBy_76 ?_
            refine yr_goto (t := 13) dX8_streetBy_79 rfl ?_
            rw [no (fun z => z.2.2 q3)]
            exact ih _ (m + 1) (by omega) (by omega) (by omega) _
          · refine yr_iload (pq := 71) rfl dX8_streetBy_69 rfl ?_
            refine yr_goto (t := 75) dX8_streetBy_71 rfl ?_
            refine yr_istore3 (pq := 76) rfl dX8_streetBy_75 ?_
            refine yr_iinc4 (pq := 79) rfl dX8_streetBy_76 ?_
            refine yr_goto (t := 13) dX8_streetBy_79 rfl ?_
            have e := ye ⟨q, q2, q3⟩
            have := ih (i + -1) (m + 1) (by omega) (by omega) (by omega)
            rw [← e] at this
            exact this _
  refine cl_in (al := [vr 108, vi a, vi b, .null, .null, .null]) rfl (Nat.le_of_ble_eq_true rfl) (by simp [vi_cat, vr_cat, vs_cat]) ?_
  refine yr_iconst (pq := 1) rfl dX8_streetBy_0 ?_
  refine yr_istore3 (pq := 2) rfl dX8_streetBy_1 ?_
  refine yr_aload_n (pq := 3) rfl dX8_streetBy_2 rfl ?_
  refine yr_getR (pq := 6) (b := 109) 0 rfl dX8_streetBy_3 kF_8_9 (by decide) rfl ?_
  refine yr_bipush (pq := 8) rfl dX8_streetBy_6 rfl ?_
  refine yr_iald (pq := 9) rfl dX8_streetBy_8 rfl (by decide) (by omega) ?_
  refine yr_iconst (pq := 10) rfl dX8_streetBy_9 ?_
  refine yr_isub (pq := 11) rfl dX8_streetBy_10 ?_
  refine yr_istore4 (pq := 13) rfl dX8_streetBy_11 ?_
  exact key (h 109 8).toNat (h 109 8 - 1) 0 (by omega) (by omega) (by omega) _
theorem m_nextTo {c w : Int} (hO : okT (h 109)) (hw : h 108 5 = w) (hwb : -1 ≤ w ∧ w ≤ 14) (hc : 0 ≤ c ∧ c ≤ 7) (k : K (nbF (h 109) w c) h) : ClI (d + 4) mX8_nextTo [vr 108, vi c] h K := by
  have h8 := hO.1
  have key : ∀ (n i : Nat), i + n = 8 → Yr (d + 3) mX8_nextTo 4 [vr 108, vi c, vi ((mkS (nbP (h 109) w c) i : Nat) : Int), vi (i : Int)] [] h (rI K) := by
    intro n
    induction n with
    | zero =>
      intro i hi
      have hi : i = 8 := by omega
      subst hi
      refine yr_iload_n (pq := 5) rfl dX8_nextTo_4 rfl ?_
      refine yr_bipush (pq := 7) rfl dX8_nextTo_5 rfl ?_
      refine yr_ic_ge (pq := 10) (t := 35) rfl dX8_nextTo_7 rfl (by omega) (by omega) (fun _ => ?_) (fun q9 => absurd (by omega) q9)
      refine yr_iload_n (pq := 36) rfl dX8_nextTo_35 rfl ?_
      exact yr_iret dX8_nextTo_36 rfl (k)
    | succ n ih =>
      intro i hi
      have hm := mkS_lt (nbP (h 109) w c) i
      have hm2 : mkS (nbP (h 109) w c) i < 256 := Nat.lt_of_lt_of_le hm (Nat.pow_le_pow_right (n := 2) (by decide) (show i ≤ 8 by omega))
      have hp : 2 ^ i < 256 := Nat.pow_lt_pow_right (m := i) (n := 8) (by decide) (by omega)
      have hb := byF_b (N := h 109) (w := w) (a := c) (b := (i : Int))
      have ih := ih (i + 1) (by omega)
      rw [mkS] at ih
      refine yr_iload_n (pq := 5) rfl dX8_nextTo_4 rfl ?_
      refine yr_bipush (pq := 7) rfl dX8_nextTo_5 rfl ?_
      refine yr_ic_ge (pq := 10) (t := 35) rfl dX8_nextTo_7 rfl (by omega) (by omega) (fun q9 => absurd q9 (by omega)) (fun _ => ?_)
      refine yr_iload_n (pq := 11) rfl dX8_nextTo_10 rfl ?_
      refine yr_aload_n (pq := 12) rfl dX8_nextTo_11 rfl ?_
      refine yr_iload_n (pq := 13) rfl dX8_nextTo_12 rfl ?_
      refine yr_iload_n (pq := 14) rfl dX8_nextTo_13 rfl ?_
      refine yr_vI2 (pq := 17) rfl dX8_nextTo_14 kM_8_138 (by decide) (by decide) (Nat.le_of_ble_eq_true rfl) (m_streetBy hO hw hwb (by omega) (by omega) ?_)
      refine yr_if_lt (pq := 20) (t := 26) rfl dX8_nextTo_17 rfl (by omega) (fun q => ?_) (fun q => ?_)
      · have e : ¬ nbP (h 109) w c i = true := by unfold nbP; rw [decide_eq_true_eq]; omega
        rw [if_neg e] at ih
        refine yr_iconst (pq := 27) rfl dX8_nextTo_26 ?_
        refine yr_ior (pq := 28) rfl dX8_nextTo_27 ?_
        refine yr_istore2 (pq := 29) rfl dX8_nextTo_28 ?_
        refine yr_iinc3 (pq := 32) rfl dX8_nextTo_29 ?_
        refine yr_goto (t := 4) dX8_nextTo_32 rfl ?_
        rw [show (0 : Int) = ((0 : Nat) : Int) from rfl, io_nat (by omega) (by decide)]
        exact ih
      · have e : nbP (h 109) w c i = true := by unfold nbP; rw [decide_eq_true_eq]; omega
        rw [if_pos e] at ih
        refine yr_iconst (pq := 21) rfl dX8_nextTo_20 ?_
        refine yr_iload_n (pq := 22) rfl dX8_nextTo_21 rfl ?_
        refine yr_ishl (pq := 23) rfl dX8_nextTo_22 ?_
        refine yr_goto (t := 27) dX8_nextTo_23 rfl ?_
        refine yr_ior (pq := 28) rfl dX8_nextTo_27 ?_
        refine yr_istore2 (pq := 29) rfl dX8_nextTo_28 ?_
        refine yr_iinc3 (pq := 32) rfl dX8_nextTo_29 ?_
        refine yr_goto (t := 4) dX8_nextTo_32 rfl ?_
        rw [il_nat (by omega), io_nat (by omega) (by omega)]
        exact ih
  refine cl_in (al := [vr 108, vi c, .null, .null]) rfl (Nat.le_of_ble_eq_true rfl) (by simp [vi_cat, vr_cat, vs_cat]) ?_
  refine yr_iconst (pq := 1) rfl dX8_nextTo_0 ?_
  refine yr_istore2 (pq := 2) rfl dX8_nextTo_1 ?_
  refine yr_iconst (pq := 3) rfl dX8_nextTo_2 ?_
  refine yr_istore3 (pq := 4) rfl dX8_nextTo_3 ?_
  exact key 8 0 (by omega)
theorem m_allGrains (k : K (totF (h 109)) h) : ClI (d + 1) mX8_allGrains [vr 108] h K := by
  refine cl_in (al := [vr 108]) rfl (Nat.le_of_ble_eq_true rfl) (by simp [vi_cat, vr_cat, vs_cat]) ?_
  refine yr_aload_n (pq := 1) rfl dX8_allGrains_0 rfl ?_
  refine yr_getR (pq := 4) (b := 109) 0 rfl dX8_allGrains_1 kF_8_9 (by decide) rfl ?_
  refine yr_bipush (pq := 6) rfl dX8_allGrains_4 rfl ?_
  refine yr_iald (pq := 7) rfl dX8_allGrains_6 rfl (by decide) (by omega) ?_
  refine yr_aload_n (pq := 8) rfl dX8_allGrains_7 rfl ?_
  refine yr_getR (pq := 11) (b := 109) 0 rfl dX8_allGrains_8 kF_8_9 (by decide) rfl ?_
  refine yr_bipush (pq := 13) rfl dX8_allGrains_11 rfl ?_
  refine yr_iald (pq := 14) rfl dX8_allGrains_13 rfl (by decide) (by omega) ?_
  refine yr_iadd (pq := 15) rfl dX8_allGrains_14 ?_
  refine yr_aload_n (pq := 16) rfl dX8_allGrains_15 rfl ?_
  refine yr_getR (pq := 19) (b := 109) 0 rfl dX8_allGrains_16 kF_8_9 (by decide) rfl ?_
  refine yr_bipush (pq := 21) rfl dX8_allGrains_19 rfl ?_
  refine yr_iald (pq := 22) rfl dX8_allGrains_21 rfl (by decide) (by omega) ?_
  refine yr_iadd (pq := 23) rfl dX8_allGrains_22 ?_
  refine yr_aload_n (pq := 24) rfl dX8_allGrains_23 rfl ?_
  refine yr_getR (pq := 27) (b := 109) 0 rfl dX8_allGrains_24 kF_8_9 (by decide) rfl ?_
  refine yr_bipush (pq := 29) rfl dX8_allGrains_27 rfl ?_
  refine yr_iald (pq := 30) rfl dX8_allGrains_29 rfl (by decide) (by omega) ?_
  refine yr_iadd (pq := 31) rfl dX8_allGrains_30 ?_
  exact yr_iret dX8_allGrains_31 rfl (k)
theorem m_spellOf {m : Int} (hm : 0 ≤ m ∧ m ≤ 1000000) (k : K (spellF m) h) : ClI (d + 2) mX8_spellOf [vi m] h K := by
  refine cl_in (al := [vi m]) rfl (Nat.le_of_ble_eq_true rfl) (by simp [vi_cat, vr_cat, vs_cat]) ?_
  refine yr_iload_n (pq := 1) rfl dX8_spellOf_0 rfl ?_
  refine yr_bipush (pq := 3) rfl dX8_spellOf_1 rfl ?_
  refine yr_idiv (pq := 4) rfl dX8_spellOf_3 (by omega) (by omega) ?_
  refine yr_bipush (pq := 6) rfl dX8_spellOf_4 rfl ?_
  refine yr_sI2 (pq := 9) rfl dX8_spellOf_6 kM_8_86 (by decide) cat0 (j_min (by omega) (by omega) ?_)
  exact yr_iret dX8_spellOf_9 rfl (k)
theorem m_minuteOn {s L : Int} (hO : okT (h 109)) (hl : 0 ≤ h 109 44 ∧ h 109 44 ≤ 1) (s0 : 0 ≤ s) (s1 : s < h 109 8) (hm : 0 ≤ h 109 50 ∧ h 109 50 ≤ 100000) (eL : L = lossF (h 109) (h 109 44) s (spellF (h 109 50))) (hp : (0 ≤ h 109 45 ∧ h 109 45 ≤ 100000) ∧ (0 ≤ h 109 46 ∧ h 109 46 ≤ 100000) ∧ (0 ≤ h 109 47 ∧ h 109 47 ≤ 100000) ∧ (0 ≤ h 109 48 ∧ h 109 48 ≤ 100000))
    (k : ∀ h', (∀ b, b ≠ 109 → h' b = h b) → h' 109 = minN (h 109) L → KV h') : ClV (d + 5) mX8_minuteOn [vr 108, vi s] h KV := by
  have h8 := hO.1
  have hlb := lossF_b hO (salt := h 109 44) (s := s) (i := spellF (h 109 50)) (by unfold spellF; omega) (by unfold spellF; omega)
  rw [← eL] at hlb
  refine cl_in (al := [vr 108, vi s, .null, .null, .null]) rfl (Nat.le_of_ble_eq_true rfl) (by simp [vi_cat, vr_cat, vs_cat]) ?_
  refine yr_aload_n (pq := 1) rfl dX8_minuteOn_0 rfl ?_
  refine yr_iload_n (pq := 2) rfl dX8_minuteOn_1 rfl ?_
  refine yr_aload_n (pq := 3) rfl dX8_minuteOn_2 rfl ?_
  refine yr_getR (pq := 6) (b := 109) 0 rfl dX8_minuteOn_3 kF_8_9 (by decide) rfl ?_
  refine yr_bipush (pq := 8) rfl dX8_minuteOn_6 rfl ?_
  refine yr_iald (pq := 9) rfl dX8_minuteOn_8 rfl (by decide) (by omega) ?_
  refine yr_sI1 (pq := 12) rfl dX8_minuteOn_9 kM_8_149 (by decide) (Nat.le_of_ble_eq_true rfl) (m_spellOf (by omega) ?_)
  refine yr_vI2 (pq := 15) rfl dX8_minuteOn_12 kM_8_135 (by decide) (by decide) cat0 (m_lossOf hO hl s0 s1 (by unfold spellF; omega) (by unfold spellF; omega) ?_)
  rw [← eL]
  refine yr_istore2 (pq := 16) rfl dX8_minuteOn_15 ?_
  refine yr_iconst (pq := 17) rfl dX8_minuteOn_16 ?_
  refine yr_istore3 (pq := 18) rfl dX8_minuteOn_17 ?_
  refine yr_iload_n (pq := 19) rfl dX8_minuteOn_18 rfl ?_
  refine yr_iconst (pq := 20) rfl dX8_minuteOn_19 ?_
  refine yr_ic_ge (pq := 23) (t := 75) rfl dX8_minuteOn_20 rfl (by decide) (by decide) (fun q9 => absurd q9 (by decide)) (fun _ => ?_)
  refine yr_iload_n (pq := 24) rfl dX8_minuteOn_23 rfl ?_
  refine yr_aload_n (pq := 25) rfl dX8_minuteOn_24 rfl ?_
  refine yr_getR (pq := 28) (b := 109) 0 rfl dX8_minuteOn_25 kF_8_9 (by decide) rfl ?_
  refine yr_bipush (pq := 30) rfl dX8_minuteOn_28 rfl ?_
  refine yr_iload_n (pq := 31) rfl dX8_minuteOn_30 rfl ?_
  refine yr_iadd (pq := 32) rfl dX8_minuteOn_31 ?_
  refine yr_iald (pq := 33) rfl dX8_minuteOn_32 rfl (by decide) (by omega) ?_
  simp only [Int.reduceAdd]
  refine yr_sI2 (pq := 36) rfl dX8_minuteOn_33 kM_8_86 (by decide) cat0 (j_min (by omega) (by omega) ?_)
  refine yr_istore4 (pq := 38) rfl dX8_minuteOn_36 ?_
  refine yr_aload_n (pq := 39) rfl dX8_minuteOn_38 rfl ?_
  refine yr_getR (pq := 42) (b := 109) 0 rfl dX8_minuteOn_39 kF_8_9 (by decide) rfl ?_
  refine yr_bipush (pq := 44) rfl dX8_minuteOn_42 rfl ?_
  refine yr_iload_n (pq := 45) rfl dX8_minuteOn_44 rfl ?_
  refine yr_iadd (pq := 46) rfl dX8_minuteOn_45 ?_
  refine yr_dup2 (pq := 47) rfl dX8_minuteOn_46 rfl rfl ?_
  refine yr_iald (pq := 48) rfl dX8_minuteOn_47 rfl (by decide) (by omega) ?_
  refine yr_iload (pq := 50) rfl dX8_minuteOn_48 rfl ?_
  refine yr_isub (pq := 51) rfl dX8_minuteOn_50 ?_
  refine yr_iast (pq := 52) rfl dX8_minuteOn_51 rfl (by decide) (by omega) ?_
  refine yr_aload_n (pq := 53) rfl dX8_minuteOn_52 rfl ?_
  refine yr_getR (pq := 56) (b := 109) 0 rfl dX8_minuteOn_53 kF_8_9 (by decide) rfl ?_
  refine yr_bipush (pq := 58) rfl dX8_minuteOn_56 rfl ?_
  refine yr_dup2 (pq := 59) rfl dX8_minuteOn_58 rfl rfl ?_
  refine yr_iald (pq := 60) rfl dX8_minuteOn_59 rfl (by decide) (by omega) ?_
  refine yr_iload (pq := 62) rfl dX8_minuteOn_60 rfl ?_
  refine yr_iadd (pq := 63) rfl dX8_minuteOn_62 ?_
  refine yr_iast (pq := 64) rfl dX8_minuteOn_63 rfl (by decide) (by omega) ?_
  refine yr_iload_n (pq := 65) rfl dX8_minuteOn_64 rfl ?_
  refine yr_iload (pq := 67) rfl dX8_minuteOn_65 rfl ?_
  refine yr_isub (pq := 68) rfl dX8_minuteOn_67 ?_
  refine yr_istore2 (pq := 69) rfl dX8_minuteOn_68 ?_
  refine yr_iinc3 (pq := 72) rfl dX8_minuteOn_69 ?_
  refine yr_goto (t := 18) dX8_minuteOn_72 rfl ?_
  simp (disch := omega) only [up_o, up_k, up_s, Int.reduceAdd, Int.zero_add]
  refine yr_iload_n (pq := 19) rfl dX8_minuteOn_18 rfl ?_
  refine yr_iconst (pq := 20) rfl dX8_minuteOn_19 ?_
  refine yr_ic_ge (pq := 23) (t := 75) rfl dX8_minuteOn_20 rfl (by omega) (by omega) (fun q9 => absurd q9 (by omega)) (fun _ => ?_)
  refine yr_iload_n (pq := 24) rfl dX8_minuteOn_23 rfl ?_
  refine yr_aload_n (pq := 25) rfl dX8_minuteOn_24 rfl ?_
  refine yr_getR (pq := 28) (b := 109) 0 rfl dX8_minuteOn_25 kF_8_9 (by decide) rfl ?_
  refine yr_bipush (pq := 30) rfl dX8_minuteOn_28 rfl ?_
  refine yr_iload_n (pq := 31) rfl dX8_minuteOn_30 rfl ?_
  refine yr_iadd (pq := 32) rfl dX8_minuteOn_31 ?_
  refine yr_iald (pq := 33) rfl dX8_minuteOn_32 rfl (by decide) (by omega) ?_
  simp (disch := omega) only [up_o, up_k, up_s, Int.reduceAdd, Int.zero_add]
  refine yr_sI2 (pq := 36) rfl dX8_minuteOn_33 kM_8_86 (by decide) cat0 (j_min (by omega) (by omega) ?_)
  refine yr_istore4 (pq := 38) rfl dX8_minuteOn_36 ?_
  refine yr_aload_n (pq := 39) rfl dX8_minuteOn_38 rfl ?_
  refine yr_getR (pq := 42) (b := 109) 0 rfl dX8_minuteOn_39 kF_8_9 (by decide) rfl ?_
  refine yr_bipush (pq := 44) rfl dX8_minuteOn_42 rfl ?_
  refine yr_iload_n (pq := 45) rfl dX8_minuteOn_44 rfl ?_
  refine yr_iadd (pq := 46) rfl dX8_minuteOn_45 ?_
  refine yr_dup2 (pq := 47) rfl dX8_minuteOn_46 rfl rfl ?_
  refine yr_iald (pq := 48) rfl dX8_minuteOn_47 rfl (by decide) (by omega) ?_
  refine yr_iload (pq := 50) rfl dX8_minuteOn_48 rfl ?_
  refine yr_isub (pq := 51) rfl dX8_minuteOn_50 ?_
  refine yr_iast (pq := 52) rfl dX8_minuteOn_51 rfl (by decide) (by omega) ?_
  refine yr_aload_n (pq := 53) rfl dX8_minuteOn_52 rfl ?_
  refine yr_getR (pq := 56) (b := 109) 0 rfl dX8_minuteOn_53 kF_8_9 (by decide) rfl ?_
  refine yr_bipush (pq := 58) rfl dX8_minuteOn_56 rfl ?_
  refine yr_dup2 (pq := 59) rfl dX8_minuteOn_58 rfl rfl ?_
  refine yr_iald (pq := 60) rfl dX8_minuteOn_59 rfl (by decide) (by omega) ?_
  refine yr_iload (pq := 62) rfl dX8_minuteOn_60 rfl ?_
  refine yr_iadd (pq := 63) rfl dX8_minuteOn_62 ?_
  refine yr_iast (pq := 64) rfl dX8_minuteOn_63 rfl (by decide) (by omega) ?_
  refine yr_iload_n (pq := 65) rfl dX8_minuteOn_64 rfl ?_
  refine yr_iload (pq := 67) rfl dX8_minuteOn_65 rfl ?_
  refine yr_isub (pq := 68) rfl dX8_minuteOn_67 ?_
  refine yr_istore2 (pq := 69) rfl dX8_minuteOn_68 ?_
  refine yr_iinc3 (pq := 72) rfl dX8_minuteOn_69 ?_
  refine yr_goto (t := 18) dX8_minuteOn_72 rfl ?_
  simp (disch := omega) only [up_o, up_k, up_s, Int.reduceAdd, Int.zero_add]
  refine yr_iload_n (pq := 19) rfl dX8_minuteOn_18 rfl ?_
  refine yr_iconst (pq := 20) rfl dX8_minuteOn_19 ?_
  refine yr_ic_ge (pq := 23) (t := 75) rfl dX8_minuteOn_20 rfl (by omega) (by omega) (fun q9 => absurd q9 (by omega)) (fun _ => ?_)
  refine yr_iload_n (pq := 24) rfl dX8_minuteOn_23 rfl ?_
  refine yr_aload_n (pq := 25) rfl dX8_minuteOn_24 rfl ?_
  refine yr_getR (pq := 28) (b := 109) 0 rfl dX8_minuteOn_25 kF_8_9 (by decide) rfl ?_
  refine yr_bipush (pq := 30) rfl dX8_minuteOn_28 rfl ?_
  refine yr_iload_n (pq := 31) rfl dX8_minuteOn_30 rfl ?_
  refine yr_iadd (pq := 32) rfl dX8_minuteOn_31 ?_
  refine yr_iald (pq := 33) rfl dX8_minuteOn_32 rfl (by decide) (by omega) ?_
  simp (disch := omega) only [up_o, up_k, up_s, Int.reduceAdd, Int.zero_add]
  refine yr_sI2 (pq := 36) rfl dX8_minuteOn_33 kM_8_86 (by decide) cat0 (j_min (by omega) (by omega) ?_)
  refine yr_istore4 (pq := 38) rfl dX8_minuteOn_36 ?_
  refine yr_aload_n (pq := 39) rfl dX8_minuteOn_38 rfl ?_
  refine yr_getR (pq := 42) (b := 109) 0 rfl dX8_minuteOn_39 kF_8_9 (by decide) rfl ?_
  refine yr_bipush (pq := 44) rfl dX8_minuteOn_42 rfl ?_
  refine yr_iload_n (pq := 45) rfl dX8_minuteOn_44 rfl ?_
  refine yr_iadd (pq := 46) rfl dX8_minuteOn_45 ?_
  refine yr_dup2 (pq := 47) rfl dX8_minuteOn_46 rfl rfl ?_
  refine yr_iald (pq := 48) rfl dX8_minuteOn_47 rfl (by decide) (by omega) ?_
  refine yr_iload (pq := 50) rfl dX8_minuteOn_48 rfl ?_
  refine yr_isub (pq := 51) rfl dX8_minuteOn_50 ?_
  refine yr_iast (pq := 52) rfl dX8_minuteOn_51 rfl (by decide) (by omega) ?_
  refine yr_aload_n (pq := 53) rfl dX8_minuteOn_52 rfl ?_
  refine yr_getR (pq := 56) (b := 109) 0 rfl dX8_minuteOn_53 kF_8_9 (by decide) rfl ?_
  refine yr_bipush (pq := 58) rfl dX8_minuteOn_56 rfl ?_
  refine yr_dup2 (pq := 59) rfl dX8_minuteOn_58 rfl rfl ?_
  refine yr_iald (pq := 60) rfl dX8_minuteOn_59 rfl (by decide) (by omega) ?_
  refine yr_iload (pq := 62) rfl dX8_minuteOn_60 rfl ?_
  refine yr_iadd (pq := 63) rfl dX8_minuteOn_62 ?_
  refine yr_iast (pq := 64) rfl dX8_minuteOn_63 rfl (by decide) (by omega) ?_
  refine yr_iload_n (pq := 65) rfl dX8_minuteOn_64 rfl ?_
  refine yr_iload (pq := 67) rfl dX8_minuteOn_65 rfl ?_
  refine yr_isub (pq := 68) rfl dX8_minuteOn_67 ?_
  refine yr_istore2 (pq := 69) rfl dX8_minuteOn_68 ?_
  refine yr_iinc3 (pq := 72) rfl dX8_minuteOn_69 ?_
  refine yr_goto (t := 18) dX8_minuteOn_72 rfl ?_
  simp (disch := omega) only [up_o, up_k, up_s, Int.reduceAdd, Int.zero_add]
  refine yr_iload_n (pq := 19) rfl dX8_minuteOn_18 rfl ?_
  refine yr_iconst (pq := 20) rfl dX8_minuteOn_19 ?_
  refine yr_ic_ge (pq := 23) (t := 75) rfl dX8_minuteOn_20 rfl (by omega) (by omega) (fun q9 => absurd q9 (by omega)) (fun _ => ?_)
  refine yr_iload_n (pq := 24) rfl dX8_minuteOn_23 rfl ?_
  refine yr_aload_n (pq := 25) rfl dX8_minuteOn_24 rfl ?_
  refine yr_getR (pq := 28) (b := 109) 0 rfl dX8_minuteOn_25 kF_8_9 (by decide) rfl ?_
  refine yr_bipush (pq := 30) rfl dX8_minuteOn_28 rfl ?_
  refine yr_iload_n (pq := 31) rfl dX8_minuteOn_30 rfl ?_
  refine yr_iadd (pq := 32) rfl dX8_minuteOn_31 ?_
  refine yr_iald (pq := 33) rfl dX8_minuteOn_32 rfl (by decide) (by omega) ?_
  simp (disch := omega) only [up_o, up_k, up_s, Int.reduceAdd, Int.zero_add]
  refine yr_sI2 (pq := 36) rfl dX8_minuteOn_33 kM_8_86 (by decide) cat0 (j_min (by omega) (by omega) ?_)
  refine yr_istore4 (pq := 38) rfl dX8_minuteOn_36 ?_
  refine yr_aload_n (pq := 39) rfl dX8_minuteOn_38 rfl ?_
  refine yr_getR (pq := 42) (b := 109) 0 rfl dX8_minuteOn_39 kF_8_9 (by decide) rfl ?_
  refine yr_bipush (pq := 44) rfl dX8_minuteOn_42 rfl ?_
  refine yr_iload_n (pq := 45) rfl dX8_minuteOn_44 rfl ?_
  refine yr_iadd (pq := 46) rfl dX8_minuteOn_45 ?_
  refine yr_dup2 (pq := 47) rfl dX8_minuteOn_46 rfl rfl ?_
  refine yr_iald (pq := 48) rfl dX8_minuteOn_47 rfl (by decide) (by omega) ?_
  refine yr_iload (pq := 50) rfl dX8_minuteOn_48 rfl ?_
  refine yr_isub (pq := 51) rfl dX8_minuteOn_50 ?_
  refine yr_iast (pq := 52) rfl dX8_minuteOn_51 rfl (by decide) (by omega) ?_
  refine yr_aload_n (pq := 53) rfl dX8_minuteOn_52 rfl ?_
  refine yr_getR (pq := 56) (b := 109) 0 rfl dX8_minuteOn_53 kF_8_9 (by decide) rfl ?_
  refine yr_bipush (pq := 58) rfl dX8_minuteOn_56 rfl ?_
  refine yr_dup2 (pq := 59) rfl dX8_minuteOn_58 rfl rfl ?_
  refine yr_iald (pq := 60) rfl dX8_minuteOn_59 rfl (by decide) (by omega) ?_
  refine yr_iload (pq := 62) rfl dX8_minuteOn_60 rfl ?_
  refine yr_iadd (pq := 63) rfl dX8_minuteOn_62 ?_
  refine yr_iast (pq := 64) rfl dX8_minuteOn_63 rfl (by decide) (by omega) ?_
  refine yr_iload_n (pq := 65) rfl dX8_minuteOn_64 rfl ?_
  refine yr_iload (pq := 67) rfl dX8_minuteOn_65 rfl ?_
  refine yr_isub (pq := 68) rfl dX8_minuteOn_67 ?_
  refine yr_istore2 (pq := 69) rfl dX8_minuteOn_68 ?_
  refine yr_iinc3 (pq := 72) rfl dX8_minuteOn_69 ?_
  refine yr_goto (t := 18) dX8_minuteOn_72 rfl ?_
  simp (disch := omega) only [up_o, up_k, up_s, Int.reduceAdd, Int.zero_add]
  refine yr_iload_n (pq := 19) rfl dX8_minuteOn_18 rfl ?_
  refine yr_iconst (pq := 20) rfl dX8_minuteOn_19 ?_
  refine yr_ic_ge (pq := 23) (t := 75) rfl dX8_minuteOn_20 rfl (by omega) (by omega) (fun _ => ?_) (fun q9 => absurd (by omega) q9)
  refine yr_aload_n (pq := 76) rfl dX8_minuteOn_75 rfl ?_
  refine yr_getR (pq := 79) (b := 109) 0 rfl dX8_minuteOn_76 kF_8_9 (by decide) rfl ?_
  refine yr_bipush (pq := 81) rfl dX8_minuteOn_79 rfl ?_
  refine yr_dup2 (pq := 82) rfl dX8_minuteOn_81 rfl rfl ?_
  refine yr_iald (pq := 83) rfl dX8_minuteOn_82 rfl (by decide) (by omega) ?_
  refine yr_iconst (pq := 84) rfl dX8_minuteOn_83 ?_
  refine yr_iadd (pq := 85) rfl dX8_minuteOn_84 ?_
  refine yr_iast (pq := 86) rfl dX8_minuteOn_85 rfl (by decide) (by omega) ?_
  simp (disch := omega) only [up_o, up_k, up_s, Int.reduceAdd, Int.zero_add]
  refine yr_vret dX8_minuteOn_86 rfl (k _ (fun b hb => by rw [up_ne hb, up_ne hb, up_ne hb, up_ne hb, up_ne hb, up_ne hb, up_ne hb, up_ne hb, up_ne hb]) ?_)
  funext j
  unfold minN totF
  by_cases q : j = 45 ∨ j = 46 ∨ j = 47 ∨ j = 48 ∨ j = 50 ∨ j = 52
  · rcases q with rfl | rfl | rfl | rfl | rfl | rfl
    · simp (disch := omega) only [up_o, up_k, up_s]
      show _ = mltP L 0 (h 109 45)
      unfold mltP; omega
    · simp (disch := omega) only [up_o, up_k, up_s]
      show _ = mltP L (h 109 45) (h 109 46)
      unfold mltP; omega
    · simp (disch := omega) only [up_o, up_k, up_s]
      show _ = mltP L (h 109 45 + h 109 46) (h 109 47)
      unfold mltP; omega
    · simp (disch := omega) only [up_o, up_k, up_s]
      show _ = mltP L (h 109 45 + h 109 46 + h 109 47) (h 109 48)
      unfold mltP; omega
    · simp (disch := omega) only [up_o, up_k, up_s]
      rfl
    · simp (disch := omega) only [up_o, up_k, up_s]
      show _ = h 109 52 + min L (h 109 45 + h 109 46 + h 109 47 + h 109 48)
      omega
  · rw [if_neg (by omega), if_neg (by omega), if_neg (by omega), if_neg (by omega), if_neg (by omega), if_neg (by omega)]
    simp (disch := omega) only [up_o, up_k, up_s]
theorem io_0 {a : Int} (ha : 0 ≤ a ∧ a ≤ 15) : io a 0 = a := by
  obtain ⟨m, rfl⟩ := Int.eq_ofNat_of_zero_le ha.1
  rw [show (0 : Int) = ((0 : Nat) : Int) from rfl, io_nat (by omega) (by decide), Nat.or_zero]
theorem m_carried {s c : Int} (hO : okT (h 109)) (hS : okS (h 109)) (s0 : 0 ≤ s) (s1 : s < h 109 8) (hc : 0 ≤ c ∧ c ≤ 7) (k : ∀ h', (∀ b, b ≠ 109 → h' b = h b) → h' 109 = carN (h 109) s c → KV h') : ClV (d + 6) mX8_carried [vr 108, vi s, vi c] h KV := by
  have h8 := hO.1
  have ht := takesF_b hO s0 s1
  obtain ⟨a1, a2, a3, a4, a5, a6⟩ := hS
  have hq := hO.2.1 c hc.1 (by omega)
  have key : ∀ (n m : Nat) (g : hT), (m : Int) + n = takesF (h 109) s → (∀ b, b ≠ 109 → g b = h b) → g 109 = mnN (h 109) s m → Yr (d + 5) mX8_carried 6 [vr 108, vi s, vi c, vi (n : Int)] [] g (rV KV) := by
    intro n
    induction n with
    | zero =>
      intro m g hn g1 g2
      have em : (takesF (h 109) s).toNat = m := by omega
      have ec : ∀ j, j ≠ 49 → j ≠ 51 → carN (h 109) s c j = mnN (h 109) s m j := by
        intro j j1 j2
        unfold carN mnN lossT
        rw [em, if_neg j1, if_neg j2, show (m : Int) = takesF (h 109) s by omega]
      have e47 : g 109 47 = mltP (lossT (h 109) s) (h 109 45 + h 109 46) (h 109 47) := by
        rw [g2]
        unfold lossT
        rw [em]
        rfl
      have eq : g 109 c = h 109 c := by rw [g2, mnN_lo (by omega)]
      have e51 : g 109 51 = h 109 51 := by rw [g2, mnN_lo (by omega)]
      have hml : -2147483648 ≤ g 109 47 ∧ g 109 47 ≤ 2147483647 := by rw [e47]; unfold mltP; omega
      refine yr_iload_n (pq := 7) rfl dX8_carried_6 rfl ?_
      refine yr_if_le (pq := 10) (t := 21) rfl dX8_carried_7 rfl (by omega) (fun _ => ?_) (fun q9 => absurd (by omega) q9)
      refine yr_aload_n (pq := 22) rfl dX8_carried_21 rfl ?_
      refine yr_getR (pq := 25) (b := 109) 0 rfl dX8_carried_22 kF_8_9 (by decide) rfl ?_
      refine yr_bipush (pq := 27) rfl dX8_carried_25 rfl ?_
      refine yr_iload_n (pq := 28) rfl dX8_carried_27 rfl ?_
      refine yr_iast (pq := 29) rfl dX8_carried_28 rfl (by decide) (by omega) ?_
      refine yr_aload_n (pq := 30) rfl dX8_carried_29 rfl ?_
      refine yr_getR (pq := 33) (b := 109) 0 rfl dX8_carried_30 kF_8_9 (by decide) rfl ?_
      refine yr_bipush (pq := 35) rfl dX8_carried_33 rfl ?_
      refine yr_dup2 (pq := 36) rfl dX8_carried_35 rfl rfl ?_
      refine yr_iald (pq := 37) rfl dX8_carried_36 rfl (by decide) (by omega) ?_
      refine yr_aload_n (pq := 38) rfl dX8_carried_37 rfl ?_
      refine yr_getR (pq := 41) (b := 109) 0 rfl dX8_carried_38 kF_8_9 (by decide) rfl ?_
      refine yr_bipush (pq := 43) rfl dX8_carried_41 rfl ?_
      refine yr_iald (pq := 44) rfl dX8_carried_43 rfl (by decide) (by omega) ?_
      simp (disch := omega) only [up_o, up_k, up_s]
      refine yr_if_le (pq := 47) (t := 60) rfl dX8_carried_44 rfl (by omega) (fun q => ?_) (fun q => ?_)
      · refine yr_iconst (pq := 61) rfl dX8_carried_60 ?_
        refine yr_ior (pq := 62) rfl dX8_carried_61 ?_
        refine yr_iast (pq := 63) rfl dX8_carried_62 rfl (by decide) (by omega) ?_
        refine yr_vret dX8_carried_63 rfl (k _ (fun b hb => by rw [up_ne hb, up_ne hb]; exact g1 b hb) ?_)
        funext j
        rw [up_row, up_row]
        by_cases j1 : j = 51
        · subst j1
          rw [ur_s, e51, io_0 a4]
          show _ = (if 0 < mltP (lossT (h 109) s) (h 109 45 + h 109 46) (h 109 47) then io (h 109 51) (il 1 (h 109 c)) else h 109 51)
          rw [← e47, if_neg (by omega)]
        · rw [ur_o j1]
          by_cases j2 : j = 49
          · subst j2; rw [ur_s]; rfl
          · rw [ur_o j2, ec j j2 j1, g2]
      · refine yr_iconst (pq := 48) rfl dX8_carried_47 ?_
        refine yr_aload_n (pq := 49) rfl dX8_carried_48 rfl ?_
        refine yr_getR (pq := 52) (b := 109) 0 rfl dX8_carried_49 kF_8_9 (by decide) rfl ?_
        refine yr_iconst (pq := 53) rfl dX8_carried_52 ?_
        refine yr_iload_n (pq := 54) rfl dX8_carried_53 rfl ?_
        refine yr_iadd (pq := 55) rfl dX8_carried_54 ?_
        refine yr_iald (pq := 56) rfl dX8_carried_55 rfl (by decide) (by omega) ?_
        refine yr_ishl (pq := 57) rfl dX8_carried_56 ?_
        refine yr_goto (t := 61) dX8_carried_57 rfl ?_
        refine yr_ior (pq := 62) rfl dX8_carried_61 ?_
        refine yr_iast (pq := 63) rfl dX8_carried_62 rfl (by decide) (by omega) ?_
        simp (disch := omega) only [up_o, up_k, up_s, Int.zero_add]
        refine yr_vret dX8_carried_63 rfl (k _ (fun b hb => by rw [up_ne hb, up_ne hb]; exact g1 b hb) ?_)
        funext j
        rw [up_row, up_row]
        by_cases j1 : j = 51
        · subst j1
          rw [ur_s, e51, eq]
          show _ = (if 0 < mltP (lossT (h 109) s) (h 109 45 + h 109 46) (h 109 47) then io (h 109 51) (il 1 (h 109 c)) else h 109 51)
          rw [← e47, if_pos (by omega)]
        · rw [ur_o j1]
          by_cases j2 : j = 49
          · subst j2; rw [ur_s]; rfl
          · rw [ur_o j2, ec j j2 j1, g2]
    | succ n ih =>
      intro m g hn g1 g2
      have hlo : ∀ j, (j < 45 ∨ j = 49 ∨ j = 51 ∨ 53 ≤ j) → g 109 j = h 109 j := fun j hj => by rw [g2, mnN_lo hj]
      have hOg : okT (g 109) := okT_row hO (fun j hj => hlo j (by omega))
      have hsb := sumM_b (f := lossF (h 109) (h 109 44) s) (B := 117) (fun i i0 i1 => lossF_b hO i0 i1) m (h 109 50) a3.1
      have e50 : g 109 50 = h 109 50 + m := by rw [g2]; rfl
      have p45 : g 109 45 = mltP (sumM (lossF (h 109) (h 109 44) s) (h 109 50) m) 0 (h 109 45) := by rw [g2]; rfl
      have p46 : g 109 46 = mltP (sumM (lossF (h 109) (h 109 44) s) (h 109 50) m) (h 109 45) (h 109 46) := by rw [g2]; rfl
      have p47 : g 109 47 = mltP (sumM (lossF (h 109) (h 109 44) s) (h 109 50) m) (h 109 45 + h 109 46) (h 109 47) := by rw [g2]; rfl
      have p48 : g 109 48 = mltP (sumM (lossF (h 109) (h 109 44) s) (h 109 50) m) (h 109 45 + h 109 46 + h 109 47) (h 109 48) := by rw [g2]; rfl
      refine yr_iload_n (pq := 7) rfl dX8_carried_6 rfl ?_
      refine yr_if_le (pq := 10) (t := 21) rfl dX8_carried_7 rfl (by omega) (fun q9 => absurd q9 (by omega)) (fun _ => ?_)
      refine yr_aload_n (pq := 11) rfl dX8_carried_10 rfl ?_
      refine yr_iload_n (pq := 12) rfl dX8_carried_11 rfl ?_
      refine yr_vV1 (pq := 15) rfl dX8_carried_12 kM_8_152 (by decide) (by decide) cat0 (m_minuteOn (L := lossF (h 109) (h 109 44) s (spellF (h 109 50 + m))) hOg (by rw [hlo 44 (by omega)]; exact a1) s0 (by rw [hlo 8 (by omega)]; exact s1) (by omega) ?_ ?_ (fun g' f1 f2 => ?_))
      · rw [hlo 44 (by omega), e50, lossF_row (N := h 109) (by unfold spellF; omega) (by unfold spellF; omega) s0 (fun j hj => hlo j (by omega))]
      · rw [p45, p46, p47, p48]
        unfold mltP
        omega
      · refine yr_iinc3 (pq := 18) rfl dX8_carried_15 ?_
        refine yr_goto (t := 6) dX8_carried_18 rfl ?_
        rw [show ((n + 1 : Nat) : Int) + -1 = (n : Int) by omega]
        refine ih (m + 1) g' (by omega) (fun b hb => by rw [f1 b hb]; exact g1 b hb) ?_
        rw [f2, g2, mnN_step hO a3.1 (by omega)]
  refine cl_in (al := [vr 108, vi s, vi c, .null]) rfl (Nat.le_of_ble_eq_true rfl) (by simp [vi_cat, vr_cat, vs_cat]) ?_
  refine yr_aload_n (pq := 1) rfl dX8_carried_0 rfl ?_
  refine yr_iload_n (pq := 2) rfl dX8_carried_1 rfl ?_
  refine yr_vI1 (pq := 5) rfl dX8_carried_2 kM_8_126 (by decide) (by decide) cat0 (m_takes hO s0 s1 ?_)
  refine yr_istore3 (pq := 6) rfl dX8_carried_5 ?_
  obtain ⟨n, hn⟩ := Int.eq_ofNat_of_zero_le (show 0 ≤ takesF (h 109) s by omega)
  rw [hn]
  refine key n 0 h (by omega) (fun _ _ => rfl) ?_
  funext j
  by_cases q : j = 45 ∨ j = 46 ∨ j = 47 ∨ j = 48 ∨ j = 50 ∨ j = 52
  · rcases q with rfl | rfl | rfl | rfl | rfl | rfl
    · show h 109 45 = mltP 0 0 (h 109 45)
      unfold mltP; omega
    · show h 109 46 = mltP 0 (h 109 45) (h 109 46)
      unfold mltP; omega
    · show h 109 47 = mltP 0 (h 109 45 + h 109 46) (h 109 47)
      unfold mltP; omega
    · show h 109 48 = mltP 0 (h 109 45 + h 109 46 + h 109 47) (h 109 48)
      unfold mltP; omega
    · show h 109 50 = h 109 50 + 0
      omega
    · show h 109 52 = h 109 52 + min 0 (totF (h 109))
      unfold totF; omega
  · rw [mnN_lo (by omega)]
theorem m_isTooLate {n : Int} (hm : 0 ≤ h 109 50 ∧ h 109 50 ≤ 100000) (hn : -100000 ≤ n ∧ n ≤ 100000) (k1 : 999 < h 109 50 + n → K 1 h) (k0 : h 109 50 + n ≤ 999 → K 0 h) : ClI (d + 1) mX8_isTooLate [vr 108, vi n] h K := by
  refine cl_in (al := [vr 108, vi n]) rfl (Nat.le_of_ble_eq_true rfl) (by simp [vi_cat, vr_cat, vs_cat]) ?_
  refine yr_aload_n (pq := 1) rfl dX8_isTooLate_0 rfl ?_
  refine yr_getR (pq := 4) (b := 109) 0 rfl dX8_isTooLate_1 kF_8_9 (by decide) rfl ?_
  refine yr_bipush (pq := 6) rfl dX8_isTooLate_4 rfl ?_
  refine yr_iald (pq := 7) rfl dX8_isTooLate_6 rfl (by decide) (by omega) ?_
  refine yr_iload_n (pq := 8) rfl dX8_isTooLate_7 rfl ?_
  refine yr_iadd (pq := 9) rfl dX8_isTooLate_8 ?_
  refine yr_sipush (pq := 12) rfl dX8_isTooLate_9 rfl ?_
  refine yr_ic_le (pq := 15) (t := 19) rfl dX8_isTooLate_12 rfl (by omega) (by omega) (fun q => ?_) (fun q => ?_)
  · refine yr_iconst (pq := 20) rfl dX8_isTooLate_19 ?_
    exact yr_zret dX8_isTooLate_20 rfl (by first | decide | omega) (k0 q)
  · refine yr_iconst (pq := 16) rfl dX8_isTooLate_15 ?_
    refine yr_goto (t := 20) dX8_isTooLate_16 rfl ?_
    exact yr_zret dX8_isTooLate_20 rfl (by first | decide | omega) (k1 (by omega))
theorem m_isLate (hm : 0 ≤ h 109 50 ∧ h 109 50 ≤ 100000) (k1 : 700 < h 109 50 → K 1 h) (k0 : h 109 50 ≤ 700 → K 0 h) : ClI (d + 1) mX8_isLate [vr 108] h K := by
  refine cl_in (al := [vr 108]) rfl (Nat.le_of_ble_eq_true rfl) (by simp [vi_cat, vr_cat, vs_cat]) ?_
  refine yr_aload_n (pq := 1) rfl dX8_isLate_0 rfl ?_
  refine yr_getR (pq := 4) (b := 109) 0 rfl dX8_isLate_1 kF_8_9 (by decide) rfl ?_
  refine yr_bipush (pq := 6) rfl dX8_isLate_4 rfl ?_
  refine yr_iald (pq := 7) rfl dX8_isLate_6 rfl (by decide) (by omega) ?_
  refine yr_sipush (pq := 10) rfl dX8_isLate_7 rfl ?_
  refine yr_ic_le (pq := 13) (t := 17) rfl dX8_isLate_10 rfl (by omega) (by omega) (fun q => ?_) (fun q => ?_)
  · refine yr_iconst (pq := 18) rfl dX8_isLate_17 ?_
    exact yr_zret dX8_isLate_18 rfl (by first | decide | omega) (k0 q)
  · refine yr_iconst (pq := 14) rfl dX8_isLate_13 ?_
    refine yr_goto (t := 18) dX8_isLate_14 rfl ?_
    exact yr_zret dX8_isLate_18 rfl (by first | decide | omega) (k1 (by omega))
theorem m_costsOf {s m : Int} (hO : okT (h 109)) (hS : okS (h 109)) (s0 : 0 ≤ s) (s1 : s < h 109 8) (hm : 0 ≤ m ∧ m ≤ 1000) (k : K (min (totF (h 109)) (sumM (lossF (h 109) (h 109 44) s) m (takesF (h 109) s).toNat)) h) : ClI (d + 5) mX8_costsOf [vr 108, vi s, vi m] h K := by
  obtain ⟨a1, a2, a3, a4, a5, a6⟩ := hS
  have ht := takesF_b hO s0 s1
  have hl := sumM_b (f := lossF (h 109) (h 109 44) s) (B := 117) (fun i i0 i1 => lossF_b hO i0 i1) (takesF (h 109) s).toNat m hm.1
  have key : ∀ (n : Nat) (i acc : Int), 0 ≤ i → i + n = takesF (h 109) s → acc + sumM (lossF (h 109) (h 109 44) s) (m + i) n = sumM (lossF (h 109) (h 109 44) s) m (takesF (h 109) s).toNat → Yr (d + 4) mX8_costsOf 5 [vr 108, vi s, vi m, vi acc, vi i] [] h (rI K) := by
    intro n
    induction n with
    | zero =>
      intro i acc hi hn hs
      have e : acc = sumM (lossF (h 109) (h 109 44) s) m (takesF (h 109) s).toNat := by rw [← hs]; simp [sumM]
      refine yr_iload (pq := 7) rfl dX8_costsOf_5 rfl ?_
      refine yr_aload_n (pq := 8) rfl dX8_costsOf_7 rfl ?_
      refine yr_iload_n (pq := 9) rfl dX8_costsOf_8 rfl ?_
      refine yr_vI1 (pq := 12) rfl dX8_costsOf_9 kM_8_126 (by decide) (by decide) (Nat.le_of_ble_eq_true rfl) (m_takes hO s0 s1 ?_)
      refine yr_ic_ge (pq := 15) (t := 36) rfl dX8_costsOf_12 rfl (by omega) (by omega) (fun _ => ?_) (fun q9 => absurd (by omega) q9)
      refine yr_iload_n (pq := 37) rfl dX8_costsOf_36 rfl ?_
      refine yr_aload_n (pq := 38) rfl dX8_costsOf_37 rfl ?_
      refine yr_vI0 (pq := 41) rfl dX8_costsOf_38 kM_8_145 (by decide) (by decide) (Nat.le_of_ble_eq_true rfl) (m_allGrains ?_)
      refine yr_sI2 (pq := 44) rfl dX8_costsOf_41 kM_8_86 (by decide) cat0 (j_min (by omega) (by unfold totF; omega) ?_)
      rw [e, Int.min_comm]
      exact yr_iret dX8_costsOf_44 rfl (k)
    | succ n ih =>
      intro i acc hi hn hs
      refine yr_iload (pq := 7) rfl dX8_costsOf_5 rfl ?_
      refine yr_aload_n (pq := 8) rfl dX8_costsOf_7 rfl ?_
      refine yr_iload_n (pq := 9) rfl dX8_costsOf_8 rfl ?_
      refine yr_vI1 (pq := 12) rfl dX8_costsOf_9 kM_8_126 (by decide) (by decide) (Nat.le_of_ble_eq_true rfl) (m_takes hO s0 s1 ?_)
      refine yr_ic_ge (pq := 15) (t := 36) rfl dX8_costsOf_12 rfl (by omega) (by omega) (fun q9 => absurd q9 (by omega)) (fun _ => ?_)
      refine yr_iload_n (pq := 16) rfl dX8_costsOf_15 rfl ?_
      refine yr_aload_n (pq := 17) rfl dX8_costsOf_16 rfl ?_
      refine yr_iload_n (pq := 18) rfl dX8_costsOf_17 rfl ?_
      refine yr_iload_n (pq := 19) rfl dX8_costsOf_18 rfl ?_
      refine yr_iload (pq := 21) rfl dX8_costsOf_19 rfl ?_
      refine yr_iadd (pq := 22) rfl dX8_costsOf_21 ?_
      refine yr_sI1 (pq := 25) rfl dX8_costsOf_22 kM_8_149 (by decide) (Nat.le_of_ble_eq_true rfl) (m_spellOf (by omega) ?_)
      refine yr_vI2 (pq := 28) rfl dX8_costsOf_25 kM_8_135 (by decide) (by decide) (Nat.le_of_ble_eq_true rfl) (m_lossOf hO a1 s0 s1 (by unfold spellF; omega) (by unfold spellF; omega) ?_)
      refine yr_iadd (pq := 29) rfl dX8_costsOf_28 ?_
      refine yr_istore3 (pq := 30) rfl dX8_costsOf_29 ?_
      refine yr_iinc4 (pq := 33) rfl dX8_costsOf_30 ?_
      refine yr_goto (t := 5) dX8_costsOf_33 rfl ?_
      refine ih _ _ (by omega) (by omega) ?_
      rw [← hs, sumM, show m + (i + 1) = m + i + 1 by omega]
      omega
  refine cl_in (al := [vr 108, vi s, vi m, .null, .null]) rfl (Nat.le_of_ble_eq_true rfl) (by simp [vi_cat, vr_cat, vs_cat]) ?_
  refine yr_iconst (pq := 1) rfl dX8_costsOf_0 ?_
  refine yr_istore3 (pq := 2) rfl dX8_costsOf_1 ?_
  refine yr_iconst (pq := 3) rfl dX8_costsOf_2 ?_
  refine yr_istore4 (pq := 5) rfl dX8_costsOf_3 ?_
  refine key (takesF (h 109) s).toNat 0 0 (by omega) (by omega) ?_
  rw [Int.add_zero, Int.zero_add]
theorem m_drawn {b : Int} (hb : 0 < b ∧ b ≤ 1000) (k : ∀ h', (∀ a, a ≠ 109 → h' a = h a) → h' 109 = ur (h 109) 9 (h 109 9 * 1103515245 + 12345) → K (drwF (h 109 9) % b) h') : ClI (d + 1) mX8_drawn [vr 108, vi b] h K := by
  have hd := iu_8 (h 109 9 * 1103515245 + 12345)
  refine cl_in (al := [vr 108, vi b]) rfl (Nat.le_of_ble_eq_true rfl) (by simp [vi_cat, vr_cat, vs_cat]) ?_
  refine yr_aload_n (pq := 1) rfl dX8_drawn_0 rfl ?_
  refine yr_getR (pq := 4) (b := 109) 0 rfl dX8_drawn_1 kF_8_9 (by decide) rfl ?_
  refine yr_bipush (pq := 6) rfl dX8_drawn_4 rfl ?_
  refine yr_aload_n (pq := 7) rfl dX8_drawn_6 rfl ?_
  refine yr_getR (pq := 10) (b := 109) 0 rfl dX8_drawn_7 kF_8_9 (by decide) rfl ?_
  refine yr_bipush (pq := 12) rfl dX8_drawn_10 rfl ?_
  refine yr_iald (pq := 13) rfl dX8_drawn_12 rfl (by decide) (by omega) ?_
  refine yr_ldc (pq := 15) rfl dX8_drawn_13 kN_8_242 ?_
  refine yr_imul (pq := 16) rfl dX8_drawn_15 ?_
  refine yr_sipush (pq := 19) rfl dX8_drawn_16 rfl ?_
  refine yr_iadd (pq := 20) rfl dX8_drawn_19 ?_
  refine yr_iast (pq := 21) rfl dX8_drawn_20 rfl (by decide) (by omega) ?_
  refine yr_aload_n (pq := 22) rfl dX8_drawn_21 rfl ?_
  refine yr_getR (pq := 25) (b := 109) 0 rfl dX8_drawn_22 kF_8_9 (by decide) rfl ?_
  refine yr_bipush (pq := 27) rfl dX8_drawn_25 rfl ?_
  refine yr_iald (pq := 28) rfl dX8_drawn_27 rfl (by decide) (by omega) ?_
  refine yr_bipush (pq := 30) rfl dX8_drawn_28 rfl ?_
  refine yr_iushr (pq := 31) rfl dX8_drawn_30 ?_
  refine yr_iload_n (pq := 32) rfl dX8_drawn_31 rfl ?_
  rw [up_s]
  refine yr_irem (pq := 33) rfl dX8_drawn_32 (by omega) (by omega) ?_
  exact yr_iret dX8_drawn_33 rfl (k _ (fun a ha => up_ne ha) (up_row _ _ _ _))
theorem m_sum {f n : Int} (hf : 0 ≤ f) (hn : 0 ≤ n) (hfn : f + n ≤ 123) (k : K (sumA (fun j => h 109 (f + j)) 0 0 n.toNat) h) : ClI (d + 1) mX8_sum [vr 108, vi f, vi n] h K := by
  have key : ∀ (c : Nat) (i acc : Int), 0 ≤ i → i + c = n → K (sumA (fun j => h 109 (f + j)) acc i c) h → Yr (d + 0) mX8_sum 5 [vr 108, vi f, vi n, vi acc, vi i] [] h (rI K) := by
    intro c
    induction c with
    | zero =>
      intro i acc hi hc kk
      refine yr_iload (pq := 7) rfl dX8_sum_5 rfl ?_
      refine yr_iload_n (pq := 8) rfl dX8_sum_7 rfl ?_
      refine yr_ic_ge (pq := 11) (t := 29) rfl dX8_sum_8 rfl (by omega) (by omega) (fun _ => ?_) (fun q9 => absurd (by omega) q9)
      refine yr_iload_n (pq := 30) rfl dX8_sum_29 rfl ?_
      exact yr_iret dX8_sum_30 rfl (kk)
    | succ c ih =>
      intro i acc hi hc kk
      refine yr_iload (pq := 7) rfl dX8_sum_5 rfl ?_
      refine yr_iload_n (pq := 8) rfl dX8_sum_7 rfl ?_
      refine yr_ic_ge (pq := 11) (t := 29) rfl dX8_sum_8 rfl (by omega) (by omega) (fun q9 => absurd q9 (by omega)) (fun _ => ?_)
      refine yr_iload_n (pq := 12) rfl dX8_sum_11 rfl ?_
      refine yr_aload_n (pq := 13) rfl dX8_sum_12 rfl ?_
      refine yr_getR (pq := 16) (b := 109) 0 rfl dX8_sum_13 kF_8_9 (by decide) rfl ?_
      refine yr_iload_n (pq := 17) rfl dX8_sum_16 rfl ?_
      refine yr_iload (pq := 19) rfl dX8_sum_17 rfl ?_
      refine yr_iadd (pq := 20) rfl dX8_sum_19 ?_
      refine yr_iald (pq := 21) rfl dX8_sum_20 rfl (by decide) (by omega) ?_
      refine yr_iadd (pq := 22) rfl dX8_sum_21 ?_
      refine yr_istore3 (pq := 23) rfl dX8_sum_22 ?_
      refine yr_iinc4 (pq := 26) rfl dX8_sum_23 ?_
      refine yr_goto (t := 5) dX8_sum_26 rfl ?_
      exact ih _ _ (by omega) (by omega) kk
  refine cl_in (al := [vr 108, vi f, vi n, .null, .null]) rfl (Nat.le_of_ble_eq_true rfl) (by simp [vi_cat, vr_cat, vs_cat]) ?_
  refine yr_iconst (pq := 1) rfl dX8_sum_0 ?_
  refine yr_istore3 (pq := 2) rfl dX8_sum_1 ?_
  refine yr_iconst (pq := 3) rfl dX8_sum_2 ?_
  refine yr_istore4 (pq := 5) rfl dX8_sum_3 ?_
  exact key n.toNat 0 0 (by omega) (by omega) k
end MS
