/-! numbers, kinds; an item -/
def nmB (S : tkT) (lo hi : Int) : Bool := decide (S.2.2.1 = 2 ∧ lo ≤ S.2.2.2 ∧ S.2.2.2 ≤ hi)
theorem nmB_t {S : tkT} {lo hi : Int} : nmB S lo hi = true ↔ (S.2.2.1 = 2 ∧ lo ≤ S.2.2.2 ∧ S.2.2.2 ≤ hi) := by unfold nmB; rw [decide_eq_true_eq]
def kwF (k : Int) : Int := if k = 0 then 6 else k - 1
def kdF (t : Int → Int) (S : tkT) : Int := fsM (fun k => wdF t S (kwF k)) 0 7
theorem kw_b {k : Int} (hk : 0 ≤ k ∧ k ≤ 6) : 0 ≤ kwF k ∧ kwF k < 15 := by unfold kwF; split <;> omega
theorem kd_b (t : Int → Int) (S : tkT) : kdF t S = -1 ∨ ((0 ≤ kdF t S ∧ kdF t S ≤ 6) ∧ wdF t S (kwF (kdF t S)) = true) := by
  rcases fsM_b (fun k => wdF t S (kwF k)) 7 0 (by omega) with h | ⟨h1, h2, h3⟩
  · exact Or.inl h
  · exact Or.inr ⟨⟨h1, by unfold kdF; omega⟩, h3⟩
theorem wd_1 {t : Int → Int} {S : tkT} {w : Int} (h : wdF t S w = true) : S.2.2.1 = 1 ∧ S.2.1 - S.1 = ((am_by.getD w.toNat []).length : Int) ∧ mtF t S.1 w 0 (am_by.getD w.toNat []).length = true := by
  unfold wdF at h
  rw [Bool.and_eq_true, decide_eq_true_eq] at h
  exact ⟨h.1.1, h.1.2, h.2⟩
theorem mt_i {t : Int → Int} {b w : Int} : ∀ (n : Nat) (i : Int), mtF t b w i n = true → ∀ j, i ≤ j → j < i + n → t (b + j) = wcF w j := by
  intro n
  induction n with
  | zero => intro i _ j h1 h2; omega
  | succ n ih =>
    intro i h j h1 h2
    rw [mtF, Bool.and_eq_true, decide_eq_true_eq] at h
    by_cases e : j = i
    · subst e; exact h.1
    · exact ih (i + 1) h.2 j (by omega) (by omega)
theorem wd_ne0 : ∀ u v : Fin 15, u ≠ v → (am_by.getD u.val []).length ≠ (am_by.getD v.val []).length ∨ ∃ i : Fin 10, i.val < (am_by.getD u.val []).length ∧ (am_by.getD u.val []).getD i.val 0 ≠ (am_by.getD v.val []).getD i.val 0 := by decide +kernel
/-- a token is one word at most -/
theorem wd_inj {t : Int → Int} {S : tkT} {u v : Int} (hu : 0 ≤ u ∧ u < 15) (hv : 0 ≤ v ∧ v < 15) (h1 : wdF t S u = true) (h2 : wdF t S v = true) : u = v := by
  obtain ⟨-, l1, m1⟩ := wd_1 h1
  obtain ⟨-, l2, m2⟩ := wd_1 h2
  apply Classical.byContradiction
  intro ne
  rcases wd_ne0 ⟨u.toNat, by omega⟩ ⟨v.toNat, by omega⟩ (fun z => ne (by have := Fin.mk.inj z; omega)) with q | ⟨i, q1, q2⟩
  · simp only at q; omega
  · simp only at q1 q2
    have e1 := mt_i _ 0 m1 (i.val : Int) (by omega) (by omega)
    have e2 := mt_i _ 0 m2 (i.val : Int) (by omega) (by omega)
    rw [e1] at e2
    unfold wcF at e2
    rw [Int.toNat_natCast] at e2
    exact q2 (by omega)
theorem kw_inj {i j : Int} (hi : 0 ≤ i ∧ i ≤ 6) (hj : 0 ≤ j ∧ j ≤ 6) (h : kwF i = kwF j) : i = j := by
  unfold kwF at h
  split at h <;> split at h <;> omega
theorem fsM_snoc (p : Int → Bool) : ∀ (n : Nat) (k : Int), 0 ≤ k → fsM p k (n + 1) = if fsM p k n = -1 then (if p (k + n) = true then k + n else -1) else fsM p k n := by
  intro n
  induction n with
  | zero =>
    intro k hk
    simp [fsM]
  | succ n ih =>
    intro k hk
    rw [fsM]
    by_cases q : p k = true
    · have e : fsM p k (n + 1) = k := by rw [fsM, if_pos q]
      rw [if_pos q, e, if_neg (by omega)]
    · have e : fsM p k (n + 1) = fsM p (k + 1) n := by rw [fsM, if_neg q]
      rw [if_neg q, e, ih (k + 1) (by omega), show k + 1 + (n : Int) = k + ((n + 1 : Nat) : Int) by omega]
section TI
variable {d : Nat} {h : hT} {K : Int → hT → Prop} {KV : hT → Prop} {t : Int → Int} {sz : Int} {S : tkT}
theorem c_isNumber {lo hi e : Int} (hC : TC h S) (hK : okK sz e S) (hl : -2147483648 ≤ lo ∧ lo ≤ 2147483647) (hh : -2147483648 ≤ hi ∧ hi ≤ 2147483647) (k1 : nmB S lo hi = true → K 1 h) (k0 : ¬ nmB S lo hi = true → K 0 h) : ClI (d + 2) mX0_isNumber [vr 76, vi lo, vi hi] h K := by
  obtain ⟨c5, c6, c4, c7⟩ := hC
  obtain ⟨-, o4, o5, -⟩ := hK
  rw [nmB_t] at k1 k0
  refine cl_in (al := [vr 76, vi lo, vi hi]) rfl (Nat.le_of_ble_eq_true rfl) (by simp [vi_cat, vr_cat, vs_cat]) ?_
  refine yr_aload_n (pq := 1) rfl dX0_isNumber_0 rfl ?_
  refine yr_getI (pq := 4) 4 rfl dX0_isNumber_1 kF_0_29 (by decide) rfl (by decide) ?_
  refine yr_iconst (pq := 5) rfl dX0_isNumber_4 ?_
  rw [c4]
  refine yr_ic_ne (pq := 8) (t := 24) rfl dX0_isNumber_5 rfl (by omega) (by omega) (fun q1 => ?_) (fun q1 => ?_)
  · refine yr_iconst (pq := 25) rfl dX0_isNumber_24 ?_
    exact yr_zret dX0_isNumber_25 rfl (by first | decide | omega) (k0 (fun z => q1 z.1))
  · refine yr_aload_n (pq := 9) rfl dX0_isNumber_8 rfl ?_
    refine yr_getI (pq := 12) 7 rfl dX0_isNumber_9 kF_0_38 (by decide) rfl (by decide) ?_
    refine yr_iload_n (pq := 13) rfl dX0_isNumber_12 rfl ?_
    refine yr_iload_n (pq := 14) rfl dX0_isNumber_13 rfl ?_
    rw [c7]
    refine yr_sI3 (pq := 17) rfl dX0_isNumber_14 kM_0_146 (by decide) cat0 (c_isIn (by omega) hl hh (fun q2 => ?_) (fun q2 => ?_))
    · refine yr_if_eq (pq := 20) (t := 24) rfl dX0_isNumber_17 rfl (by decide) (fun q9 => absurd q9 (by decide)) (fun _ => ?_)
      refine yr_iconst (pq := 21) rfl dX0_isNumber_20 ?_
      refine yr_goto (t := 25) dX0_isNumber_21 rfl ?_
      exact yr_zret dX0_isNumber_25 rfl (by first | decide | omega) (k1 ⟨q1, q2⟩)
    · refine yr_if_eq (pq := 20) (t := 24) rfl dX0_isNumber_17 rfl (by decide) (fun _ => ?_) (fun q9 => absurd (by decide) q9)
      refine yr_iconst (pq := 25) rfl dX0_isNumber_24 ?_
      exact yr_zret dX0_isNumber_25 rfl (by first | decide | omega) (k0 (fun z => q2 z.2))
theorem c_wordFor {k : Int} {KS : Int → hT → Prop} (hk : 0 ≤ k ∧ k ≤ 6) (kk : KS (kwF k) h) : ClS (d + 1) mX0_wordFor [vi k] h KS := by
  refine cl_in (al := [vi k]) rfl (Nat.le_of_ble_eq_true rfl) (by simp [vi_cat, vr_cat, vs_cat]) ?_
  refine yr_iload_n (pq := 1) rfl dX0_wordFor_0 rfl ?_
  rcases (show k = 0 ∨ k = 1 ∨ k = 2 ∨ k = 3 ∨ k = 4 ∨ k = 5 ∨ k = 6 by omega) with e | e | e | e | e | e | e <;> subst e
  · refine yr_tabO (t := 58) dX0_wordFor_1 (by omega) (by omega) rfl ?_
    refine yr_ldcs (pq := 60) (t := 6) rfl dX0_wordFor_58 kT_0_135 kS_0_135 ?_
    exact yr_sret dX0_wordFor_60 rfl (kk)
  · refine yr_tab (t := 40) dX0_wordFor_1 (by omega) (by omega) (by omega) rfl rfl ?_
    refine yr_ldcs (pq := 42) (t := 0) rfl dX0_wordFor_40 kT_0_123 kS_0_123 ?_
    exact yr_sret dX0_wordFor_42 rfl (kk)
  · refine yr_tab (t := 43) dX0_wordFor_1 (by omega) (by omega) (by omega) rfl rfl ?_
    refine yr_ldcs (pq := 45) (t := 1) rfl dX0_wordFor_43 kT_0_125 kS_0_125 ?_
    exact yr_sret dX0_wordFor_45 rfl (kk)
  · refine yr_tab (t := 46) dX0_wordFor_1 (by omega) (by omega) (by omega) rfl rfl ?_
    refine yr_ldcs (pq := 48) (t := 2) rfl dX0_wordFor_46 kT_0_127 kS_0_127 ?_
    exact yr_sret dX0_wordFor_48 rfl (kk)
  · refine yr_tab (t := 49) dX0_wordFor_1 (by omega) (by omega) (by omega) rfl rfl ?_
    refine yr_ldcs (pq := 51) (t := 3) rfl dX0_wordFor_49 kT_0_129 kS_0_129 ?_
    exact yr_sret dX0_wordFor_51 rfl (kk)
  · refine yr_tab (t := 52) dX0_wordFor_1 (by omega) (by omega) (by omega) rfl rfl ?_
    refine yr_ldcs (pq := 54) (t := 4) rfl dX0_wordFor_52 kT_0_131 kS_0_131 ?_
    exact yr_sret dX0_wordFor_54 rfl (kk)
  · refine yr_tab (t := 55) dX0_wordFor_1 (by omega) (by omega) (by omega) rfl rfl ?_
    refine yr_ldcs (pq := 57) (t := 5) rfl dX0_wordFor_55 kT_0_133 kS_0_133 ?_
    exact yr_sret dX0_wordFor_57 rfl (kk)
theorem c_kindByWord {e : Int} (hTp : TP (h 77) sz t) (e1 : h 76 1 = sz) (hC : TC h S) (he : 0 ≤ e) (hK : okK sz e S) (k : K (kdF t S) h) : ClI (d + 3) mX0_kindByWord [vr 76] h K := by
  have key : ∀ (n : Nat) (i : Int), 0 ≤ i → i + n = 7 → fsM (fun k => wdF t S (kwF k)) i n = kdF t S → Yr (d + 2) mX0_kindByWord 2 [vr 76, vi i] [] h (rI K) := by
    intro n
    induction n with
    | zero =>
      intro i hi hn q
      rw [fsM] at q
      refine yr_iload_n (pq := 3) rfl dX0_kindByWord_2 rfl ?_
      refine yr_bipush (pq := 5) rfl dX0_kindByWord_3 rfl ?_
      refine yr_ic_ge (pq := 8) (t := 27) rfl dX0_kindByWord_5 rfl (by omega) (by omega) (fun _ => ?_) (fun q9 => absurd (by omega) q9)
      refine yr_iconst (pq := 28) rfl dX0_kindByWord_27 ?_
      rw [q]
      exact yr_iret dX0_kindByWord_28 rfl (k)
    | succ n ih =>
      intro i hi hn q
      rw [fsM] at q
      refine yr_iload_n (pq := 3) rfl dX0_kindByWord_2 rfl ?_
      refine yr_bipush (pq := 5) rfl dX0_kindByWord_3 rfl ?_
      refine yr_ic_ge (pq := 8) (t := 27) rfl dX0_kindByWord_5 rfl (by omega) (by omega) (fun q9 => absurd q9 (by omega)) (fun _ => ?_)
      refine yr_aload_n (pq := 9) rfl dX0_kindByWord_8 rfl ?_
      refine yr_iload_n (pq := 10) rfl dX0_kindByWord_9 rfl ?_
      refine yr_sS1 (pq := 13) rfl dX0_kindByWord_10 kM_0_119 (by decide) (Nat.le_of_ble_eq_true rfl) (c_wordFor (by omega) ?_)
      refine yr_vI1 (pq := 16) rfl dX0_kindByWord_13 kM_0_77 (by decide) (by decide) cat0 (c_isWord (kw_b (by omega)) hTp e1 hC he hK (fun q2 => ?_) (fun q2 => ?_))
      · rw [if_pos q2] at q
        refine yr_if_eq (pq := 19) (t := 21) rfl dX0_kindByWord_16 rfl (by decide) (fun q9 => absurd q9 (by decide)) (fun _ => ?_)
        refine yr_iload_n (pq := 20) rfl dX0_kindByWord_19 rfl ?_
        rw [q]
        exact yr_iret dX0_kindByWord_20 rfl (k)
      · rw [if_neg q2] at q
        refine yr_if_eq (pq := 19) (t := 21) rfl dX0_kindByWord_16 rfl (by decide) (fun _ => ?_) (fun q9 => absurd (by decide) q9)
        refine yr_iinc1 (pq := 24) rfl dX0_kindByWord_21 ?_
        refine yr_goto (t := 2) dX0_kindByWord_24 rfl ?_
        exact ih _ (by omega) (by omega) q
  refine cl_in (al := [vr 76, .null]) rfl (Nat.le_of_ble_eq_true rfl) (by simp [vi_cat, vr_cat, vs_cat]) ?_
  refine yr_iconst (pq := 1) rfl dX0_kindByWord_0 ?_
  refine yr_istore1 (pq := 2) rfl dX0_kindByWord_1 ?_
  exact key 7 0 (by omega) (by omega) rfl
theorem vr_vs {w : Int} (hw : 0 ≤ w) : vr (1000000 + w) = vs w := by
  unfold vr vs
  rw [show (1000000 + w).toNat = 1000000 + w.toNat by omega]
theorem kn_sk0 : ∀ k : Fin 7, am_sk (117 : Int).toNat k.val = some (1000000 + (if k.val = 0 then 6 else k.val - 1)) := by decide +kernel
theorem kn_sk {k : Int} (hk : 0 ≤ k ∧ k ≤ 6) : am_sk (117 : Int).toNat k.toNat = some (1000000 + kwF k).toNat := by
  have := kn_sk0 ⟨k.toNat, by omega⟩
  simp only at this
  rw [this]
  unfold kwF
  congr 1
  split <;> split <;> omega
theorem m_kindTold {e : Int} (hTp : TP (h 116) sz t) (hC : TM h S) (he : 0 ≤ e) (hK : okK sz e S) (k : K (kdF t S) h) : ClI (d + 2) mX8_kindTold [vr 108] h K := by
  have key : ∀ (n i : Nat), i + n = 7 → Yr (d + 1) mX8_kindTold 4 [vr 108, vi (fsM (fun k => wdF t S (kwF k)) 0 i), vi (i : Int)] [] h (rI K) := by
    intro n
    induction n with
    | zero =>
      intro i hi
      have hi : i = 7 := by omega
      subst hi
      refine yr_iload_n (pq := 5) rfl dX8_kindTold_4 rfl ?_
      refine yr_aload_n (pq := 6) rfl dX8_kindTold_5 rfl ?_
      refine yr_getR (pq := 9) (b := 117) 22 rfl dX8_kindTold_6 kF_8_54 (by decide) rfl ?_
      refine yr_alen (pq := 10) rfl dX8_kindTold_9 rfl (by decide) ?_
      refine yr_ic_ge (pq := 13) (t := 38) rfl dX8_kindTold_10 rfl (by omega) (by omega) (fun _ => ?_) (fun q9 => absurd (by omega) q9)
      refine yr_iload_n (pq := 39) rfl dX8_kindTold_38 rfl ?_
      exact yr_iret dX8_kindTold_39 rfl (k)
    | succ n ih =>
      intro i hi
      have ih := ih (i + 1) (by omega)
      rw [fsM_snoc _ i 0 (by omega), Int.zero_add] at ih
      have sn : am_sk (117 : Int).toNat (i : Int).toNat = some (1000000 + kwF (i : Int)).toNat := kn_sk (by omega)
      have kb := kw_b (k := (i : Int)) (by omega)
      refine yr_iload_n (pq := 5) rfl dX8_kindTold_4 rfl ?_
      refine yr_aload_n (pq := 6) rfl dX8_kindTold_5 rfl ?_
      refine yr_getR (pq := 9) (b := 117) 22 rfl dX8_kindTold_6 kF_8_54 (by decide) rfl ?_
      refine yr_alen (pq := 10) rfl dX8_kindTold_9 rfl (by decide) ?_
      refine yr_ic_ge (pq := 13) (t := 38) rfl dX8_kindTold_10 rfl (by omega) (by omega) (fun q9 => absurd q9 (by omega)) (fun _ => ?_)
      refine yr_aload_n (pq := 14) rfl dX8_kindTold_13 rfl ?_
      refine yr_aload_n (pq := 15) rfl dX8_kindTold_14 rfl ?_
      refine yr_getR (pq := 18) (b := 117) 22 rfl dX8_kindTold_15 kF_8_54 (by decide) rfl ?_
      refine yr_iload_n (pq := 19) rfl dX8_kindTold_18 rfl ?_
      refine yr_aald (pq := 20) (a := 117) (b := 1000000 + kwF (i : Int)) (L := 7) (t := 3) rfl dX8_kindTold_19 rfl (by decide) (by omega) sn ?_
      rw [vr_vs kb.1]
      refine yr_vI1 (pq := 23) rfl dX8_kindTold_20 kM_8_291 (by decide) (by decide) cat0 (m_isWord kb hTp hC he hK (fun q2 => ?_) (fun q2 => ?_))
      · have e1 : fsM (fun k => wdF t S (kwF k)) 0 i = -1 := by
          rcases fsM_b (fun k => wdF t S (kwF k)) i 0 (by omega) with z | ⟨z1, z2, z3⟩
          · exact z
          · have := wd_inj (kw_b (by omega)) kb z3 q2
            have := kw_inj (by omega) (by omega) this
            omega
        rw [if_pos e1, if_pos q2] at ih
        refine yr_if_eq (pq := 26) (t := 30) rfl dX8_kindTold_23 rfl (by decide) (fun q9 => absurd q9 (by decide)) (fun _ => ?_)
        refine yr_iload_n (pq := 27) rfl dX8_kindTold_26 rfl ?_
        refine yr_goto (t := 31) dX8_kindTold_27 rfl ?_
        refine yr_istore1 (pq := 32) rfl dX8_kindTold_31 ?_
        refine yr_iinc2 (pq := 35) rfl dX8_kindTold_32 ?_
        refine yr_goto (t := 4) dX8_kindTold_35 rfl ?_
        exact ih
      · rw [if_neg q2] at ih
        have e2 : (if fsM (fun k => wdF t S (kwF k)) 0 i = -1 then -1 else fsM (fun k => wdF t S (kwF k)) 0 i) = fsM (fun k => wdF t S (kwF k)) 0 i := by
          split
          · omega
          · rfl
        rw [e2] at ih
        refine yr_if_eq (pq := 26) (t := 30) rfl dX8_kindTold_23 rfl (by decide) (fun _ => ?_) (fun q9 => absurd (by decide) q9)
        refine yr_iload_n (pq := 31) rfl dX8_kindTold_30 rfl ?_
        refine yr_istore1 (pq := 32) rfl dX8_kindTold_31 ?_
        refine yr_iinc2 (pq := 35) rfl dX8_kindTold_32 ?_
        refine yr_goto (t := 4) dX8_kindTold_35 rfl ?_
        exact ih
  refine cl_in (al := [vr 108, .null, .null]) rfl (Nat.le_of_ble_eq_true rfl) (by simp [vi_cat, vr_cat, vs_cat]) ?_
  refine yr_iconst (pq := 1) rfl dX8_kindTold_0 ?_
  refine yr_istore1 (pq := 2) rfl dX8_kindTold_1 ?_
  refine yr_iconst (pq := 3) rfl dX8_kindTold_2 ?_
  refine yr_istore2 (pq := 4) rfl dX8_kindTold_3 ?_
  exact key 7 0 (by omega)
end TI
