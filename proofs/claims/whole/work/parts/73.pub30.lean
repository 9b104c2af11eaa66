/-! reach -/
/-- what one goes to from the corners of m below c, with what is there -/
def rcP (N : Int → Int) (m : Nat) (w : Nat) : Nat → Nat
  | 0 => w
  | c + 1 => if m.testBit c = true then rcP N m w c ||| mkS (nbP N (-1) (c : Int)) 8 else rcP N m w c
def rcF (N : Int → Int) (m : Nat) : Nat := rcP N m m 8
def rcI (N : Int → Int) : Nat → Nat → Nat
  | 0, m => m
  | n + 1, m => rcF N (rcI N n m)
theorem rcP_lt {N : Int → Int} {m w : Nat} (hw : w < 256) : ∀ c, rcP N m w c < 256 := by
  intro c
  induction c with
  | zero => exact hw
  | succ c ih =>
    rw [rcP]
    split
    · exact Nat.or_lt_two_pow (n := 8) ih (mkS_lt _ 8)
    · exact ih
theorem rcP_sub {N : Int → Int} {m w : Nat} (i : Nat) (hi : w.testBit i = true) : ∀ c, (rcP N m w c).testBit i = true := by
  intro c
  induction c with
  | zero => exact hi
  | succ c ih =>
    rw [rcP]
    split
    · rw [Nat.testBit_or, ih]; rfl
    · exact ih
def bit8 (m : Nat) : Nat := (m.testBit 0).toNat + (m.testBit 1).toNat + (m.testBit 2).toNat + (m.testBit 3).toNat + (m.testBit 4).toNat + (m.testBit 5).toNat + (m.testBit 6).toNat + (m.testBit 7).toNat
theorem tn_le {a b : Bool} (h : a = true → b = true) : a.toNat ≤ b.toNat := by
  cases a
  · exact Nat.zero_le _
  · rw [h rfl]; exact Nat.le_refl _
theorem tn_b (a : Bool) : a.toNat ≤ 1 := by cases a <;> decide
theorem tn_inj {a b : Bool} (h : a.toNat = b.toNat) : a = b := by cases a <;> cases b <;> first | rfl | exact absurd h (by decide)
theorem bit8_b (m : Nat) : bit8 m ≤ 8 := by
  have h0 := tn_b (m.testBit 0)
  have h1 := tn_b (m.testBit 1)
  have h2 := tn_b (m.testBit 2)
  have h3 := tn_b (m.testBit 3)
  have h4 := tn_b (m.testBit 4)
  have h5 := tn_b (m.testBit 5)
  have h6 := tn_b (m.testBit 6)
  have h7 := tn_b (m.testBit 7)
  unfold bit8
  omega
theorem bit8_s {m n : Nat} (hm : m < 256) (hn : n < 256) (hs : ∀ i, m.testBit i = true → n.testBit i = true) (ne : n ≠ m) : bit8 m < bit8 n := by
  have h0 := tn_le (hs 0)
  have h1 := tn_le (hs 1)
  have h2 := tn_le (hs 2)
  have h3 := tn_le (hs 3)
  have h4 := tn_le (hs 4)
  have h5 := tn_le (hs 5)
  have h6 := tn_le (hs 6)
  have h7 := tn_le (hs 7)
  refine Nat.lt_of_not_le (fun hle => ne ?_)
  unfold bit8 at hle
  refine Nat.eq_of_testBit_eq (fun i => ?_)
  by_cases q : i < 8
  · have hi : i = 0 ∨ i = 1 ∨ i = 2 ∨ i = 3 ∨ i = 4 ∨ i = 5 ∨ i = 6 ∨ i = 7 := by omega
    rcases hi with e | e | e | e | e | e | e | e <;> subst e <;> exact tn_inj (by omega)
  · have hp : (2 : Nat) ^ 8 ≤ 2 ^ i := Nat.pow_le_pow_right (n := 2) (by decide) (show 8 ≤ i by omega)
    rw [Nat.testBit_lt_two_pow (show n < 2 ^ i by omega), Nat.testBit_lt_two_pow (show m < 2 ^ i by omega)]
theorem rcF_lt {N : Int → Int} {m : Nat} (hm : m < 256) : rcF N m < 256 := rcP_lt hm 8
theorem rcI_lt {N : Int → Int} {m : Nat} (hm : m < 256) : ∀ n, rcI N n m < 256 := by
  intro n
  induction n with
  | zero => exact hm
  | succ n ih => exact rcF_lt ih
theorem rcF_s {N : Int → Int} {m : Nat} (hm : m < 256) (ne : rcF N m ≠ m) : bit8 m < bit8 (rcF N m) := bit8_s hm (rcF_lt hm) (fun i hi => rcP_sub i hi 8) ne
/-- it stands from some step on -/
theorem rcI_st {N : Int → Int} {m : Nat} : ∀ (k n : Nat), rcF N (rcI N n m) = rcI N n m → rcI N (n + k) m = rcI N n m := by
  intro k
  induction k with
  | zero => intro n _; rfl
  | succ k ih =>
    intro n h
    show rcF N (rcI N (n + k) m) = rcI N n m
    rw [ih n h]; exact h
theorem rcI_g {N : Int → Int} {m : Nat} (hm : m < 256) : ∀ n, (∀ k, k < n → rcF N (rcI N k m) ≠ rcI N k m) → bit8 m + n ≤ bit8 (rcI N n m) := by
  intro n
  induction n with
  | zero => intro _; exact Nat.le_refl _
  | succ n ih =>
    intro h
    have h1 := ih (fun k hk => h k (by omega))
    have h2 := rcF_s (rcI_lt hm n) (h n (by omega))
    show bit8 m + (n + 1) ≤ bit8 (rcF N (rcI N n m))
    omega
theorem rcI_7 {N : Int → Int} {m : Nat} (hm : m < 256) (h1 : 1 ≤ bit8 m) : rcF N (rcI N 7 m) = rcI N 7 m := by
  apply Classical.byContradiction
  intro ne
  have hk : ∀ k, k < 8 → rcF N (rcI N k m) ≠ rcI N k m := by
    intro k hk e
    have s := rcI_st (7 - k) k e
    rw [show k + (7 - k) = 7 by omega] at s
    rw [s] at ne
    exact ne e
  have := rcI_g hm 8 hk
  have := bit8_b (rcI N 8 m)
  omega
theorem bit8_1 : ∀ c : Fin 8, 1 ≤ bit8 (2 ^ c.val) ∧ 2 ^ c.val < 256 ∧ 2 ^ c.val ≠ 0 := by decide +kernel
section S30
variable {d : Nat} {h : hT} {K : Int → hT → Prop}
theorem m_reach {N : Int → Int} {c : Nat} (hB : RB h N) (hO : okT N) (hc : N 49 = (c : Int)) (hc8 : c < 8) (k : K ((rcI N 7 (2 ^ c) : Nat) : Int) h) : ClI (d + 5) mX8_reach [vr 108] h K := by
  obtain ⟨e9, h5⟩ := hB
  subst e9
  obtain ⟨b1, b2, b3⟩ := bit8_1 ⟨c, hc8⟩
  simp only at b1 b2 b3
  have fix := rcI_7 (N := h 109) b2 b1
  have inner : ∀ (n i m : Nat), i + n = 8 → m < 256 → (∀ x, Yr (d + 4) mX8_reach 12 [vr 108, vi (m : Int), vi ((rcF (h 109) m : Nat) : Int), x] [] h (rI K)) → Yr (d + 4) mX8_reach 21 [vr 108, vi (m : Int), vi ((rcP (h 109) m m i : Nat) : Int), vi (i : Int)] [] h (rI K) := by
    intro n
    induction n with
    | zero =>
      intro i m hi hm kk
      have hi : i = 8 := by omega
      subst hi
      refine yr_iload_n (pq := 22) rfl dX8_reach_21 rfl ?_
      refine yr_bipush (pq := 24) rfl dX8_reach_22 rfl ?_
      refine yr_ic_ge (pq := 27) (t := 53) rfl dX8_reach_24 rfl (by omega) (by omega) (fun _ => ?_) (fun q9 => absurd (by omega) q9)
      refine yr_goto (t := 12) dX8_reach_53 rfl ?_
      exact kk _
    | succ n ih =>
      intro i m hi hm kk
      have hp := rcP_lt (N := h 109) (m := m) hm i
      have hq := mkS_lt (nbP (h 109) (-1) (i : Int)) 8
      have ih := ih (i + 1) m (by omega) hm kk
      rw [rcP] at ih
      refine yr_iload_n (pq := 22) rfl dX8_reach_21 rfl ?_
      refine yr_bipush (pq := 24) rfl dX8_reach_22 rfl ?_
      refine yr_ic_ge (pq := 27) (t := 53) rfl dX8_reach_24 rfl (by omega) (by omega) (fun q9 => absurd q9 (by omega)) (fun _ => ?_)
      refine yr_iload_n (pq := 28) rfl dX8_reach_27 rfl ?_
      refine yr_iload_n (pq := 29) rfl dX8_reach_28 rfl ?_
      refine yr_iload_n (pq := 30) rfl dX8_reach_29 rfl ?_
      refine yr_sI2 (pq := 33) rfl dX8_reach_30 kM_8_185 (by decide) (Nat.le_of_ble_eq_true rfl) (m_has (by omega) (by omega) (fun q => ?_) (fun q => ?_))
      · rw [if_pos q] at ih
        refine yr_if_eq (pq := 36) (t := 44) rfl dX8_reach_33 rfl (by decide) (fun q9 => absurd q9 (by decide)) (fun _ => ?_)
        refine yr_aload_n (pq := 37) rfl dX8_reach_36 rfl ?_
        refine yr_iload_n (pq := 38) rfl dX8_reach_37 rfl ?_
        refine yr_vI1 (pq := 41) rfl dX8_reach_38 kM_8_141 (by decide) (by decide) (Nat.le_of_ble_eq_true rfl) (m_nextTo (w := -1) hO h5 (by decide) (by omega) ?_)
        refine yr_goto (t := 45) dX8_reach_41 rfl ?_
        refine yr_ior (pq := 46) rfl dX8_reach_45 ?_
        refine yr_istore2 (pq := 47) rfl dX8_reach_46 ?_
        refine yr_iinc3 (pq := 50) rfl dX8_reach_47 ?_
        refine yr_goto (t := 21) dX8_reach_50 rfl ?_
        unfold nbF
        rw [io_nat (by omega) (by omega)]
        exact ih
      · rw [if_neg q] at ih
        refine yr_if_eq (pq := 36) (t := 44) rfl dX8_reach_33 rfl (by decide) (fun _ => ?_) (fun q9 => absurd (by decide) q9)
        refine yr_iconst (pq := 45) rfl dX8_reach_44 ?_
        refine yr_ior (pq := 46) rfl dX8_reach_45 ?_
        refine yr_istore2 (pq := 47) rfl dX8_reach_46 ?_
        refine yr_iinc3 (pq := 50) rfl dX8_reach_47 ?_
        refine yr_goto (t := 21) dX8_reach_50 rfl ?_
        rw [io_z (by omega)]
        exact ih
  have outer : ∀ (n k s : Nat), k + n = 8 → s < 256 → (k = 0 → s = 0) → (∀ j, k = j + 1 → s = rcI (h 109) j (2 ^ c)) → ∀ x, Yr (d + 4) mX8_reach 12 [vr 108, vi (s : Int), vi ((rcI (h 109) k (2 ^ c) : Nat) : Int), x] [] h (rI K) := by
    intro n
    induction n with
    | zero =>
      intro k s hk hs h0 h1 x
      have e := h1 7 (by omega)
      have hk : k = 8 := by omega
      subst hk
      subst e
      have l7 := rcI_lt (N := h 109) b2 7
      have e8 : rcI (h 109) 8 (2 ^ c) = rcI (h 109) 7 (2 ^ c) := fix
      rw [e8]
      refine yr_iload_n (pq := 13) rfl dX8_reach_12 rfl ?_
      refine yr_iload_n (pq := 14) rfl dX8_reach_13 rfl ?_
      refine yr_ic_eq (pq := 17) (t := 56) rfl dX8_reach_14 rfl (by omega) (by omega) (fun _ => ?_) (fun q9 => absurd (by rfl) q9)
      refine yr_iload_n (pq := 57) rfl dX8_reach_56 rfl ?_
      exact yr_iret dX8_reach_57 rfl (k)
    | succ n ih =>
      intro k s hk hs h0 h1 x
      have lk := rcI_lt (N := h 109) b2 k
      refine yr_iload_n (pq := 13) rfl dX8_reach_12 rfl ?_
      refine yr_iload_n (pq := 14) rfl dX8_reach_13 rfl ?_
      refine yr_ic_eq (pq := 17) (t := 56) rfl dX8_reach_14 rfl (by omega) (by omega) (fun q => ?_) (fun q => ?_)
      · have q' : rcI (h 109) k (2 ^ c) = s := by omega
        have hk1 : k ≠ 0 := by
          intro e
          subst e
          rw [h0 rfl] at q'
          exact b3 q'
        obtain ⟨j, rfl⟩ : ∃ j, k = j + 1 := ⟨k - 1, by omega⟩
        have e := h1 j rfl
        have fx : rcF (h 109) (rcI (h 109) j (2 ^ c)) = rcI (h 109) j (2 ^ c) := by
          rw [e] at q'
          exact q'
        have s7 := rcI_st (7 - j) j fx
        rw [show j + (7 - j) = 7 by omega] at s7
        rw [e, ← s7]
        refine yr_iload_n (pq := 57) rfl dX8_reach_56 rfl ?_
        exact yr_iret dX8_reach_57 rfl (k)
      · refine yr_iload_n (pq := 18) rfl dX8_reach_17 rfl ?_
        refine yr_istore1 (pq := 19) rfl dX8_reach_18 ?_
        refine yr_iconst (pq := 20) rfl dX8_reach_19 ?_
        refine yr_istore3 (pq := 21) rfl dX8_reach_20 ?_
        have := inner 8 0 (rcI (h 109) k (2 ^ c)) (by omega) lk (fun x => ih (k + 1) (rcI (h 109) k (2 ^ c)) (by omega) lk (by omega) (fun j hj => by
          have : j = k := by omega
          subst this; rfl) x)
        exact this
  refine cl_in (al := [vr 108, .null, .null, .null]) rfl (Nat.le_of_ble_eq_true rfl) (by simp [vi_cat, vr_cat, vs_cat]) ?_
  refine yr_iconst (pq := 1) rfl dX8_reach_0 ?_
  refine yr_istore1 (pq := 2) rfl dX8_reach_1 ?_
  refine yr_iconst (pq := 3) rfl dX8_reach_2 ?_
  refine yr_aload_n (pq := 4) rfl dX8_reach_3 rfl ?_
  refine yr_getR (pq := 7) (b := 109) 0 rfl dX8_reach_4 kF_8_9 (by decide) rfl ?_
  refine yr_bipush (pq := 9) rfl dX8_reach_7 rfl ?_
  refine yr_iald (pq := 10) rfl dX8_reach_9 rfl (by decide) (by omega) ?_
  refine yr_ishl (pq := 11) rfl dX8_reach_10 ?_
  refine yr_istore2 (pq := 12) rfl dX8_reach_11 ?_
  rw [hc, il_nat (by omega)]
  exact outer 8 0 0 (by omega) (by omega) (fun _ => rfl) (fun j hj => by omega) _
theorem s_reach (hI : Inv h) : Sm (d + 30) mX7_reach mX8_reach [] h := by
  have hI0 := hI
  obtain ⟨⟨i1, i2, i3, i3'⟩, -, -, -, -, -, i11⟩ := hI0
  have a2 := i3.2.1
  obtain ⟨c, hc⟩ := Int.eq_ofNat_of_zero_le a2.1
  obtain ⟨b1, b2, b3⟩ := bit8_1 ⟨c, by omega⟩
  simp only at b1 b2 b3
  have inner : ∀ (n i p m : Nat), i + n = 8 → m < 256 → (∀ x, Yr (d + 29) mX7_reach 15 [vr 0, vi ((rcF (h 109) m : Nat) : Int), vi ((p + 1 : Nat) : Int), vi ((rcF (h 109) m : Nat) : Int), x] [] h (rI (SKn (d + 30) mX8_reach [vr 108]))) → p ≤ 7 → Yr (d + 29) mX7_reach 26 [vr 0, vi (m : Int), vi (p : Int), vi ((rcP (h 109) m m i : Nat) : Int), vi (i : Int)] [] h (rI (SKn (d + 30) mX8_reach [vr 108])) := by
    intro n
    induction n with
    | zero =>
      intro i p m hi hm kk hp
      have hi : i = 8 := by omega
      subst hi
      refine yr_iload (pq := 28) rfl dX7_reach_26 rfl ?_
      refine yr_bipush (pq := 30) rfl dX7_reach_28 rfl ?_
      refine yr_ic_ge (pq := 33) (t := 63) rfl dX7_reach_30 rfl (by omega) (by omega) (fun _ => ?_) (fun q9 => absurd (by omega) q9)
      refine yr_iload_n (pq := 64) rfl dX7_reach_63 rfl ?_
      refine yr_istore1 (pq := 65) rfl dX7_reach_64 ?_
      refine yr_iinc2 (pq := 68) rfl dX7_reach_65 ?_
      refine yr_goto (t := 15) dX7_reach_68 rfl ?_
      exact kk _
    | succ n ih =>
      intro i p m hi hm kk hp7
      have hp := rcP_lt (N := h 109) (m := m) hm i
      have hq := mkS_lt (nbP (h 109) (-1) (i : Int)) 8
      have ih := ih (i + 1) p m (by omega) hm kk hp7
      rw [rcP] at ih
      refine yr_iload (pq := 28) rfl dX7_reach_26 rfl ?_
      refine yr_bipush (pq := 30) rfl dX7_reach_28 rfl ?_
      refine yr_ic_ge (pq := 33) (t := 63) rfl dX7_reach_30 rfl (by omega) (by omega) (fun q9 => absurd q9 (by omega)) (fun _ => ?_)
      refine yr_iload_n (pq := 34) rfl dX7_reach_33 rfl ?_
      refine yr_iload (pq := 36) rfl dX7_reach_34 rfl ?_
      refine yr_sI2 (pq := 39) rfl dX7_reach_36 kM_7_234 (by decide) cat0 (c_isInSet (by omega) (by omega) (fun q => ?_) (fun q => ?_))
      · rw [if_pos q] at ih
        refine yr_if_eq (pq := 42) (t := 57) rfl dX7_reach_39 rfl (by decide) (fun q9 => absurd q9 (by decide)) (fun _ => ?_)
        refine yr_iload_n (pq := 43) rfl dX7_reach_42 rfl ?_
        refine yr_aload_n (pq := 44) rfl dX7_reach_43 rfl ?_
        refine yr_getR (pq := 47) (b := 1) 0 rfl dX7_reach_44 kF_7_10 (by decide) rfl ?_
        refine yr_getR (pq := 50) (b := 2) 0 rfl dX7_reach_47 kF_7_70 (by decide) rfl ?_
        refine yr_iload (pq := 52) rfl dX7_reach_50 rfl ?_
        refine yr_vI1 (pq := 55) rfl dX7_reach_52 kM_7_148 (by decide) (tw_c (by decide)) (Nat.le_of_ble_eq_true rfl) (c_neighbours (T := 2) (N := h 109) (by decide) i1.1 i2 (by omega) ?_)
        refine yr_ior (pq := 56) rfl dX7_reach_55 ?_
        refine yr_istore3 (pq := 57) rfl dX7_reach_56 ?_
        refine yr_iinc4 (pq := 60) rfl dX7_reach_57 ?_
        refine yr_goto (t := 26) dX7_reach_60 rfl ?_
        unfold nbF
        rw [io_nat (by omega) (by omega)]
        exact ih
      · rw [if_neg q] at ih
        refine yr_if_eq (pq := 42) (t := 57) rfl dX7_reach_39 rfl (by decide) (fun _ => ?_) (fun q9 => absurd (by decide) q9)
        refine yr_iinc4 (pq := 60) rfl dX7_reach_57 ?_
        refine yr_goto (t := 26) dX7_reach_60 rfl ?_
        exact ih
  have outer : ∀ (n k : Nat), k + n = 7 → ∀ x y, Yr (d + 29) mX7_reach 15 [vr 0, vi ((rcI (h 109) k (2 ^ c) : Nat) : Int), vi ((k + 1 : Nat) : Int), x, y] [] h (rI (SKn (d + 30) mX8_reach [vr 108])) := by
    intro n
    induction n with
    | zero =>
      intro k hk x y
      have hk : k = 7 := by omega
      subst hk
      refine yr_iload_n (pq := 16) rfl dX7_reach_15 rfl ?_
      refine yr_bipush (pq := 18) rfl dX7_reach_16 rfl ?_
      refine yr_ic_ge (pq := 21) (t := 71) rfl dX7_reach_18 rfl (by omega) (by omega) (fun _ => ?_) (fun q9 => absurd (by omega) q9)
      refine yr_iload_n (pq := 72) rfl dX7_reach_71 rfl ?_
      exact yr_iret dX7_reach_72 rfl (m_reach (rb_0 hI) i2 hc (by omega) ⟨rfl, hI⟩)
    | succ n ih =>
      intro k hk x y
      have lk := rcI_lt (N := h 109) b2 k
      refine yr_iload_n (pq := 16) rfl dX7_reach_15 rfl ?_
      refine yr_bipush (pq := 18) rfl dX7_reach_16 rfl ?_
      refine yr_ic_ge (pq := 21) (t := 71) rfl dX7_reach_18 rfl (by omega) (by omega) (fun q9 => absurd q9 (by omega)) (fun _ => ?_)
      refine yr_iload_n (pq := 22) rfl dX7_reach_21 rfl ?_
      refine yr_istore3 (pq := 23) rfl dX7_reach_22 ?_
      refine yr_iconst (pq := 24) rfl dX7_reach_23 ?_
      refine yr_istore4 (pq := 26) rfl dX7_reach_24 ?_
      exact inner 8 0 (k + 1) (rcI (h 109) k (2 ^ c)) (by omega) lk (fun x => ih (k + 1) (by omega) _ x) (by omega)
  show ClI (d + 30) mX7_reach [vr 0] h (SKn (d + 30) mX8_reach [vr 108])
  refine cl_in (al := [vr 0, .null, .null, .null, .null]) rfl (Nat.le_of_ble_eq_true rfl) (by simp [vi_cat, vr_cat, vs_cat]) ?_
  refine yr_iconst (pq := 1) rfl dX7_reach_0 ?_
  refine yr_aload_n (pq := 2) rfl dX7_reach_1 rfl ?_
  refine yr_getR (pq := 5) (b := 1) 0 rfl dX7_reach_2 kF_7_10 (by decide) rfl ?_
  refine yr_getR (pq := 8) (b := 22) 1 rfl dX7_reach_5 kF_7_135 (by decide) rfl ?_
  refine yr_getI (pq := 11) 2 rfl dX7_reach_8 kF_7_160 (by decide) rfl (by decide) ?_
  refine yr_ishl (pq := 12) rfl dX7_reach_11 ?_
  refine yr_istore1 (pq := 13) rfl dX7_reach_12 ?_
  refine yr_iconst (pq := 14) rfl dX7_reach_13 ?_
  refine yr_istore2 (pq := 15) rfl dX7_reach_14 ?_
  rw [i1.2.2.2.1, hc, il_nat (by omega)]
  exact outer 7 0 (by omega) _ _
end S30
