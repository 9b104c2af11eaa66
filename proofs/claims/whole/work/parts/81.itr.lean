/-! the reference reads an item -/
def MS (t : Int → Int) (sz : Int) (h : hT) (S : tkT) (w : Int) : Prop := TP (h 116) sz t ∧ h 108 16 = sz ∧ TM h S ∧ okK sz 0 S ∧ h 108 21 = w
def MW (h g : hT) : Prop := (∀ a, a ≠ 108 → g a = h a) ∧ ∀ j, (j < 17 ∨ 21 < j) → g 108 j = h 108 j
theorem MW_r (h : hT) : MW h h := ⟨fun _ _ => rfl, fun _ _ => rfl⟩
theorem MW_t {h g f : hT} (a : MW h g) (b : MW g f) : MW h f := ⟨fun x q => (b.1 x q).trans (a.1 x q), fun j q => (b.2 j q).trans (a.2 j q)⟩
/-- what the reference's reading leaves -/
def MR (h g : hT) : Prop := (∀ a, a ≠ 108 → a ≠ 118 → g a = h a) ∧ ∀ j, (j < 17 ∨ 26 < j) → g 108 j = h 108 j
theorem MR_t {h g f : hT} (a : MR h g) (b : MR g f) : MR h f := ⟨fun x q r => (b.1 x q r).trans (a.1 x q r), fun j q => (b.2 j q).trans (a.2 j q)⟩
theorem MR_w {h g : hT} (a : MW h g) : MR h g := ⟨fun x q _ => a.1 x q, fun j q => a.2 j (by omega)⟩
theorem MR_u {h : hT} {j z : Int} (hj : 22 ≤ j ∧ j ≤ 26) : MR h (up h 108 j z) := ⟨fun x q _ => up_ne q, fun i hi => up_k (by omega)⟩
theorem MS_f {t : Int → Int} {sz w : Int} {h g : hT} {S : tkT} (H : MS t sz h S w) (a : ∀ j, 16 ≤ j → j ≤ 21 → g 108 j = h 108 j) (b : g 116 = h 116) : MS t sz g S w := by
  obtain ⟨h1, h2, h3, h4, h5⟩ := H
  refine ⟨by rw [b]; exact h1, by rw [a 16 (by decide) (by decide)]; exact h2, ?_, h4, by rw [a 21 (by decide) (by decide)]; exact h5⟩
  unfold TM
  rw [a 17 (by decide) (by decide), a 18 (by decide) (by decide), a 19 (by decide) (by decide), a 20 (by decide) (by decide)]
  exact h3
/-- a row of what was told -/
def soF (P : Int → Int) (w a b c e : Int) : Int → Int := if w = 10 then ur P (20 + a) b else if w = 11 then ur P (32 + a) b else if w = 12 then ur P (0 + a) b else if w = 13 then ur P 44 a else addN P w a b c e
def soR (f : Int → Int) (k : Int) (P : Int → Int) : Int → Int := soF P (f (5 * k)) (f (5 * k + 1)) (f (5 * k + 2)) (f (5 * k + 3)) (f (5 * k + 4))
def okF (P : Int → Int) (w a b c e : Int) : Prop := (w = 10 ∧ (0 ≤ a ∧ a ≤ 11) ∧ (0 ≤ b ∧ b ≤ 9)) ∨ (w = 11 ∧ (0 ≤ a ∧ a ≤ 11) ∧ (0 ≤ b ∧ b ≤ 9)) ∨ (w = 12 ∧ (0 ≤ a ∧ a ≤ 7) ∧ (0 ≤ b ∧ b ≤ 3)) ∨ (w = 13 ∧ (0 ≤ a ∧ a ≤ 1)) ∨ ((0 ≤ w ∧ w ≤ 6) ∧ P 8 < 14 ∧ (0 ≤ a ∧ a ≤ 7) ∧ (0 ≤ b ∧ b ≤ 7) ∧ a ≠ b ∧ (1 ≤ c ∧ c ≤ 20) ∧ (0 ≤ e ∧ e ≤ 1))
def okR (f : Int → Int) (k : Int) (P : Int → Int) : Prop := okF P (f (5 * k)) (f (5 * k + 1)) (f (5 * k + 2)) (f (5 * k + 3)) (f (5 * k + 4))
/-- rows m to m' of f make P' of P -/
def RX (f : Int → Int) (m : Int) (P : Int → Int) (m' : Int) (P' : Int → Int) : Prop := (m' = m ∧ P' = P) ∨ (m' = m + 1 ∧ okR f m P ∧ P' = soR f m P) ∨ (m' = m + 2 ∧ okR f m P ∧ okR f (m + 1) (soR f m P) ∧ P' = soR f (m + 1) (soR f m P))
section TR
variable {d : Nat} {h : hT} {K : Int → hT → Prop} {KV : hT → Prop} {t : Int → Int} {sz : Int} {S : tkT} {P : Int → Int}
theorem m_must1 (H : MS t sz h S 0) (k : ∀ g, MW h g → MS t sz g (nx t sz S) 0 → KV g) : ClV (d + 3) mX8_must [vr 108, vi 1] h KV := by
  obtain ⟨h1, h2, h3, h4, h5⟩ := H
  have z := h4.1
  refine cl_in (al := [vr 108, vi 1]) rfl (Nat.le_of_ble_eq_true rfl) (by simp [vi_cat, vr_cat, vs_cat]) ?_
  refine yr_aload_n (pq := 1) rfl dX8_must_0 rfl ?_
  refine yr_aload_n (pq := 2) rfl dX8_must_1 rfl ?_
  refine yr_getI (pq := 5) 21 rfl dX8_must_2 kF_8_277 (by decide) rfl (by decide) ?_
  rw [h5]
  refine yr_if_ne (pq := 8) (t := 12) rfl dX8_must_5 rfl (by omega) (fun q9 => absurd (by decide) q9) (fun _ => ?_)
  refine yr_iload_n (pq := 9) rfl dX8_must_8 rfl ?_
  refine yr_if_ne (pq := 12) (t := 16) rfl dX8_must_9 rfl (by decide) (fun _ => ?_) (fun q9 => absurd q9 (by decide))
  refine yr_iconst (pq := 17) rfl dX8_must_16 ?_
  refine yr_putZ (pq := 20) 21 rfl dX8_must_17 kF_8_277 (by decide) rfl rfl (by decide) (by first | decide | omega) ?_
  refine yr_aload_n (pq := 21) rfl dX8_must_20 rfl ?_
  refine yr_getI (pq := 24) 21 rfl dX8_must_21 kF_8_277 (by decide) rfl (by decide) ?_
  rw [up_s]
  refine yr_if_ne (pq := 27) (t := 31) rfl dX8_must_24 rfl (by omega) (fun q9 => absurd (by decide) q9) (fun _ => ?_)
  refine yr_aload_n (pq := 28) rfl dX8_must_27 rfl ?_
  refine yr_vV0 (pq := 31) rfl dX8_must_28 kM_8_281 (by decide) (by decide) cat0 (m_next (t := t) (sz := sz) (e := S.2.1) (by rw [up_ne (by decide)]; exact h1) (by rw [up_k (by decide)]; exact h2) (by rw [up_k (by decide)]; exact h3.2.1) (by omega) (fun g v c => ?_))
  exact yr_vret dX8_must_31 rfl (k g ⟨fun a q => by rw [v.1 a q, up_ne q], fun j hj => by rw [v.2 j (by omega), up_k (by omega)]⟩ ⟨by rw [v.1 116 (by decide), up_ne (by decide)]; exact h1, by rw [v.2 16 (by decide), up_k (by decide)]; exact h2, c, okK_m (nx_ok h4) (by omega), by rw [v.2 21 (by decide), up_s]⟩)
theorem m_must0 (H : MS t sz h S 0) (k : ∀ g, MW h g → MS t sz g S 1 → KV g) : ClV (d + 3) mX8_must [vr 108, vi 0] h KV := by
  obtain ⟨h1, h2, h3, h4, h5⟩ := H
  refine cl_in (al := [vr 108, vi 0]) rfl (Nat.le_of_ble_eq_true rfl) (by simp [vi_cat, vr_cat, vs_cat]) ?_
  refine yr_aload_n (pq := 1) rfl dX8_must_0 rfl ?_
  refine yr_aload_n (pq := 2) rfl dX8_must_1 rfl ?_
  refine yr_getI (pq := 5) 21 rfl dX8_must_2 kF_8_277 (by decide) rfl (by decide) ?_
  rw [h5]
  refine yr_if_ne (pq := 8) (t := 12) rfl dX8_must_5 rfl (by omega) (fun q9 => absurd (by decide) q9) (fun _ => ?_)
  refine yr_iload_n (pq := 9) rfl dX8_must_8 rfl ?_
  refine yr_if_ne (pq := 12) (t := 16) rfl dX8_must_9 rfl (by decide) (fun q9 => absurd (by decide) q9) (fun _ => ?_)
  refine yr_iconst (pq := 13) rfl dX8_must_12 ?_
  refine yr_goto (t := 17) dX8_must_13 rfl ?_
  refine yr_putZ (pq := 20) 21 rfl dX8_must_17 kF_8_277 (by decide) rfl rfl (by decide) (by first | decide | omega) ?_
  refine yr_aload_n (pq := 21) rfl dX8_must_20 rfl ?_
  refine yr_getI (pq := 24) 21 rfl dX8_must_21 kF_8_277 (by decide) rfl (by decide) ?_
  rw [up_s]
  refine yr_if_ne (pq := 27) (t := 31) rfl dX8_must_24 rfl (by omega) (fun _ => ?_) (fun q9 => absurd q9 (by decide))
  refine yr_vret dX8_must_31 rfl (k _ ⟨fun a q => up_ne q, fun j hj => up_k (by omega)⟩ ⟨by rw [up_ne (by decide)]; exact h1, by rw [up_k (by decide)]; exact h2, ?_, h4, up_s _ _ _ _⟩)
  unfold TM
  rw [up_k (by decide), up_k (by decide), up_k (by decide), up_k (by decide)]
  exact h3
theorem m_mustW {b : Int} (H : MS t sz h S 1) (k : ∀ g, MW h g → MS t sz g S 1 → KV g) : ClV (d + 3) mX8_must [vr 108, vi b] h KV := by
  obtain ⟨h1, h2, h3, h4, h5⟩ := H
  refine cl_in (al := [vr 108, vi b]) rfl (Nat.le_of_ble_eq_true rfl) (by simp [vi_cat, vr_cat, vs_cat]) ?_
  refine yr_aload_n (pq := 1) rfl dX8_must_0 rfl ?_
  refine yr_aload_n (pq := 2) rfl dX8_must_1 rfl ?_
  refine yr_getI (pq := 5) 21 rfl dX8_must_2 kF_8_277 (by decide) rfl (by decide) ?_
  rw [h5]
  refine yr_if_ne (pq := 8) (t := 12) rfl dX8_must_5 rfl (by omega) (fun _ => ?_) (fun q9 => absurd q9 (by decide))
  refine yr_iconst (pq := 13) rfl dX8_must_12 ?_
  refine yr_goto (t := 17) dX8_must_13 rfl ?_
  refine yr_putZ (pq := 20) 21 rfl dX8_must_17 kF_8_277 (by decide) rfl rfl (by decide) (by first | decide | omega) ?_
  refine yr_aload_n (pq := 21) rfl dX8_must_20 rfl ?_
  refine yr_getI (pq := 24) 21 rfl dX8_must_21 kF_8_277 (by decide) rfl (by decide) ?_
  rw [up_s]
  refine yr_if_ne (pq := 27) (t := 31) rfl dX8_must_24 rfl (by omega) (fun _ => ?_) (fun q9 => absurd q9 (by decide))
  refine yr_vret dX8_must_31 rfl (k _ ⟨fun a q => up_ne q, fun j hj => up_k (by omega)⟩ ⟨by rw [up_ne (by decide)]; exact h1, by rw [up_k (by decide)]; exact h2, ?_, h4, up_s _ _ _ _⟩)
  unfold TM
  rw [up_k (by decide), up_k (by decide), up_k (by decide), up_k (by decide)]
  exact h3
theorem MS_2 {w : Int} (H : MS t sz h S w) : (0 ≤ h 108 19 ∧ h 108 19 ≤ 3) ∧ (h 108 19 = 2 ↔ S.2.2.1 = 2) ∧ (h 108 19 = 0 ↔ S.2.2.1 = 0) ∧ (h 108 19 = 3 ↔ (S.2.2.1 = 3 ∨ S.2.2.1 = 4)) := by
  obtain ⟨h1, h2, ⟨-, -, h3, -⟩, ⟨-, h4, -⟩, h5⟩ := H
  rw [h3]
  split <;> omega
theorem m_number {lo hi w : Int} (H : MS t sz h S w) (hw : w = 0 ∨ w = 1) (hl : -2147483648 ≤ lo ∧ lo ≤ 2147483647) (hh : -2147483648 ≤ hi ∧ hi ≤ 2147483647) (k1 : w = 0 → nmB S lo hi = true → ∀ g, MW h g → MS t sz g (nx t sz S) 0 → K S.2.2.2 g) (k0 : (w = 1 ∨ ¬ nmB S lo hi = true) → ∀ g, MW h g → MS t sz g S 1 → K S.2.2.2 g) : ClI (d + 4) mX8_number [vr 108, vi lo, vi hi] h K := by
  obtain ⟨b1, b2, b3, b4⟩ := MS_2 H
  have hv := H.2.2.2.1.2.2.1
  have ev := H.2.2.1.2.2.2
  rw [nmB_t] at k1 k0
  have bad : (w = 1 ∨ ¬ (S.2.2.1 = 2 ∧ lo ≤ S.2.2.2 ∧ S.2.2.2 ≤ hi)) → Yr (d + 3) mX8_number 27 [vr 108, vi lo, vi hi, vi S.2.2.2] [vr 108] h (rI K) := by
    intro q
    refine yr_iconst (pq := 28) rfl dX8_number_27 ?_
    rcases hw with rfl | rfl
    · refine yr_vV1 (pq := 31) rfl dX8_number_28 kM_8_284 (by decide) (by decide) cat0 (m_must0 H (fun g g0 g1 => ?_))
      refine yr_iload_n (pq := 32) rfl dX8_number_31 rfl ?_
      exact yr_iret dX8_number_32 rfl (k0 q g g0 g1)
    · refine yr_vV1 (pq := 31) rfl dX8_number_28 kM_8_284 (by decide) (by decide) cat0 (m_mustW H (fun g g0 g1 => ?_))
      refine yr_iload_n (pq := 32) rfl dX8_number_31 rfl ?_
      exact yr_iret dX8_number_32 rfl (k0 q g g0 g1)
  refine cl_in (al := [vr 108, vi lo, vi hi, .null]) rfl (Nat.le_of_ble_eq_true rfl) (by simp [vi_cat, vr_cat, vs_cat]) ?_
  refine yr_aload_n (pq := 1) rfl dX8_number_0 rfl ?_
  refine yr_getI (pq := 4) 20 rfl dX8_number_1 kF_8_264 (by decide) rfl (by decide) ?_
  refine yr_istore3 (pq := 5) rfl dX8_number_4 ?_
  refine yr_aload_n (pq := 6) rfl dX8_number_5 rfl ?_
  refine yr_aload_n (pq := 7) rfl dX8_number_6 rfl ?_
  refine yr_getI (pq := 10) 19 rfl dX8_number_7 kF_8_267 (by decide) rfl (by decide) ?_
  refine yr_iconst (pq := 11) rfl dX8_number_10 ?_
  rw [ev]
  refine yr_ic_ne (pq := 14) (t := 27) rfl dX8_number_11 rfl (by omega) (by omega) (fun q1 => ?_) (fun q1 => ?_)
  · exact bad (Or.inr (fun z => q1 (b2.mpr z.1)))
  · refine yr_iload_n (pq := 15) rfl dX8_number_14 rfl ?_
    refine yr_iload_n (pq := 16) rfl dX8_number_15 rfl ?_
    refine yr_iload_n (pq := 17) rfl dX8_number_16 rfl ?_
    refine yr_sI3 (pq := 20) rfl dX8_number_17 kM_8_78 (by decide) (Nat.le_of_ble_eq_true rfl) (m_within (by omega) hl hh (fun q2 => ?_) (fun q2 => ?_))
    · rcases hw with rfl | rfl
      · refine yr_if_eq (pq := 23) (t := 27) rfl dX8_number_20 rfl (by decide) (fun q9 => absurd q9 (by decide)) (fun _ => ?_)
        refine yr_iconst (pq := 24) rfl dX8_number_23 ?_
        refine yr_goto (t := 28) dX8_number_24 rfl ?_
        refine yr_vV1 (pq := 31) rfl dX8_number_28 kM_8_284 (by decide) (by decide) cat0 (m_must1 H (fun g g0 g1 => ?_))
        refine yr_iload_n (pq := 32) rfl dX8_number_31 rfl ?_
        exact yr_iret dX8_number_32 rfl (k1 rfl ⟨b2.mp q1, q2⟩ g g0 g1)
      · refine yr_if_eq (pq := 23) (t := 27) rfl dX8_number_20 rfl (by decide) (fun q9 => absurd q9 (by decide)) (fun _ => ?_)
        refine yr_iconst (pq := 24) rfl dX8_number_23 ?_
        refine yr_goto (t := 28) dX8_number_24 rfl ?_
        refine yr_vV1 (pq := 31) rfl dX8_number_28 kM_8_284 (by decide) (by decide) cat0 (m_mustW H (fun g g0 g1 => ?_))
        refine yr_iload_n (pq := 32) rfl dX8_number_31 rfl ?_
        exact yr_iret dX8_number_32 rfl (k0 (Or.inl rfl) g g0 g1)
    · refine yr_if_eq (pq := 23) (t := 27) rfl dX8_number_20 rfl (by decide) (fun _ => ?_) (fun q9 => absurd (by decide) q9)
      exact bad (Or.inr (fun z => q2 z.2))
theorem m_isNext {w u : Int} (hw : 0 ≤ w ∧ w < 15) (H : MS t sz h S u) (hu : u = 0 ∨ u = 1) (k1 : u = 0 → wdF t S w = true → ∀ g, MW h g → MS t sz g (nx t sz S) 0 → K 1 g) (k0 : (u = 1 ∨ ¬ wdF t S w = true) → K 0 h) : ClI (d + 4) mX8_isNext [vr 108, vs w] h K := by
  have e5 := H.2.2.2.2
  refine cl_in (al := [vr 108, vs w, .null]) rfl (Nat.le_of_ble_eq_true rfl) (by simp [vi_cat, vr_cat, vs_cat]) ?_
  refine yr_aload_n (pq := 1) rfl dX8_isNext_0 rfl ?_
  refine yr_getI (pq := 4) 21 rfl dX8_isNext_1 kF_8_277 (by decide) rfl (by decide) ?_
  rw [e5]
  rcases hu with rfl | rfl
  · refine yr_if_ne (pq := 7) (t := 19) rfl dX8_isNext_4 rfl (by omega) (fun q9 => absurd (by decide) q9) (fun _ => ?_)
    refine yr_aload_n (pq := 8) rfl dX8_isNext_7 rfl ?_
    refine yr_sload_n (pq := 9) rfl dX8_isNext_8 rfl ?_
    refine yr_vI1 (pq := 12) rfl dX8_isNext_9 kM_8_291 (by decide) (by decide) cat0 (m_isWord hw H.1 H.2.2.1 (Int.le_refl 0) H.2.2.2.1 (fun q => ?_) (fun q => ?_))
    · refine yr_if_eq (pq := 15) (t := 19) rfl dX8_isNext_12 rfl (by decide) (fun q9 => absurd q9 (by decide)) (fun _ => ?_)
      refine yr_iconst (pq := 16) rfl dX8_isNext_15 ?_
      refine yr_goto (t := 20) dX8_isNext_16 rfl ?_
      refine yr_istore2 (pq := 21) rfl dX8_isNext_20 ?_
      refine yr_iload_n (pq := 22) rfl dX8_isNext_21 rfl ?_
      refine yr_if_eq (pq := 25) (t := 30) rfl dX8_isNext_22 rfl (by decide) (fun q9 => absurd q9 (by decide)) (fun _ => ?_)
      refine yr_aload_n (pq := 26) rfl dX8_isNext_25 rfl ?_
      refine yr_iconst (pq := 27) rfl dX8_isNext_26 ?_
      refine yr_vV1 (pq := 30) rfl dX8_isNext_27 kM_8_284 (by decide) (by decide) cat0 (m_must1 H (fun g g0 g1 => ?_))
      refine yr_iload_n (pq := 31) rfl dX8_isNext_30 rfl ?_
      exact yr_zret dX8_isNext_31 rfl (by first | decide | omega) (k1 rfl q g g0 g1)
    · refine yr_if_eq (pq := 15) (t := 19) rfl dX8_isNext_12 rfl (by decide) (fun _ => ?_) (fun q9 => absurd (by decide) q9)
      refine yr_iconst (pq := 20) rfl dX8_isNext_19 ?_
      refine yr_istore2 (pq := 21) rfl dX8_isNext_20 ?_
      refine yr_iload_n (pq := 22) rfl dX8_isNext_21 rfl ?_
      refine yr_if_eq (pq := 25) (t := 30) rfl dX8_isNext_22 rfl (by decide) (fun _ => ?_) (fun q9 => absurd (by decide) q9)
      refine yr_iload_n (pq := 31) rfl dX8_isNext_30 rfl ?_
      exact yr_zret dX8_isNext_31 rfl (by first | decide | omega) (k0 (Or.inr q))
  · refine yr_if_ne (pq := 7) (t := 19) rfl dX8_isNext_4 rfl (by omega) (fun _ => ?_) (fun q9 => absurd q9 (by decide))
    refine yr_iconst (pq := 20) rfl dX8_isNext_19 ?_
    refine yr_istore2 (pq := 21) rfl dX8_isNext_20 ?_
    refine yr_iload_n (pq := 22) rfl dX8_isNext_21 rfl ?_
    refine yr_if_eq (pq := 25) (t := 30) rfl dX8_isNext_22 rfl (by decide) (fun _ => ?_) (fun q9 => absurd (by decide) q9)
    refine yr_iload_n (pq := 31) rfl dX8_isNext_30 rfl ?_
    exact yr_zret dX8_isNext_31 rfl (by first | decide | omega) (k0 (Or.inl rfl))
theorem m_row {m w a b c e : Int} (em : h 108 24 = m) (hm : 0 ≤ m ∧ m < 240) (k : ∀ g, (∀ x, x ≠ 108 → x ≠ 118 → g x = h x) → (∀ j, j ≠ 24 → g 108 j = h 108 j) → g 108 24 = m + 1 → (g 118 (5 * m) = w ∧ g 118 (5 * m + 1) = a ∧ g 118 (5 * m + 2) = b ∧ g 118 (5 * m + 3) = c ∧ g 118 (5 * m + 4) = e) → (∀ j, j < 5 * m → g 118 j = h 118 j) → KV g) : ClV (d + 1) mX8_row [vr 108, vi w, vi a, vi b, vi c, vi e] h KV := by
  refine cl_in (al := [vr 108, vi w, vi a, vi b, vi c, vi e, .null]) rfl (Nat.le_of_ble_eq_true rfl) (by simp [vi_cat, vr_cat, vs_cat]) ?_
  refine yr_iconst (pq := 1) rfl dX8_row_0 ?_
  refine yr_aload_n (pq := 2) rfl dX8_row_1 rfl ?_
  refine yr_getI (pq := 5) 24 rfl dX8_row_2 kF_8_288 (by decide) rfl (by decide) ?_
  rw [em]
  refine yr_imul (pq := 6) rfl dX8_row_5 ?_
  refine yr_istore6 (pq := 8) rfl dX8_row_6 ?_
  refine yr_aload_n (pq := 9) rfl dX8_row_8 rfl ?_
  refine yr_getR (pq := 12) (b := 118) 23 rfl dX8_row_9 kF_8_58 (by decide) rfl ?_
  refine yr_iload (pq := 14) rfl dX8_row_12 rfl ?_
  refine yr_iload_n (pq := 15) rfl dX8_row_14 rfl ?_
  refine yr_iast (pq := 16) rfl dX8_row_15 rfl (by decide) (by omega) ?_
  refine yr_aload_n (pq := 17) rfl dX8_row_16 rfl ?_
  refine yr_getR (pq := 20) (b := 118) 23 rfl dX8_row_17 kF_8_58 (by decide) rfl ?_
  refine yr_iload (pq := 22) rfl dX8_row_20 rfl ?_
  refine yr_iconst (pq := 23) rfl dX8_row_22 ?_
  refine yr_iadd (pq := 24) rfl dX8_row_23 ?_
  refine yr_iload_n (pq := 25) rfl dX8_row_24 rfl ?_
  refine yr_iast (pq := 26) rfl dX8_row_25 rfl (by decide) (by omega) ?_
  refine yr_aload_n (pq := 27) rfl dX8_row_26 rfl ?_
  refine yr_getR (pq := 30) (b := 118) 23 rfl dX8_row_27 kF_8_58 (by decide) rfl ?_
  refine yr_iload (pq := 32) rfl dX8_row_30 rfl ?_
  refine yr_iconst (pq := 33) rfl dX8_row_32 ?_
  refine yr_iadd (pq := 34) rfl dX8_row_33 ?_
  refine yr_iload_n (pq := 35) rfl dX8_row_34 rfl ?_
  refine yr_iast (pq := 36) rfl dX8_row_35 rfl (by decide) (by omega) ?_
  refine yr_aload_n (pq := 37) rfl dX8_row_36 rfl ?_
  refine yr_getR (pq := 40) (b := 118) 23 rfl dX8_row_37 kF_8_58 (by decide) rfl ?_
  refine yr_iload (pq := 42) rfl dX8_row_40 rfl ?_
  refine yr_iconst (pq := 43) rfl dX8_row_42 ?_
  refine yr_iadd (pq := 44) rfl dX8_row_43 ?_
  refine yr_iload (pq := 46) rfl dX8_row_44 rfl ?_
  refine yr_iast (pq := 47) rfl dX8_row_46 rfl (by decide) (by omega) ?_
  refine yr_aload_n (pq := 48) rfl dX8_row_47 rfl ?_
  refine yr_getR (pq := 51) (b := 118) 23 rfl dX8_row_48 kF_8_58 (by decide) rfl ?_
  refine yr_iload (pq := 53) rfl dX8_row_51 rfl ?_
  refine yr_iconst (pq := 54) rfl dX8_row_53 ?_
  refine yr_iadd (pq := 55) rfl dX8_row_54 ?_
  refine yr_iload (pq := 57) rfl dX8_row_55 rfl ?_
  refine yr_iast (pq := 58) rfl dX8_row_57 rfl (by decide) (by omega) ?_
  refine yr_aload_n (pq := 59) rfl dX8_row_58 rfl ?_
  refine yr_dup (pq := 60) rfl dX8_row_59 rfl ?_
  refine yr_getI (pq := 63) 24 rfl dX8_row_60 kF_8_288 (by decide) rfl (by decide) ?_
  refine yr_iconst (pq := 64) rfl dX8_row_63 ?_
  refine yr_iadd (pq := 65) rfl dX8_row_64 ?_
  refine yr_putI (pq := 68) 24 rfl dX8_row_65 kF_8_288 (by decide) rfl rfl (by decide) ?_
  simp (disch := omega) only [up_o]
  rw [em]
  exact yr_vret dX8_row_68 rfl (k _ (fun x q1 q2 => by rw [up_ne q1, up_ne q2, up_ne q2, up_ne q2, up_ne q2, up_ne q2]) (fun j hj => by rw [up_k hj, up_ne (by decide), up_ne (by decide), up_ne (by decide), up_ne (by decide), up_ne (by decide)]) (by rw [up_s]) ⟨by simp (disch := omega) only [up_o, up_k, up_s], by simp (disch := omega) only [up_o, up_k, up_s], by simp (disch := omega) only [up_o, up_k, up_s], by simp (disch := omega) only [up_o, up_k, up_s], by simp (disch := omega) only [up_o, up_k, up_s]⟩ (fun j hj => by simp (disch := omega) only [up_o, up_k, up_s]))
end TR
