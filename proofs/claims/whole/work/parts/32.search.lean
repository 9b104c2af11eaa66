/-! the search: what is found on all ways and rounds -/
abbrev aT := Int × Int × Int × Int × (Int → Int)
/-- one more is found: how much it leaves, how many corners, in how many minutes, by which -/
def noteF (A : aT) (left len mins : Int) (p : Int → Int) : aT :=
  if A.2.1 < left then (A.1 + 1, left, len, min A.2.2.2.1 mins, p) else (A.1 + 1, A.2.1, A.2.2.1, min A.2.2.2.1 mins, A.2.2.2.2)
def lpF (f : Nat → aT → aT) (c : Nat) : Nat → aT → aT
  | 0, A => A
  | n + 1, A => lpF f (c + 1) n (f c A)
def clsF (g w o due : Int) (N : Int → Int) (k : Int) (p : Int → Int) (A : aT) : aT :=
  if (g = -1 ∧ 0 < k) ∧ 0 ≤ byF N w (N 49) o ∧ ia due (ix (carN N (byF N w (N 49) o) o 51) (-1)) = 0 then noteF A (totF (carN N (byF N w (N 49) o) o)) k 0 p else A
def dfsF (g w o due b : Int) : Nat → (Int → Int) → Nat → Int → (Int → Int) → aT → aT
  | 0, _, _, _, _, A => A
  | n + 1, N, v, k, p, A =>
    if N 49 = g then noteF A (totF N) k (N 50 - b) p
    else lpF (fun c A => if v.testBit c = true then A else if 0 ≤ byF N w (N 49) (c : Int) then dfsF g w o due b n (carN N (byF N w (N 49) (c : Int)) (c : Int)) (v ||| 2 ^ c) (k + 1) (ur p k (c : Int)) A else A) 0 8 (clsF g w o due N k p A)
def okA (A : aT) : Prop := (-1 ≤ A.2.1 ∧ A.2.1 ≤ 99999) ∧ (0 ≤ A.2.2.1 ∧ A.2.2.1 ≤ 7) ∧ (0 ≤ A.2.2.2.1 ∧ A.2.2.2.1 ≤ 999)
theorem noteF_ok {A : aT} {l k m : Int} {p : Int → Int} (hA : okA A) (hl : 0 ≤ l ∧ l ≤ 99999) (hk : 0 ≤ k ∧ k ≤ 7) (hm : 0 ≤ m ∧ m ≤ 999) : okA (noteF A l k m p) := by
  obtain ⟨h1, h2, h3⟩ := hA
  unfold noteF
  split
  · exact ⟨⟨by show -1 ≤ l; omega, by show l ≤ 99999; omega⟩, hk, by show 0 ≤ min A.2.2.2.1 m ∧ min A.2.2.2.1 m ≤ 999; omega⟩
  · exact ⟨h1, h2, by show 0 ≤ min A.2.2.2.1 m ∧ min A.2.2.2.1 m ≤ 999; omega⟩
theorem pc_add : ∀ v : Fin 256, ∀ c : Fin 8, v.val.testBit c.val = false → (v.val ||| 2 ^ c.val) < 256 ∧ pcF (v.val ||| 2 ^ c.val) = pcF v.val + 1 := by decide +kernel
theorem okS_tot {N : Int → Int} (hS : okS N) : 0 ≤ totF N ∧ totF N ≤ 99999 := by
  obtain ⟨a1, a2, a3, a4, a5, a6⟩ := hS
  unfold totF
  omega
/-- the reference's finds -/
def AR (h : hT) (A : aT) : Prop := h 108 11 = A.1 ∧ h 108 10 = A.2.1 ∧ h 108 9 = A.2.2.1 ∧ h 108 12 = A.2.2.2.1 ∧ (∀ j, 0 ≤ j → j < A.2.2.1 → h 115 j = A.2.2.2.2 j) ∧ okA A
/-- what the reference's search leaves, at the depth k -/
def FR (k : Int) (h h' : hT) : Prop := (∀ a, a ≠ 108 → a ≠ 109 → a ≠ 113 → a ≠ 114 → a ≠ 115 → h' a = h a) ∧ h' 109 = h 109 ∧ (∀ j, j ≠ 9 → j ≠ 10 → j ≠ 11 → j ≠ 12 → h' 108 j = h 108 j) ∧ (∀ j, j < 8 * k → h' 113 j = h 113 j) ∧ ∀ j, j < k → h' 114 j = h 114 j
theorem FR_r (k : Int) (h : hT) : FR k h h := ⟨fun _ _ _ _ _ _ => rfl, rfl, fun _ _ _ _ _ => rfl, fun _ _ => rfl, fun _ _ => rfl⟩
theorem FR_t {k : Int} {h g f : hT} (a : FR k h g) (b : FR k g f) : FR k h f :=
  ⟨fun x q1 q2 q3 q4 q5 => (b.1 x q1 q2 q3 q4 q5).trans (a.1 x q1 q2 q3 q4 q5), b.2.1.trans a.2.1, fun j q1 q2 q3 q4 => (b.2.2.1 j q1 q2 q3 q4).trans (a.2.2.1 j q1 q2 q3 q4), fun j q => (b.2.2.2.1 j q).trans (a.2.2.2.1 j q), fun j q => (b.2.2.2.2 j q).trans (a.2.2.2.2 j q)⟩
section CS
variable {d : Nat} {h : hT} {K : Int → hT → Prop} {KV : hT → Prop} {N : Int → Int}
theorem m_keepAhead {k : Int} (hk : 0 ≤ k ∧ k ≤ 8) (kk : ∀ h', (∀ a, a ≠ 113 → h' a = h a) → (∀ i, 0 ≤ i → i < 8 → h' 113 (8 * k + i) = h 109 (45 + i)) → (∀ j, j < 8 * k → h' 113 j = h 113 j) → KV h') : ClV (d + 1) mX8_keepAhead [vr 108, vi k] h KV := by
  have key : ∀ (n : Nat) (i : Int) (g : Int → Int → Int), 0 ≤ i → i + n = 8 → (∀ a, a ≠ 113 → g a = h a) → (∀ j, 0 ≤ j → j < i → g 113 (8 * k + j) = h 109 (45 + j)) → (∀ j, j < 8 * k → g 113 j = h 113 j) → Yr (d + 0) mX8_keepAhead 2 [vr 108, vi k, vi i] [] g (rV KV) := by
    intro n
    induction n with
    | zero =>
      intro i g hi hn g1 g2 g3
      refine yr_iload_n (pq := 3) rfl dX8_keepAhead_2 rfl ?_
      refine yr_bipush (pq := 5) rfl dX8_keepAhead_3 rfl ?_
      refine yr_ic_ge (pq := 8) (t := 34) rfl dX8_keepAhead_5 rfl (by omega) (by omega) (fun _ => ?_) (fun q9 => absurd (by omega) q9)
      refine yr_vret dX8_keepAhead_34 rfl (kk g g1 (fun j j0 j1 => g2 j j0 (by omega)) g3)
    | succ n ih =>
      intro i g hi hn g1 g2 g3
      refine yr_iload_n (pq := 3) rfl dX8_keepAhead_2 rfl ?_
      refine yr_bipush (pq := 5) rfl dX8_keepAhead_3 rfl ?_
      refine yr_ic_ge (pq := 8) (t := 34) rfl dX8_keepAhead_5 rfl (by omega) (by omega) (fun q9 => absurd q9 (by omega)) (fun _ => ?_)
      refine yr_aload_n (pq := 9) rfl dX8_keepAhead_8 rfl ?_
      refine yr_getR (pq := 12) (b := 113) 6 rfl dX8_keepAhead_9 kF_8_26 (by decide) rfl ?_
      refine yr_bipush (pq := 14) rfl dX8_keepAhead_12 rfl ?_
      refine yr_iload_n (pq := 15) rfl dX8_keepAhead_14 rfl ?_
      refine yr_imul (pq := 16) rfl dX8_keepAhead_15 ?_
      refine yr_iload_n (pq := 17) rfl dX8_keepAhead_16 rfl ?_
      refine yr_iadd (pq := 18) rfl dX8_keepAhead_17 ?_
      refine yr_aload_n (pq := 19) rfl dX8_keepAhead_18 rfl ?_
      refine yr_getR (pq := 22) (b := 109) 0 rfl dX8_keepAhead_19 kF_8_9 (by decide) rfl ?_
      refine yr_bipush (pq := 24) rfl dX8_keepAhead_22 rfl ?_
      refine yr_iload_n (pq := 25) rfl dX8_keepAhead_24 rfl ?_
      refine yr_iadd (pq := 26) rfl dX8_keepAhead_25 ?_
      refine yr_iald (pq := 27) rfl dX8_keepAhead_26 rfl (by decide) (by omega) ?_
      refine yr_iast (pq := 28) rfl dX8_keepAhead_27 rfl (by decide) (by omega) ?_
      refine yr_iinc2 (pq := 31) rfl dX8_keepAhead_28 ?_
      refine yr_goto (t := 2) dX8_keepAhead_31 rfl ?_
      refine ih _ _ (by omega) (by omega) (fun a ha => by rw [up_ne ha]; exact g1 a ha) (fun j j0 j1 => ?_) (fun j hj => ?_)
      · by_cases e : j = i
        · subst e; rw [up_s, g1 109 (by decide)]
        · rw [up_k (by omega)]; exact g2 j j0 (by omega)
      · rw [up_k (by omega)]; exact g3 j hj
  refine cl_in (al := [vr 108, vi k, .null]) rfl (Nat.le_of_ble_eq_true rfl) (by simp [vi_cat, vr_cat, vs_cat]) ?_
  refine yr_iconst (pq := 1) rfl dX8_keepAhead_0 ?_
  refine yr_istore2 (pq := 2) rfl dX8_keepAhead_1 ?_
  exact key 8 0 h (by omega) (by omega) (fun _ _ => rfl) (fun j j0 j1 => by omega) (fun _ _ => rfl)
theorem m_backTo {k : Int} (hk : 0 ≤ k ∧ k ≤ 8) (kk : ∀ h', (∀ a, a ≠ 109 → h' a = h a) → (∀ i, 0 ≤ i → i < 8 → h' 109 (45 + i) = h 113 (8 * k + i)) → (∀ j, (j < 45 ∨ 53 ≤ j) → h' 109 j = h 109 j) → KV h') : ClV (d + 1) mX8_backTo [vr 108, vi k] h KV := by
  have key : ∀ (n : Nat) (i : Int) (g : Int → Int → Int), 0 ≤ i → i + n = 8 → (∀ a, a ≠ 109 → g a = h a) → (∀ j, 0 ≤ j → j < i → g 109 (45 + j) = h 113 (8 * k + j)) → (∀ j, (j < 45 ∨ 53 ≤ j) → g 109 j = h 109 j) → Yr (d + 0) mX8_backTo 2 [vr 108, vi k, vi i] [] g (rV KV) := by
    intro n
    induction n with
    | zero =>
      intro i g hi hn g1 g2 g3
      refine yr_iload_n (pq := 3) rfl dX8_backTo_2 rfl ?_
      refine yr_bipush (pq := 5) rfl dX8_backTo_3 rfl ?_
      refine yr_ic_ge (pq := 8) (t := 34) rfl dX8_backTo_5 rfl (by omega) (by omega) (fun _ => ?_) (fun q9 => absurd (by omega) q9)
      refine yr_vret dX8_backTo_34 rfl (kk g g1 (fun j j0 j1 => g2 j j0 (by omega)) g3)
    | succ n ih =>
      intro i g hi hn g1 g2 g3
      refine yr_iload_n (pq := 3) rfl dX8_backTo_2 rfl ?_
      refine yr_bipush (pq := 5) rfl dX8_backTo_3 rfl ?_
      refine yr_ic_ge (pq := 8) (t := 34) rfl dX8_backTo_5 rfl (by omega) (by omega) (fun q9 => absurd q9 (by omega)) (fun _ => ?_)
      refine yr_aload_n (pq := 9) rfl dX8_backTo_8 rfl ?_
      refine yr_getR (pq := 12) (b := 109) 0 rfl dX8_backTo_9 kF_8_9 (by decide) rfl ?_
      refine yr_bipush (pq := 14) rfl dX8_backTo_12 rfl ?_
      refine yr_iload_n (pq := 15) rfl dX8_backTo_14 rfl ?_
      refine yr_iadd (pq := 16) rfl dX8_backTo_15 ?_
      refine yr_aload_n (pq := 17) rfl dX8_backTo_16 rfl ?_
      refine yr_getR (pq := 20) (b := 113) 6 rfl dX8_backTo_17 kF_8_26 (by decide) rfl ?_
      refine yr_bipush (pq := 22) rfl dX8_backTo_20 rfl ?_
      refine yr_iload_n (pq := 23) rfl dX8_backTo_22 rfl ?_
      refine yr_imul (pq := 24) rfl dX8_backTo_23 ?_
      refine yr_iload_n (pq := 25) rfl dX8_backTo_24 rfl ?_
      refine yr_iadd (pq := 26) rfl dX8_backTo_25 ?_
      refine yr_iald (pq := 27) rfl dX8_backTo_26 rfl (by decide) (by omega) ?_
      refine yr_iast (pq := 28) rfl dX8_backTo_27 rfl (by decide) (by omega) ?_
      refine yr_iinc2 (pq := 31) rfl dX8_backTo_28 ?_
      refine yr_goto (t := 2) dX8_backTo_31 rfl ?_
      refine ih _ _ (by omega) (by omega) (fun a ha => by rw [up_ne ha]; exact g1 a ha) (fun j j0 j1 => ?_) (fun j hj => ?_)
      · by_cases e : j = i
        · subst e; rw [up_s, g1 113 (by decide)]
        · rw [up_k (by omega)]; exact g2 j j0 (by omega)
      · rw [up_k (by omega)]; exact g3 j hj
  refine cl_in (al := [vr 108, vi k, .null]) rfl (Nat.le_of_ble_eq_true rfl) (by simp [vi_cat, vr_cat, vs_cat]) ?_
  refine yr_iconst (pq := 1) rfl dX8_backTo_0 ?_
  refine yr_istore2 (pq := 2) rfl dX8_backTo_1 ?_
  exact key 8 0 h (by omega) (by omega) (fun _ _ => rfl) (fun j j0 j1 => by omega) (fun _ _ => rfl)
theorem m_none (k : ∀ h', (∀ a, a ≠ 108 → h' a = h a) → (∀ j, j ≠ 9 → j ≠ 10 → j ≠ 11 → j ≠ 12 → h' 108 j = h 108 j) → (∀ p, AR h' (0, -1, 0, 999, p)) → KV h') : ClV (d + 1) mX8_none [vr 108] h KV := by
  refine cl_in (al := [vr 108]) rfl (Nat.le_of_ble_eq_true rfl) (by simp [vi_cat, vr_cat, vs_cat]) ?_
  refine yr_aload_n (pq := 1) rfl dX8_none_0 rfl ?_
  refine yr_iconst (pq := 2) rfl dX8_none_1 ?_
  refine yr_putI (pq := 5) 11 rfl dX8_none_2 kF_8_170 (by decide) rfl rfl (by decide) ?_
  refine yr_aload_n (pq := 6) rfl dX8_none_5 rfl ?_
  refine yr_iconst (pq := 7) rfl dX8_none_6 ?_
  refine yr_putI (pq := 10) 10 rfl dX8_none_7 kF_8_176 (by decide) rfl rfl (by decide) ?_
  refine yr_aload_n (pq := 11) rfl dX8_none_10 rfl ?_
  refine yr_iconst (pq := 12) rfl dX8_none_11 ?_
  refine yr_putI (pq := 15) 9 rfl dX8_none_12 kF_8_179 (by decide) rfl rfl (by decide) ?_
  refine yr_aload_n (pq := 16) rfl dX8_none_15 rfl ?_
  refine yr_sipush (pq := 19) rfl dX8_none_16 rfl ?_
  refine yr_putI (pq := 22) 12 rfl dX8_none_19 kF_8_173 (by decide) rfl rfl (by decide) ?_
  refine yr_vret dX8_none_22 rfl (k _ (fun a ha => ?_) (fun j j1 j2 j3 j4 => ?_) (fun p => ⟨?_, ?_, ?_, ?_, ?_, ?_⟩))
  · rw [up_ne ha, up_ne ha, up_ne ha, up_ne ha]
  · rw [up_k j4, up_k j1, up_k j2, up_k j3]
  · simp (disch := decide) only [up_k, up_s]
  · simp (disch := decide) only [up_k, up_s]
  · simp (disch := decide) only [up_k, up_s]
  · simp (disch := decide) only [up_k, up_s]
  · intro j j0 j1
    have j2 : j < 0 := j1
    omega
  · show (-1 ≤ (-1 : Int) ∧ (-1 : Int) ≤ 99999) ∧ ((0 : Int) ≤ 0 ∧ (0 : Int) ≤ 7) ∧ ((0 : Int) ≤ 999 ∧ (999 : Int) ≤ 999)
    decide
theorem m_isWhole {k m : Int} {A : aT} {p : Int → Int} (hA : AR h A) (ht : 0 ≤ totF (h 109) ∧ totF (h 109) ≤ 99999) (hk : 0 ≤ k ∧ k ≤ 7) (hm : 0 ≤ m ∧ m ≤ 999) (hp : ∀ j, 0 ≤ j → j < k → h 114 j = p j)
    (kk : ∀ h', (∀ a, a ≠ 108 → a ≠ 115 → h' a = h a) → (∀ j, j ≠ 9 → j ≠ 10 → j ≠ 11 → j ≠ 12 → h' 108 j = h 108 j) → AR h' (noteF A (totF (h 109)) k m p) → KV h') : ClV (d + 2) mX8_isWhole [vr 108, vi k, vi m] h KV := by
  have ho := noteF_ok (p := p) hA.2.2.2.2.2 ht hk hm
  obtain ⟨r1, r2, r3, r4, r5, o1, o2, o3⟩ := hA
  have key : ∀ (n : Nat) (i : Int) (g : Int → Int → Int), 0 ≤ i → i + n = k → (∀ a, a ≠ 108 → a ≠ 115 → g a = h a) → (∀ j, j ≠ 9 → j ≠ 10 → j ≠ 11 → j ≠ 12 → g 108 j = h 108 j) → g 108 11 = A.1 + 1 → g 108 10 = totF (h 109) → g 108 9 = k → g 108 12 = min A.2.2.2.1 m → (∀ j, 0 ≤ j → j < i → g 115 j = p j) → A.2.1 < totF (h 109) → ∀ x, Yr (d + 1) mX8_isWhole 48 [vr 108, vi k, vi m, x, vi i] [] g (rV KV) := by
    intro n
    induction n with
    | zero =>
      intro i g hi hn g1 g2 g3 g4 g5 g6 g7 g8 x
      refine yr_iload (pq := 50) rfl dX8_isWhole_48 rfl ?_
      refine yr_iload_n (pq := 51) rfl dX8_isWhole_50 rfl ?_
      refine yr_ic_ge (pq := 54) (t := 74) rfl dX8_isWhole_51 rfl (by omega) (by omega) (fun _ => ?_) (fun q9 => absurd (by omega) q9)
      refine yr_vret dX8_isWhole_74 rfl (kk g g1 g2 ?_)
      unfold noteF at ho ⊢
      rw [if_pos g8] at ho ⊢
      exact ⟨g3, g4, g5, g6, fun j j0 j1 => g7 j j0 (by have j2 : j < k := j1; omega), ho⟩
    | succ n ih =>
      intro i g hi hn g1 g2 g3 g4 g5 g6 g7 g8 x
      refine yr_iload (pq := 50) rfl dX8_isWhole_48 rfl ?_
      refine yr_iload_n (pq := 51) rfl dX8_isWhole_50 rfl ?_
      refine yr_ic_ge (pq := 54) (t := 74) rfl dX8_isWhole_51 rfl (by omega) (by omega) (fun q9 => absurd q9 (by omega)) (fun _ => ?_)
      refine yr_aload_n (pq := 55) rfl dX8_isWhole_54 rfl ?_
      refine yr_getR (pq := 58) (b := 115) 8 rfl dX8_isWhole_55 kF_8_32 (by decide) rfl ?_
      refine yr_iload (pq := 60) rfl dX8_isWhole_58 rfl ?_
      refine yr_aload_n (pq := 61) rfl dX8_isWhole_60 rfl ?_
      refine yr_getR (pq := 64) (b := 114) 7 rfl dX8_isWhole_61 kF_8_29 (by decide) rfl ?_
      refine yr_iload (pq := 66) rfl dX8_isWhole_64 rfl ?_
      refine yr_iald (pq := 67) rfl dX8_isWhole_66 rfl (by decide) (by omega) ?_
      refine yr_iast (pq := 68) rfl dX8_isWhole_67 rfl (by decide) (by omega) ?_
      refine yr_iinc4 (pq := 71) rfl dX8_isWhole_68 ?_
      refine yr_goto (t := 48) dX8_isWhole_71 rfl ?_
      refine ih _ _ (by omega) (by omega) (fun a a1 a2 => by rw [up_ne a2]; exact g1 a a1 a2) (fun j j1 j2 j3 j4 => by rw [up_ne (by decide)]; exact g2 j j1 j2 j3 j4) (by rw [up_ne (by decide)]; exact g3) (by rw [up_ne (by decide)]; exact g4) (by rw [up_ne (by decide)]; exact g5) (by rw [up_ne (by decide)]; exact g6) (fun j j0 j1 => ?_) g8 x
      by_cases e : j = i
      · subst e; rw [up_s, g1 114 (by decide) (by decide), hp j j0 (by omega)]
      · rw [up_k e]; exact g7 j j0 (by omega)
  refine cl_in (al := [vr 108, vi k, vi m, .null, .null]) rfl (Nat.le_of_ble_eq_true rfl) (by simp [vi_cat, vr_cat, vs_cat]) ?_
  refine yr_aload_n (pq := 1) rfl dX8_isWhole_0 rfl ?_
  refine yr_vI0 (pq := 4) rfl dX8_isWhole_1 kM_8_145 (by decide) (by decide) cat0 (m_allGrains ?_)
  refine yr_istore3 (pq := 5) rfl dX8_isWhole_4 ?_
  refine yr_aload_n (pq := 6) rfl dX8_isWhole_5 rfl ?_
  refine yr_dup (pq := 7) rfl dX8_isWhole_6 rfl ?_
  refine yr_getI (pq := 10) 11 rfl dX8_isWhole_7 kF_8_170 (by decide) rfl (by decide) ?_
  refine yr_iconst (pq := 11) rfl dX8_isWhole_10 ?_
  refine yr_iadd (pq := 12) rfl dX8_isWhole_11 ?_
  refine yr_putI (pq := 15) 11 rfl dX8_isWhole_12 kF_8_170 (by decide) rfl rfl (by decide) ?_
  refine yr_aload_n (pq := 16) rfl dX8_isWhole_15 rfl ?_
  refine yr_aload_n (pq := 17) rfl dX8_isWhole_16 rfl ?_
  refine yr_getI (pq := 20) 12 rfl dX8_isWhole_17 kF_8_173 (by decide) rfl (by decide) ?_
  refine yr_iload_n (pq := 21) rfl dX8_isWhole_20 rfl ?_
  simp (disch := decide) only [up_k]
  rw [r4, r1]
  refine yr_sI2 (pq := 24) rfl dX8_isWhole_21 kM_8_86 (by decide) (Nat.le_of_ble_eq_true rfl) (j_min (by omega) (by omega) ?_)
  refine yr_putI (pq := 27) 12 rfl dX8_isWhole_24 kF_8_173 (by decide) rfl rfl (by decide) ?_
  refine yr_iload_n (pq := 28) rfl dX8_isWhole_27 rfl ?_
  refine yr_aload_n (pq := 29) rfl dX8_isWhole_28 rfl ?_
  refine yr_getI (pq := 32) 10 rfl dX8_isWhole_29 kF_8_176 (by decide) rfl (by decide) ?_
  simp (disch := decide) only [up_k]
  rw [r2]
  refine yr_ic_le (pq := 35) (t := 74) rfl dX8_isWhole_32 rfl (by omega) (by omega) (fun q => ?_) (fun q => ?_)
  · refine yr_vret dX8_isWhole_74 rfl (kk _ (fun a a1 a2 => by rw [up_ne a1, up_ne a1]) (fun j j1 j2 j3 j4 => by rw [up_k j4, up_k j3]) ?_)
    unfold noteF at ho ⊢
    rw [if_neg (by omega)] at ho ⊢
    refine ⟨?_, ?_, ?_, ?_, fun j j0 j1 => ?_, ho⟩
    · rw [up_k (by decide), up_s]
    · rw [up_k (by decide), up_k (by decide), r2]
    · rw [up_k (by decide), up_k (by decide), r3]
    · rw [up_s]
    · rw [up_ne (by decide), up_ne (by decide)]; exact r5 j j0 j1
  · refine yr_aload_n (pq := 36) rfl dX8_isWhole_35 rfl ?_
    refine yr_iload_n (pq := 37) rfl dX8_isWhole_36 rfl ?_
    refine yr_putI (pq := 40) 10 rfl dX8_isWhole_37 kF_8_176 (by decide) rfl rfl (by decide) ?_
    refine yr_aload_n (pq := 41) rfl dX8_isWhole_40 rfl ?_
    refine yr_iload_n (pq := 42) rfl dX8_isWhole_41 rfl ?_
    refine yr_putI (pq := 45) 9 rfl dX8_isWhole_42 kF_8_179 (by decide) rfl rfl (by decide) ?_
    refine yr_iconst (pq := 46) rfl dX8_isWhole_45 ?_
    refine yr_istore4 (pq := 48) rfl dX8_isWhole_46 ?_
    refine key k.toNat 0 _ (by omega) (by omega) (fun a a1 a2 => by rw [up_ne a1, up_ne a1, up_ne a1, up_ne a1]) (fun j j1 j2 j3 j4 => by rw [up_k j1, up_k j2, up_k j4, up_k j3]) ?_ ?_ ?_ ?_ (fun j j0 j1 => by omega) (by omega) _
    · rw [up_k (by decide), up_k (by decide), up_k (by decide), up_s]
    · rw [up_k (by decide), up_s]
    · rw [up_s]
    · rw [up_k (by decide), up_k (by decide), up_s]
end CS
