/-! tokens -/
/-- a token: where it begins and ends, its type, its value -/
abbrev tkT := Int × Int × Int × Int
def skF (t : Int → Int) (sz b : Int) : Nat → Int
  | 0 => b
  | n + 1 => if b < sz ∧ t b = 32 then skF t sz (b + 1) n else b
def ltF (t : Int → Int) (sz e : Int) : Nat → Int
  | 0 => e
  | n + 1 => if e < sz ∧ (97 ≤ t e ∧ t e ≤ 122) then ltF t sz (e + 1) n else e
def dgF (t : Int → Int) (sz e v : Int) : Nat → Int × Int
  | 0 => (e, v)
  | n + 1 => if e < sz ∧ (48 ≤ t e ∧ t e ≤ 57) then dgF t sz (e + 1) (min 10000 (v * 10 + t e - 48)) n else (e, v)
def tkB (t : Int → Int) (sz b : Int) : tkT :=
  if sz ≤ b then (b, b, 0, 0)
  else if 97 ≤ t b ∧ t b ≤ 122 then (b, ltF t sz b (sz - b).toNat, 1, 0)
  else if 48 ≤ t b ∧ t b ≤ 57 then (b, (dgF t sz b 0 (sz - b).toNat).1, 2, (dgF t sz b 0 (sz - b).toNat).2)
  else (b, b + 1, (if t b = 59 then 3 else 4), 0)
def tkF (t : Int → Int) (sz e : Int) : tkT := tkB t sz (skF t sz e (sz - e).toNat)
theorem skF_b (t : Int → Int) (sz : Int) : ∀ (n : Nat) (b : Int), b + n = sz → b ≤ skF t sz b n ∧ skF t sz b n ≤ sz := by
  intro n
  induction n with
  | zero => intro b h; rw [skF]; omega
  | succ n ih =>
    intro b h
    rw [skF]
    have := ih (b + 1) (by omega)
    split <;> omega
theorem ltF_b (t : Int → Int) (sz : Int) : ∀ (n : Nat) (b : Int), b + n = sz → b ≤ ltF t sz b n ∧ ltF t sz b n ≤ sz := by
  intro n
  induction n with
  | zero => intro b h; rw [ltF]; omega
  | succ n ih =>
    intro b h
    rw [ltF]
    have := ih (b + 1) (by omega)
    split <;> omega
theorem dgF_b (t : Int → Int) (sz : Int) : ∀ (n : Nat) (b v : Int), b + n = sz → (0 ≤ v ∧ v ≤ 10000) → (b ≤ (dgF t sz b v n).1 ∧ (dgF t sz b v n).1 ≤ sz) ∧ (0 ≤ (dgF t sz b v n).2 ∧ (dgF t sz b v n).2 ≤ 10000) := by
  intro n
  induction n with
  | zero => intro b v h hv; rw [dgF]; simp only; omega
  | succ n ih =>
    intro b v h hv
    rw [dgF]
    split
    · have := ih (b + 1) (min 10000 (v * 10 + t b - 48)) (by omega) (by omega)
      omega
    · simp only; omega
theorem ltF_1 {t : Int → Int} {sz b : Int} (h : b < sz) (q : 97 ≤ t b ∧ t b ≤ 122) : b + 1 ≤ ltF t sz b (sz - b).toNat := by
  obtain ⟨n, hn⟩ : ∃ n, (sz - b).toNat = n + 1 := ⟨(sz - b).toNat - 1, by omega⟩
  rw [hn, ltF, if_pos ⟨h, q⟩]
  exact (ltF_b t sz n (b + 1) (by omega)).1
theorem dgF_1 {t : Int → Int} {sz b : Int} (h : b < sz) (q : 48 ≤ t b ∧ t b ≤ 57) : b + 1 ≤ (dgF t sz b 0 (sz - b).toNat).1 := by
  obtain ⟨n, hn⟩ : ∃ n, (sz - b).toNat = n + 1 := ⟨(sz - b).toNat - 1, by omega⟩
  rw [hn, dgF, if_pos ⟨h, q⟩]
  exact (dgF_b t sz n (b + 1) _ (by omega) (by omega)).1.1
/-- a token of a tape of so many bytes, that begins at e or behind -/
def okK (sz e : Int) (S : tkT) : Prop := (e ≤ S.1 ∧ S.1 ≤ S.2.1 ∧ S.2.1 ≤ sz) ∧ (0 ≤ S.2.2.1 ∧ S.2.2.1 ≤ 4) ∧ (0 ≤ S.2.2.2 ∧ S.2.2.2 ≤ 10000) ∧ (S.2.2.1 ≠ 0 → S.1 < S.2.1)
theorem tkB_ok {t : Int → Int} {sz b : Int} (hb : b ≤ sz) : okK sz b (tkB t sz b) := by
  unfold okK tkB
  split
  · simp only; omega
  · split
    · rename_i q1 q2
      have h1 := ltF_b t sz (sz - b).toNat b (by omega)
      have h2 := ltF_1 (sz := sz) (by omega) q2
      simp only; omega
    · split
      · rename_i q1 q2 q3
        have h1 := dgF_b t sz (sz - b).toNat b 0 (by omega) (by omega)
        have h2 := dgF_1 (sz := sz) (by omega) q3
        simp only; omega
      · simp only
        split <;> omega
theorem tkB_1 (t : Int → Int) (sz b : Int) : (tkB t sz b).1 = b := by
  unfold tkB
  split
  · rfl
  · split
    · rfl
    · split <;> rfl
theorem tkF_ok {t : Int → Int} {sz e : Int} (he : e ≤ sz) : okK sz e (tkF t sz e) := by
  have h := skF_b t sz (sz - e).toNat e (by omega)
  obtain ⟨h1, h2⟩ := tkB_ok (t := t) h.2
  exact ⟨by unfold tkF; omega, h2⟩
/-- the sign, where a token is one -/
theorem tkF_3 {t : Int → Int} {sz e : Int} (he : e ≤ sz) : ((tkF t sz e).2.2.1 = 3 ∨ (tkF t sz e).2.2.1 = 4) → (tkF t sz e).1 < sz ∧ ((tkF t sz e).2.2.1 = 3 ↔ t (tkF t sz e).1 = 59) := by
  unfold tkF
  generalize skF t sz e (sz - e).toNat = b
  unfold tkB
  split
  · intro q; simp only at q; omega
  · split
    · intro q; simp only at q; omega
    · split
      · intro q; simp only at q; omega
      · intro q
        refine ⟨by simp only; omega, ?_⟩
        simp only
        split
        · exact ⟨fun _ => by assumption, fun _ => rfl⟩
        · exact ⟨fun z => absurd z (by decide), fun z => absurd z (by assumption)⟩
/-- the tape that both have -/
def TP (f : Int → Int) (sz : Int) (t : Int → Int) : Prop := (0 ≤ sz ∧ sz ≤ 120) ∧ ∀ i, 0 ≤ i → i < sz → f i = t i ∧ (0 ≤ t i ∧ t i ≤ 255)
def TC (h : hT) (S : tkT) : Prop := h 76 5 = S.1 ∧ h 76 6 = S.2.1 ∧ h 76 4 = S.2.2.1 ∧ h 76 7 = S.2.2.2
def TM (h : hT) (S : tkT) : Prop := h 108 17 = S.1 ∧ h 108 18 = S.2.1 ∧ h 108 19 = (if S.2.2.1 = 4 then 3 else S.2.2.1) ∧ h 108 20 = S.2.2.2
section TK
variable {d : Nat} {h : hT} {K : Int → hT → Prop} {KV : hT → Prop} {t : Int → Int} {sz : Int}
theorem c_byteAt {k : Int} (hTp : TP (h 77) sz t) (e1 : h 76 1 = sz) (hk : 0 ≤ k ∧ k ≤ 1000) (k1 : k < sz → K (t k) h) (k0 : sz ≤ k → K (-1) h) : ClI (d + 1) mX0_byteAt [vr 76, vi k] h K := by
  obtain ⟨hz, ht⟩ := hTp
  refine cl_in (al := [vr 76, vi k]) rfl (Nat.le_of_ble_eq_true rfl) (by simp [vi_cat, vr_cat, vs_cat]) ?_
  refine yr_iload_n (pq := 1) rfl dX0_byteAt_0 rfl ?_
  refine yr_if_lt (pq := 4) (t := 21) rfl dX0_byteAt_1 rfl (by omega) (fun q9 => absurd q9 (by omega)) (fun _ => ?_)
  refine yr_iload_n (pq := 5) rfl dX0_byteAt_4 rfl ?_
  refine yr_aload_n (pq := 6) rfl dX0_byteAt_5 rfl ?_
  refine yr_getI (pq := 9) 1 rfl dX0_byteAt_6 kF_0_15 (by decide) rfl (by decide) ?_
  rw [e1]
  refine yr_ic_ge (pq := 12) (t := 21) rfl dX0_byteAt_9 rfl (by omega) (by omega) (fun q => ?_) (fun q => ?_)
  · refine yr_iconst (pq := 22) rfl dX0_byteAt_21 ?_
    exact yr_iret dX0_byteAt_22 rfl (k0 q)
  · refine yr_aload_n (pq := 13) rfl dX0_byteAt_12 rfl ?_
    refine yr_getR (pq := 16) (b := 77) 0 rfl dX0_byteAt_13 kF_0_9 (by decide) rfl ?_
    refine yr_iload_n (pq := 17) rfl dX0_byteAt_16 rfl ?_
    refine yr_iald (pq := 18) rfl dX0_byteAt_17 rfl (by decide) (by omega) ?_
    refine yr_goto (t := 22) dX0_byteAt_18 rfl ?_
    rw [(ht k hk.1 (by omega)).1]
    exact yr_iret dX0_byteAt_22 rfl (k1 (by omega))
theorem c_isLetter {v : Int} (hv : -1 ≤ v ∧ v ≤ 255) (k1 : 97 ≤ v ∧ v ≤ 122 → K 1 h) (k0 : ¬ (97 ≤ v ∧ v ≤ 122) → K 0 h) : ClI (d + 1) mX0_isLetter [vi v] h K := by
  refine cl_in (al := [vi v]) rfl (Nat.le_of_ble_eq_true rfl) (by simp [vi_cat, vr_cat, vs_cat]) ?_
  refine yr_iload_n (pq := 1) rfl dX0_isLetter_0 rfl ?_
  refine yr_bipush (pq := 3) rfl dX0_isLetter_1 rfl ?_
  refine yr_ic_lt (pq := 6) (t := 16) rfl dX0_isLetter_3 rfl (by omega) (by omega) (fun q => ?_) (fun q => ?_)
  · refine yr_iconst (pq := 17) rfl dX0_isLetter_16 ?_
    exact yr_zret dX0_isLetter_17 rfl (by first | decide | omega) (k0 (by omega))
  · refine yr_iload_n (pq := 7) rfl dX0_isLetter_6 rfl ?_
    refine yr_bipush (pq := 9) rfl dX0_isLetter_7 rfl ?_
    refine yr_ic_gt (pq := 12) (t := 16) rfl dX0_isLetter_9 rfl (by omega) (by omega) (fun q2 => ?_) (fun q2 => ?_)
    · refine yr_iconst (pq := 17) rfl dX0_isLetter_16 ?_
      exact yr_zret dX0_isLetter_17 rfl (by first | decide | omega) (k0 (by omega))
    · refine yr_iconst (pq := 13) rfl dX0_isLetter_12 ?_
      refine yr_goto (t := 17) dX0_isLetter_13 rfl ?_
      exact yr_zret dX0_isLetter_17 rfl (by first | decide | omega) (k1 (by omega))
theorem c_isDigit {v : Int} (hv : -1 ≤ v ∧ v ≤ 255) (k1 : 48 ≤ v ∧ v ≤ 57 → K 1 h) (k0 : ¬ (48 ≤ v ∧ v ≤ 57) → K 0 h) : ClI (d + 1) mX0_isDigit [vi v] h K := by
  refine cl_in (al := [vi v]) rfl (Nat.le_of_ble_eq_true rfl) (by simp [vi_cat, vr_cat, vs_cat]) ?_
  refine yr_iload_n (pq := 1) rfl dX0_isDigit_0 rfl ?_
  refine yr_bipush (pq := 3) rfl dX0_isDigit_1 rfl ?_
  refine yr_ic_lt (pq := 6) (t := 16) rfl dX0_isDigit_3 rfl (by omega) (by omega) (fun q => ?_) (fun q => ?_)
  · refine yr_iconst (pq := 17) rfl dX0_isDigit_16 ?_
    exact yr_zret dX0_isDigit_17 rfl (by first | decide | omega) (k0 (by omega))
  · refine yr_iload_n (pq := 7) rfl dX0_isDigit_6 rfl ?_
    refine yr_bipush (pq := 9) rfl dX0_isDigit_7 rfl ?_
    refine yr_ic_gt (pq := 12) (t := 16) rfl dX0_isDigit_9 rfl (by omega) (by omega) (fun q2 => ?_) (fun q2 => ?_)
    · refine yr_iconst (pq := 17) rfl dX0_isDigit_16 ?_
      exact yr_zret dX0_isDigit_17 rfl (by first | decide | omega) (k0 (by omega))
    · refine yr_iconst (pq := 13) rfl dX0_isDigit_12 ?_
      refine yr_goto (t := 17) dX0_isDigit_13 rfl ?_
      exact yr_zret dX0_isDigit_17 rfl (by first | decide | omega) (k1 (by omega))
/-- what the class's advance leaves -/
def AV (h g : hT) : Prop := (∀ a, a ≠ 76 → g a = h a) ∧ ∀ j, j < 4 → g 76 j = h 76 j
theorem AV_u {h g : hT} {j z : Int} (a : AV h g) (hj : 4 ≤ j) : AV h (up g 76 j z) := ⟨fun b q => by rw [up_ne q]; exact a.1 b q, fun i hi => by rw [up_k (by omega)]; exact a.2 i hi⟩
theorem c_advance {e : Int} (hTp : TP (h 77) sz t) (e1 : h 76 1 = sz) (e6 : h 76 6 = e) (he : 0 ≤ e ∧ e ≤ sz) (k : ∀ g, AV h g → TC g (tkF t sz e) → KV g) : ClV (d + 2) mX0_advance [vr 76] h KV := by
  have hz := hTp.1
  have ht := hTp.2
  have gT : ∀ g, AV h g → TP (g 77) sz t := fun g a => by rw [a.1 77 (by decide)]; exact hTp
  have g1 : ∀ g, AV h g → g 76 1 = sz := fun g a => by rw [a.2 1 (by decide)]; exact e1
  have hs := skF_b t sz (sz - e).toNat e (by omega)
  have fin : ∀ (g : hT) (S : tkT), AV h g → TC g S → S = tkF t sz e → Yr (d + 1) mX0_advance 252 [vr 76] [] g (rV KV) := by
    intro g S a c q
    subst q
    exact yr_vret dX0_advance_252 rfl (k g a c)
  have p96 : ∀ (n : Nat) (x : Int) (g : hT), AV h g → 0 ≤ x → x + n = sz → g 76 5 = skF t sz e (sz - e).toNat → g 76 6 = x → g 76 4 = 1 → g 76 7 = 0 → (skF t sz e (sz - e).toNat, ltF t sz x n, 1, 0) = tkF t sz e → Yr (d + 1) mX0_advance 96 [vr 76] [] g (rV KV) := by
    intro n
    induction n with
    | zero =>
      intro x g a x0 hx g5 g6 g4 g7 q
      refine yr_aload_n (pq := 97) rfl dX0_advance_96 rfl ?_
      refine yr_getI (pq := 100) 6 rfl dX0_advance_97 kF_0_35 (by decide) rfl (by decide) ?_
      refine yr_aload_n (pq := 101) rfl dX0_advance_100 rfl ?_
      refine yr_getI (pq := 104) 1 rfl dX0_advance_101 kF_0_15 (by decide) rfl (by decide) ?_
      rw [g6, g1 g a]
      refine yr_ic_ge (pq := 107) (t := 252) rfl dX0_advance_104 rfl (by omega) (by omega) (fun _ => ?_) (fun q9 => absurd (by omega) q9)
      exact fin g (_, x, 1, 0) a ⟨g5, g6, g4, g7⟩ q
    | succ n ih =>
      intro x g a x0 hx g5 g6 g4 g7 q
      have hb := (ht x x0 (by omega)).2
      rw [ltF] at q
      refine yr_aload_n (pq := 97) rfl dX0_advance_96 rfl ?_
      refine yr_getI (pq := 100) 6 rfl dX0_advance_97 kF_0_35 (by decide) rfl (by decide) ?_
      refine yr_aload_n (pq := 101) rfl dX0_advance_100 rfl ?_
      refine yr_getI (pq := 104) 1 rfl dX0_advance_101 kF_0_15 (by decide) rfl (by decide) ?_
      rw [g6, g1 g a]
      refine yr_ic_ge (pq := 107) (t := 252) rfl dX0_advance_104 rfl (by omega) (by omega) (fun q9 => absurd q9 (by omega)) (fun _ => ?_)
      refine yr_aload_n (pq := 108) rfl dX0_advance_107 rfl ?_
      refine yr_aload_n (pq := 109) rfl dX0_advance_108 rfl ?_
      refine yr_getI (pq := 112) 6 rfl dX0_advance_109 kF_0_35 (by decide) rfl (by decide) ?_
      rw [g6]
      refine yr_vI1 (pq := 115) rfl dX0_advance_112 kM_0_48 (by decide) (by decide) cat0 (c_byteAt (gT g a) (g1 g a) (by omega) (fun _ => ?_) (fun q9 => by omega))
      refine yr_sI1 (pq := 118) rfl dX0_advance_115 kM_0_52 (by decide) cat0 (c_isLetter (by omega) (fun q2 => ?_) (fun q2 => ?_))
      · rw [if_pos ⟨by omega, q2⟩] at q
        refine yr_if_eq (pq := 121) (t := 252) rfl dX0_advance_118 rfl (by decide) (fun q9 => absurd q9 (by decide)) (fun _ => ?_)
        refine yr_aload_n (pq := 122) rfl dX0_advance_121 rfl ?_
        refine yr_dup (pq := 123) rfl dX0_advance_122 rfl ?_
        refine yr_getI (pq := 126) 6 rfl dX0_advance_123 kF_0_35 (by decide) rfl (by decide) ?_
        refine yr_iconst (pq := 127) rfl dX0_advance_126 ?_
        refine yr_iadd (pq := 128) rfl dX0_advance_127 ?_
        refine yr_putI (pq := 131) 6 rfl dX0_advance_128 kF_0_35 (by decide) rfl rfl (by decide) ?_
        refine yr_goto (t := 96) dX0_advance_131 rfl ?_
        rw [g6]
        exact ih _ _ (AV_u a (by decide)) (by omega) (by omega) (by rw [up_k (by decide)]; exact g5) (by rw [up_s]) (by rw [up_k (by decide)]; exact g4) (by rw [up_k (by decide)]; exact g7) q
      · rw [if_neg (fun z => q2 z.2)] at q
        refine yr_if_eq (pq := 121) (t := 252) rfl dX0_advance_118 rfl (by decide) (fun _ => ?_) (fun q9 => absurd (by decide) q9)
        exact fin g (_, x, 1, 0) a ⟨g5, g6, g4, g7⟩ q
  have p153 : ∀ (n : Nat) (x v : Int) (g : hT), AV h g → 0 ≤ x → x + n = sz → (0 ≤ v ∧ v ≤ 10000) → g 76 5 = skF t sz e (sz - e).toNat → g 76 6 = x → g 76 4 = 2 → g 76 7 = v → (skF t sz e (sz - e).toNat, (dgF t sz x v n).1, 2, (dgF t sz x v n).2) = tkF t sz e → Yr (d + 1) mX0_advance 153 [vr 76] [] g (rV KV) := by
    intro n
    induction n with
    | zero =>
      intro x v g a x0 hx hv g5 g6 g4 g7 q
      refine yr_aload_n (pq := 154) rfl dX0_advance_153 rfl ?_
      refine yr_getI (pq := 157) 6 rfl dX0_advance_154 kF_0_35 (by decide) rfl (by decide) ?_
      refine yr_aload_n (pq := 158) rfl dX0_advance_157 rfl ?_
      refine yr_getI (pq := 161) 1 rfl dX0_advance_158 kF_0_15 (by decide) rfl (by decide) ?_
      rw [g6, g1 g a]
      refine yr_ic_ge (pq := 164) (t := 252) rfl dX0_advance_161 rfl (by omega) (by omega) (fun _ => ?_) (fun q9 => absurd (by omega) q9)
      exact fin g (_, x, 2, v) a ⟨g5, g6, g4, g7⟩ q
    | succ n ih =>
      intro x v g a x0 hx hv g5 g6 g4 g7 q
      have hb := (ht x x0 (by omega)).2
      rw [dgF] at q
      refine yr_aload_n (pq := 154) rfl dX0_advance_153 rfl ?_
      refine yr_getI (pq := 157) 6 rfl dX0_advance_154 kF_0_35 (by decide) rfl (by decide) ?_
      refine yr_aload_n (pq := 158) rfl dX0_advance_157 rfl ?_
      refine yr_getI (pq := 161) 1 rfl dX0_advance_158 kF_0_15 (by decide) rfl (by decide) ?_
      rw [g6, g1 g a]
      refine yr_ic_ge (pq := 164) (t := 252) rfl dX0_advance_161 rfl (by omega) (by omega) (fun q9 => absurd q9 (by omega)) (fun _ => ?_)
      refine yr_aload_n (pq := 165) rfl dX0_advance_164 rfl ?_
      refine yr_aload_n (pq := 166) rfl dX0_advance_165 rfl ?_
      refine yr_getI (pq := 169) 6 rfl dX0_advance_166 kF_0_35 (by decide) rfl (by decide) ?_
      rw [g6]
      refine yr_vI1 (pq := 172) rfl dX0_advance_169 kM_0_48 (by decide) (by decide) cat0 (c_byteAt (gT g a) (g1 g a) (by omega) (fun _ => ?_) (fun q9 => by omega))
      refine yr_sI1 (pq := 175) rfl dX0_advance_172 kM_0_56 (by decide) cat0 (c_isDigit (by omega) (fun q2 => ?_) (fun q2 => ?_))
      · rw [if_pos ⟨by omega, q2⟩] at q
        refine yr_if_eq (pq := 178) (t := 252) rfl dX0_advance_175 rfl (by decide) (fun q9 => absurd q9 (by decide)) (fun _ => ?_)
        refine yr_aload_n (pq := 179) rfl dX0_advance_178 rfl ?_
        refine yr_sipush (pq := 182) rfl dX0_advance_179 rfl ?_
        refine yr_aload_n (pq := 183) rfl dX0_advance_182 rfl ?_
        refine yr_getI (pq := 186) 7 rfl dX0_advance_183 kF_0_38 (by decide) rfl (by decide) ?_
        refine yr_bipush (pq := 188) rfl dX0_advance_186 rfl ?_
        refine yr_imul (pq := 189) rfl dX0_advance_188 ?_
        refine yr_aload_n (pq := 190) rfl dX0_advance_189 rfl ?_
        refine yr_aload_n (pq := 191) rfl dX0_advance_190 rfl ?_
        refine yr_getI (pq := 194) 6 rfl dX0_advance_191 kF_0_35 (by decide) rfl (by decide) ?_
        rw [g6, g7]
        refine yr_vI1 (pq := 197) rfl dX0_advance_194 kM_0_48 (by decide) (by decide) (Nat.le_of_ble_eq_true rfl) (c_byteAt (gT g a) (g1 g a) (by omega) (fun _ => ?_) (fun q9 => by omega))
        refine yr_iadd (pq := 198) rfl dX0_advance_197 ?_
        refine yr_bipush (pq := 200) rfl dX0_advance_198 rfl ?_
        refine yr_isub (pq := 201) rfl dX0_advance_200 ?_
        refine yr_sI2 (pq := 204) rfl dX0_advance_201 kM_0_59 (by decide) (Nat.le_of_ble_eq_true rfl) (j_min (by decide) (by omega) ?_)
        refine yr_putI (pq := 207) 7 rfl dX0_advance_204 kF_0_38 (by decide) rfl rfl (by decide) ?_
        refine yr_aload_n (pq := 208) rfl dX0_advance_207 rfl ?_
        refine yr_dup (pq := 209) rfl dX0_advance_208 rfl ?_
        refine yr_getI (pq := 212) 6 rfl dX0_advance_209 kF_0_35 (by decide) rfl (by decide) ?_
        refine yr_iconst (pq := 213) rfl dX0_advance_212 ?_
        refine yr_iadd (pq := 214) rfl dX0_advance_213 ?_
        refine yr_putI (pq := 217) 6 rfl dX0_advance_214 kF_0_35 (by decide) rfl rfl (by decide) ?_
        refine yr_goto (t := 153) dX0_advance_217 rfl ?_
        rw [up_k (show (6 : Int) ≠ 7 by decide), g6]
        exact ih _ _ _ (AV_u (AV_u a (by decide)) (by decide)) (by omega) (by omega) (by omega) (by rw [up_k (by decide), up_k (by decide)]; exact g5) (by rw [up_s]) (by rw [up_k (by decide), up_k (by decide)]; exact g4) (by rw [up_k (by decide), up_s]) q
      · rw [if_neg (fun z => q2 z.2)] at q
        refine yr_if_eq (pq := 178) (t := 252) rfl dX0_advance_175 rfl (by decide) (fun _ => ?_) (fun q9 => absurd (by decide) q9)
        exact fin g (_, x, 2, v) a ⟨g5, g6, g4, g7⟩ q
  have p45 : ∀ (g : hT), AV h g → g 76 5 = skF t sz e (sz - e).toNat → Yr (d + 1) mX0_advance 45 [vr 76] [] g (rV KV) := by
    intro g a g5
    have q : tkB t sz (skF t sz e (sz - e).toNat) = tkF t sz e := rfl
    generalize hb : skF t sz e (sz - e).toNat = b at g5 q hs p96 p153
    unfold tkB at q
    refine yr_aload_n (pq := 46) rfl dX0_advance_45 rfl ?_
    refine yr_aload_n (pq := 47) rfl dX0_advance_46 rfl ?_
    refine yr_getI (pq := 50) 5 rfl dX0_advance_47 kF_0_32 (by decide) rfl (by decide) ?_
    refine yr_putI (pq := 53) 6 rfl dX0_advance_50 kF_0_35 (by decide) rfl rfl (by decide) ?_
    refine yr_aload_n (pq := 54) rfl dX0_advance_53 rfl ?_
    refine yr_iconst (pq := 55) rfl dX0_advance_54 ?_
    refine yr_putI (pq := 58) 7 rfl dX0_advance_55 kF_0_38 (by decide) rfl rfl (by decide) ?_
    refine yr_aload_n (pq := 59) rfl dX0_advance_58 rfl ?_
    refine yr_getI (pq := 62) 5 rfl dX0_advance_59 kF_0_32 (by decide) rfl (by decide) ?_
    refine yr_aload_n (pq := 63) rfl dX0_advance_62 rfl ?_
    refine yr_getI (pq := 66) 1 rfl dX0_advance_63 kF_0_15 (by decide) rfl (by decide) ?_
    simp (disch := omega) only [up_o, up_k, up_s]
    rw [g5, g1 g a]
    have a2 : AV h (up (up g 76 6 b) 76 7 0) := AV_u (AV_u a (by decide)) (by decide)
    have f5 : up (up g 76 6 b) 76 7 0 76 5 = b := by rw [up_k (by decide), up_k (by decide)]; exact g5
    have f6 : up (up g 76 6 b) 76 7 0 76 6 = b := by rw [up_k (by decide), up_s]
    have f7 : up (up g 76 6 b) 76 7 0 76 7 = 0 := by rw [up_s]
    generalize up (up g 76 6 b) 76 7 0 = f at a2 f5 f6 f7 ⊢
    refine yr_ic_lt (pq := 69) (t := 77) rfl dX0_advance_66 rfl (by omega) (by omega) (fun q2 => ?_) (fun q2 => ?_)
    · rw [if_neg (by omega)] at q
      have bb := (ht b (by omega) q2).2
      refine yr_aload_n (pq := 78) rfl dX0_advance_77 rfl ?_
      refine yr_aload_n (pq := 79) rfl dX0_advance_78 rfl ?_
      refine yr_getI (pq := 82) 5 rfl dX0_advance_79 kF_0_32 (by decide) rfl (by decide) ?_
      rw [f5]
      refine yr_vI1 (pq := 85) rfl dX0_advance_82 kM_0_48 (by decide) (by decide) cat0 (c_byteAt (gT f a2) (g1 f a2) (by omega) (fun _ => ?_) (fun q9 => by omega))
      refine yr_sI1 (pq := 88) rfl dX0_advance_85 kM_0_52 (by decide) cat0 (c_isLetter (by omega) (fun q3 => ?_) (fun q3 => ?_))
      · rw [if_pos q3] at q
        refine yr_if_eq (pq := 91) (t := 134) rfl dX0_advance_88 rfl (by decide) (fun q9 => absurd q9 (by decide)) (fun _ => ?_)
        refine yr_aload_n (pq := 92) rfl dX0_advance_91 rfl ?_
        refine yr_iconst (pq := 93) rfl dX0_advance_92 ?_
        refine yr_putI (pq := 96) 4 rfl dX0_advance_93 kF_0_29 (by decide) rfl rfl (by decide) ?_
        exact p96 (sz - b).toNat b _ (AV_u a2 (by decide)) (by omega) (by omega) (by rw [up_k (by decide)]; exact f5) (by rw [up_k (by decide)]; exact f6) (by rw [up_s]) (by rw [up_k (by decide)]; exact f7) q
      · rw [if_neg q3] at q
        refine yr_if_eq (pq := 91) (t := 134) rfl dX0_advance_88 rfl (by decide) (fun _ => ?_) (fun q9 => absurd (by decide) q9)
        refine yr_aload_n (pq := 135) rfl dX0_advance_134 rfl ?_
        refine yr_aload_n (pq := 136) rfl dX0_advance_135 rfl ?_
        refine yr_getI (pq := 139) 5 rfl dX0_advance_136 kF_0_32 (by decide) rfl (by decide) ?_
        rw [f5]
        refine yr_vI1 (pq := 142) rfl dX0_advance_139 kM_0_48 (by decide) (by decide) cat0 (c_byteAt (gT f a2) (g1 f a2) (by omega) (fun _ => ?_) (fun q9 => by omega))
        refine yr_sI1 (pq := 145) rfl dX0_advance_142 kM_0_56 (by decide) cat0 (c_isDigit (by omega) (fun q4 => ?_) (fun q4 => ?_))
        · rw [if_pos q4] at q
          refine yr_if_eq (pq := 148) (t := 220) rfl dX0_advance_145 rfl (by decide) (fun q9 => absurd q9 (by decide)) (fun _ => ?_)
          refine yr_aload_n (pq := 149) rfl dX0_advance_148 rfl ?_
          refine yr_iconst (pq := 150) rfl dX0_advance_149 ?_
          refine yr_putI (pq := 153) 4 rfl dX0_advance_150 kF_0_29 (by decide) rfl rfl (by decide) ?_
          exact p153 (sz - b).toNat b 0 _ (AV_u a2 (by decide)) (by omega) (by omega) (by decide) (by rw [up_k (by decide)]; exact f5) (by rw [up_k (by decide)]; exact f6) (by rw [up_s]) (by rw [up_k (by decide)]; exact f7) q
        · rw [if_neg q4] at q
          refine yr_if_eq (pq := 148) (t := 220) rfl dX0_advance_145 rfl (by decide) (fun _ => ?_) (fun q9 => absurd (by decide) q9)
          refine yr_aload_n (pq := 221) rfl dX0_advance_220 rfl ?_
          refine yr_aload_n (pq := 222) rfl dX0_advance_221 rfl ?_
          refine yr_aload_n (pq := 223) rfl dX0_advance_222 rfl ?_
          refine yr_getI (pq := 226) 5 rfl dX0_advance_223 kF_0_32 (by decide) rfl (by decide) ?_
          rw [f5]
          refine yr_vI1 (pq := 229) rfl dX0_advance_226 kM_0_48 (by decide) (by decide) (Nat.le_of_ble_eq_true rfl) (c_byteAt (gT f a2) (g1 f a2) (by omega) (fun _ => ?_) (fun q9 => by omega))
          refine yr_bipush (pq := 231) rfl dX0_advance_229 rfl ?_
          refine yr_ic_ne (pq := 234) (t := 238) rfl dX0_advance_231 rfl (by omega) (by omega) (fun q5 => ?_) (fun q5 => ?_)
          · rw [if_neg q5] at q
            refine yr_iconst (pq := 239) rfl dX0_advance_238 ?_
            refine yr_putI (pq := 242) 4 rfl dX0_advance_239 kF_0_29 (by decide) rfl rfl (by decide) ?_
            refine yr_aload_n (pq := 243) rfl dX0_advance_242 rfl ?_
            refine yr_dup (pq := 244) rfl dX0_advance_243 rfl ?_
            refine yr_getI (pq := 247) 6 rfl dX0_advance_244 kF_0_35 (by decide) rfl (by decide) ?_
            refine yr_iconst (pq := 248) rfl dX0_advance_247 ?_
            refine yr_iadd (pq := 249) rfl dX0_advance_248 ?_
            refine yr_putI (pq := 252) 6 rfl dX0_advance_249 kF_0_35 (by decide) rfl rfl (by decide) ?_
            rw [up_k (show (6 : Int) ≠ 4 by decide), f6]
            exact fin _ (b, b + 1, 4, 0) (AV_u (AV_u a2 (by decide)) (by decide)) ⟨by rw [up_k (by decide), up_k (by decide)]; exact f5, by rw [up_s], by rw [up_k (by decide), up_s], by rw [up_k (by decide), up_k (by decide)]; exact f7⟩ q
          · rw [if_pos q5] at q
            refine yr_iconst (pq := 235) rfl dX0_advance_234 ?_
            refine yr_goto (t := 239) dX0_advance_235 rfl ?_
            refine yr_putI (pq := 242) 4 rfl dX0_advance_239 kF_0_29 (by decide) rfl rfl (by decide) ?_
            refine yr_aload_n (pq := 243) rfl dX0_advance_242 rfl ?_
            refine yr_dup (pq := 244) rfl dX0_advance_243 rfl ?_
            refine yr_getI (pq := 247) 6 rfl dX0_advance_244 kF_0_35 (by decide) rfl (by decide) ?_
            refine yr_iconst (pq := 248) rfl dX0_advance_247 ?_
            refine yr_iadd (pq := 249) rfl dX0_advance_248 ?_
            refine yr_putI (pq := 252) 6 rfl dX0_advance_249 kF_0_35 (by decide) rfl rfl (by decide) ?_
            rw [up_k (show (6 : Int) ≠ 4 by decide), f6]
            exact fin _ (b, b + 1, 3, 0) (AV_u (AV_u a2 (by decide)) (by decide)) ⟨by rw [up_k (by decide), up_k (by decide)]; exact f5, by rw [up_s], by rw [up_k (by decide), up_s], by rw [up_k (by decide), up_k (by decide)]; exact f7⟩ q
    · rw [if_pos (by omega)] at q
      refine yr_aload_n (pq := 70) rfl dX0_advance_69 rfl ?_
      refine yr_iconst (pq := 71) rfl dX0_advance_70 ?_
      refine yr_putI (pq := 74) 4 rfl dX0_advance_71 kF_0_29 (by decide) rfl rfl (by decide) ?_
      refine yr_goto (t := 252) dX0_advance_74 rfl ?_
      exact fin _ (b, b, 0, 0) (AV_u a2 (by decide)) ⟨by rw [up_k (by decide)]; exact f5, by rw [up_k (by decide)]; exact f6, by rw [up_s], by rw [up_k (by decide)]; exact f7⟩ q
  have p8 : ∀ (n : Nat) (x : Int) (g : hT), AV h g → 0 ≤ x → x + n = sz → g 76 5 = x → skF t sz x n = skF t sz e (sz - e).toNat → Yr (d + 1) mX0_advance 8 [vr 76] [] g (rV KV) := by
    intro n
    induction n with
    | zero =>
      intro x g a x0 hx g5 q
      rw [skF] at q
      refine yr_aload_n (pq := 9) rfl dX0_advance_8 rfl ?_
      refine yr_getI (pq := 12) 5 rfl dX0_advance_9 kF_0_32 (by decide) rfl (by decide) ?_
      refine yr_aload_n (pq := 13) rfl dX0_advance_12 rfl ?_
      refine yr_getI (pq := 16) 1 rfl dX0_advance_13 kF_0_15 (by decide) rfl (by decide) ?_
      rw [g5, g1 g a]
      refine yr_ic_ge (pq := 19) (t := 45) rfl dX0_advance_16 rfl (by omega) (by omega) (fun _ => ?_) (fun q9 => absurd (by omega) q9)
      exact p45 g a (by rw [g5, q])
    | succ n ih =>
      intro x g a x0 hx g5 q
      have hb := (ht x x0 (by omega)).2
      rw [skF] at q
      refine yr_aload_n (pq := 9) rfl dX0_advance_8 rfl ?_
      refine yr_getI (pq := 12) 5 rfl dX0_advance_9 kF_0_32 (by decide) rfl (by decide) ?_
      refine yr_aload_n (pq := 13) rfl dX0_advance_12 rfl ?_
      refine yr_getI (pq := 16) 1 rfl dX0_advance_13 kF_0_15 (by decide) rfl (by decide) ?_
      rw [g5, g1 g a]
      refine yr_ic_ge (pq := 19) (t := 45) rfl dX0_advance_16 rfl (by omega) (by omega) (fun q9 => absurd q9 (by omega)) (fun _ => ?_)
      refine yr_aload_n (pq := 20) rfl dX0_advance_19 rfl ?_
      refine yr_aload_n (pq := 21) rfl dX0_advance_20 rfl ?_
      refine yr_getI (pq := 24) 5 rfl dX0_advance_21 kF_0_32 (by decide) rfl (by decide) ?_
      rw [g5]
      refine yr_vI1 (pq := 27) rfl dX0_advance_24 kM_0_48 (by decide) (by decide) cat0 (c_byteAt (gT g a) (g1 g a) (by omega) (fun _ => ?_) (fun q9 => by omega))
      refine yr_bipush (pq := 29) rfl dX0_advance_27 rfl ?_
      refine yr_ic_ne (pq := 32) (t := 45) rfl dX0_advance_29 rfl (by omega) (by omega) (fun q2 => ?_) (fun q2 => ?_)
      · rw [if_neg (fun z => q2 z.2)] at q
        exact p45 g a (by rw [g5, q])
      · rw [if_pos ⟨by omega, q2⟩] at q
        refine yr_aload_n (pq := 33) rfl dX0_advance_32 rfl ?_
        refine yr_dup (pq := 34) rfl dX0_advance_33 rfl ?_
        refine yr_getI (pq := 37) 5 rfl dX0_advance_34 kF_0_32 (by decide) rfl (by decide) ?_
        refine yr_iconst (pq := 38) rfl dX0_advance_37 ?_
        refine yr_iadd (pq := 39) rfl dX0_advance_38 ?_
        refine yr_putI (pq := 42) 5 rfl dX0_advance_39 kF_0_32 (by decide) rfl rfl (by decide) ?_
        refine yr_goto (t := 8) dX0_advance_42 rfl ?_
        rw [g5]
        exact ih _ _ (AV_u a (by decide)) (by omega) (by omega) (by rw [up_s]) q
  refine cl_in (al := [vr 76]) rfl (Nat.le_of_ble_eq_true rfl) (by simp [vi_cat, vr_cat, vs_cat]) ?_
  refine yr_aload_n (pq := 1) rfl dX0_advance_0 rfl ?_
  refine yr_aload_n (pq := 2) rfl dX0_advance_1 rfl ?_
  refine yr_getI (pq := 5) 6 rfl dX0_advance_2 kF_0_35 (by decide) rfl (by decide) ?_
  refine yr_putI (pq := 8) 5 rfl dX0_advance_5 kF_0_32 (by decide) rfl rfl (by decide) ?_
  rw [e6]
  exact p8 (sz - e).toNat e _ (AV_u ⟨fun _ _ => rfl, fun _ _ => rfl⟩ (by decide)) he.1 (by omega) (by rw [up_s]) rfl
end TK
