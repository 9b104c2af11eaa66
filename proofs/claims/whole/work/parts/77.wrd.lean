/-! the reference's tokens; words and numbers -/
def MV (h g : hT) : Prop := (∀ a, a ≠ 108 → g a = h a) ∧ ∀ j, (j < 17 ∨ 20 < j) → g 108 j = h 108 j
theorem MV_u {h g : hT} {j z : Int} (a : MV h g) (hj : 17 ≤ j ∧ j ≤ 20) : MV h (up g 108 j z) := ⟨fun b q => by rw [up_ne q]; exact a.1 b q, fun i hi => by rw [up_k (by omega)]; exact a.2 i hi⟩
theorem MV_t {h g f : hT} (a : MV h g) (b : MV g f) : MV h f := ⟨fun x q => (b.1 x q).trans (a.1 x q), fun j q => (b.2 j q).trans (a.2 j q)⟩
theorem AV_t {h g f : hT} (a : AV h g) (b : AV g f) : AV h f := ⟨fun x q => (b.1 x q).trans (a.1 x q), fun j q => (b.2 j q).trans (a.2 j q)⟩
section TN
variable {d : Nat} {h : hT} {K : Int → hT → Prop} {KV : hT → Prop} {t : Int → Int} {sz : Int}
theorem m_byteAt {k : Int} (hTp : TP (h 116) sz t) (e1 : h 108 16 = sz) (hk : 0 ≤ k ∧ k ≤ 1000) (k1 : k < sz → K (t k) h) (k0 : sz ≤ k → K (-1) h) : ClI (d + 1) mX8_byteAt [vr 108, vi k] h K := by
  obtain ⟨hz, ht⟩ := hTp
  refine cl_in (al := [vr 108, vi k]) rfl (Nat.le_of_ble_eq_true rfl) (by simp [vi_cat, vr_cat, vs_cat]) ?_
  refine yr_iload_n (pq := 1) rfl dX8_byteAt_0 rfl ?_
  refine yr_aload_n (pq := 2) rfl dX8_byteAt_1 rfl ?_
  refine yr_getI (pq := 5) 16 rfl dX8_byteAt_2 kF_8_252 (by decide) rfl (by decide) ?_
  rw [e1]
  refine yr_ic_ge (pq := 8) (t := 17) rfl dX8_byteAt_5 rfl (by omega) (by omega) (fun q => ?_) (fun q => ?_)
  · refine yr_iconst (pq := 18) rfl dX8_byteAt_17 ?_
    exact yr_iret dX8_byteAt_18 rfl (k0 q)
  · refine yr_aload_n (pq := 9) rfl dX8_byteAt_8 rfl ?_
    refine yr_getR (pq := 12) (b := 116) 15 rfl dX8_byteAt_9 kF_8_35 (by decide) rfl ?_
    refine yr_iload_n (pq := 13) rfl dX8_byteAt_12 rfl ?_
    refine yr_iald (pq := 14) rfl dX8_byteAt_13 rfl (by decide) (by omega) ?_
    refine yr_goto (t := 18) dX8_byteAt_14 rfl ?_
    rw [(ht k hk.1 (by omega)).1]
    exact yr_iret dX8_byteAt_18 rfl (k1 (by omega))
theorem m_next {e : Int} (hTp : TP (h 116) sz t) (e1 : h 108 16 = sz) (e6 : h 108 18 = e) (he : 0 ≤ e ∧ e ≤ sz) (k : ∀ g, MV h g → TM g (tkF t sz e) → KV g) : ClV (d + 2) mX8_next_ [vr 108] h KV := by
  have hz := hTp.1
  have ht := hTp.2
  have gT : ∀ g, MV h g → TP (g 116) sz t := fun g a => by rw [a.1 116 (by decide)]; exact hTp
  have g1 : ∀ g, MV h g → g 108 16 = sz := fun g a => by rw [a.2 16 (by decide)]; exact e1
  have hs := skF_b t sz (sz - e).toNat e (by omega)
  have fin : ∀ (g : hT) (S : tkT), MV h g → TM g S → S = tkF t sz e → ∀ x, Yr (d + 1) mX8_next_ 206 [vr 108, x] [] g (rV KV) := by
    intro g S a c q x
    subst q
    exact yr_vret dX8_next__206 rfl (k g a c)
  have p96 : ∀ (n : Nat) (x : Int) (g : hT), MV h g → 0 ≤ x → x + n = sz → g 108 17 = skF t sz e (sz - e).toNat → g 108 18 = x → g 108 19 = 1 → g 108 20 = 0 → (skF t sz e (sz - e).toNat, ltF t sz x n, 1, 0) = tkF t sz e → ∀ y, Yr (d + 1) mX8_next_ 84 [vr 108, y] [] g (rV KV) := by
    intro n
    induction n with
    | zero =>
      intro x g a x0 hx g5 g6 g4 g7 q y
      refine yr_aload_n (pq := 85) rfl dX8_next__84 rfl ?_
      refine yr_aload_n (pq := 86) rfl dX8_next__85 rfl ?_
      refine yr_getI (pq := 89) 18 rfl dX8_next__86 kF_8_255 (by decide) rfl (by decide) ?_
      rw [g6]
      refine yr_vI1 (pq := 92) rfl dX8_next__89 kM_8_261 (by decide) (by decide) cat0 (m_byteAt (gT g a) (g1 g a) (by omega) (fun q9 => by omega) (fun _ => ?_))
      refine yr_bipush (pq := 94) rfl dX8_next__92 rfl ?_
      refine yr_bipush (pq := 96) rfl dX8_next__94 rfl ?_
      refine yr_sI3 (pq := 99) rfl dX8_next__96 kM_8_78 (by decide) cat0 (m_within (by decide) (by decide) (by decide) (fun q9 => absurd q9 (by decide)) (fun _ => ?_))
      refine yr_if_eq (pq := 102) (t := 206) rfl dX8_next__99 rfl (by decide) (fun _ => ?_) (fun q9 => absurd (by decide) q9)
      exact fin g (_, x, 1, 0) a ⟨g5, g6, g4, g7⟩ q _
    | succ n ih =>
      intro x g a x0 hx g5 g6 g4 g7 q y
      have hb := (ht x x0 (by omega)).2
      rw [ltF] at q
      refine yr_aload_n (pq := 85) rfl dX8_next__84 rfl ?_
      refine yr_aload_n (pq := 86) rfl dX8_next__85 rfl ?_
      refine yr_getI (pq := 89) 18 rfl dX8_next__86 kF_8_255 (by decide) rfl (by decide) ?_
      rw [g6]
      refine yr_vI1 (pq := 92) rfl dX8_next__89 kM_8_261 (by decide) (by decide) cat0 (m_byteAt (gT g a) (g1 g a) (by omega) (fun _ => ?_) (fun q9 => by omega))
      refine yr_bipush (pq := 94) rfl dX8_next__92 rfl ?_
      refine yr_bipush (pq := 96) rfl dX8_next__94 rfl ?_
      refine yr_sI3 (pq := 99) rfl dX8_next__96 kM_8_78 (by decide) cat0 (m_within (by omega) (by decide) (by decide) (fun q2 => ?_) (fun q2 => ?_))
      · rw [if_pos ⟨by omega, q2⟩] at q
        refine yr_if_eq (pq := 102) (t := 206) rfl dX8_next__99 rfl (by decide) (fun q9 => absurd q9 (by decide)) (fun _ => ?_)
        refine yr_aload_n (pq := 103) rfl dX8_next__102 rfl ?_
        refine yr_dup (pq := 104) rfl dX8_next__103 rfl ?_
        refine yr_getI (pq := 107) 18 rfl dX8_next__104 kF_8_255 (by decide) rfl (by decide) ?_
        refine yr_iconst (pq := 108) rfl dX8_next__107 ?_
        refine yr_iadd (pq := 109) rfl dX8_next__108 ?_
        refine yr_putI (pq := 112) 18 rfl dX8_next__109 kF_8_255 (by decide) rfl rfl (by decide) ?_
        refine yr_goto (t := 84) dX8_next__112 rfl ?_
        rw [g6]
        exact ih _ _ (MV_u a (by decide)) (by omega) (by omega) (by rw [up_k (by decide)]; exact g5) (by rw [up_s]) (by rw [up_k (by decide)]; exact g4) (by rw [up_k (by decide)]; exact g7) q _
      · rw [if_neg (fun z => q2 z.2)] at q
        refine yr_if_eq (pq := 102) (t := 206) rfl dX8_next__99 rfl (by decide) (fun _ => ?_) (fun q9 => absurd (by decide) q9)
        exact fin g (_, x, 1, 0) a ⟨g5, g6, g4, g7⟩ q _
  have p153 : ∀ (n : Nat) (x v : Int) (g : hT), MV h g → 0 ≤ x → x + n = sz → (0 ≤ v ∧ v ≤ 10000) → g 108 17 = skF t sz e (sz - e).toNat → g 108 18 = x → g 108 19 = 2 → g 108 20 = v → (skF t sz e (sz - e).toNat, (dgF t sz x v n).1, 2, (dgF t sz x v n).2) = tkF t sz e → ∀ y, Yr (d + 1) mX8_next_ 131 [vr 108, y] [] g (rV KV) := by
    intro n
    induction n with
    | zero =>
      intro x v g a x0 hx hv g5 g6 g4 g7 q y
      refine yr_aload_n (pq := 132) rfl dX8_next__131 rfl ?_
      refine yr_aload_n (pq := 133) rfl dX8_next__132 rfl ?_
      refine yr_getI (pq := 136) 18 rfl dX8_next__133 kF_8_255 (by decide) rfl (by decide) ?_
      rw [g6]
      refine yr_vI1 (pq := 139) rfl dX8_next__136 kM_8_261 (by decide) (by decide) cat0 (m_byteAt (gT g a) (g1 g a) (by omega) (fun q9 => by omega) (fun _ => ?_))
      refine yr_bipush (pq := 141) rfl dX8_next__139 rfl ?_
      refine yr_bipush (pq := 143) rfl dX8_next__141 rfl ?_
      refine yr_sI3 (pq := 146) rfl dX8_next__143 kM_8_78 (by decide) cat0 (m_within (by decide) (by decide) (by decide) (fun q9 => absurd q9 (by decide)) (fun _ => ?_))
      refine yr_if_eq (pq := 149) (t := 206) rfl dX8_next__146 rfl (by decide) (fun _ => ?_) (fun q9 => absurd (by decide) q9)
      exact fin g (_, x, 2, v) a ⟨g5, g6, g4, g7⟩ q _
    | succ n ih =>
      intro x v g a x0 hx hv g5 g6 g4 g7 q y
      have hb := (ht x x0 (by omega)).2
      rw [dgF] at q
      refine yr_aload_n (pq := 132) rfl dX8_next__131 rfl ?_
      refine yr_aload_n (pq := 133) rfl dX8_next__132 rfl ?_
      refine yr_getI (pq := 136) 18 rfl dX8_next__133 kF_8_255 (by decide) rfl (by decide) ?_
      rw [g6]
      refine yr_vI1 (pq := 139) rfl dX8_next__136 kM_8_261 (by decide) (by decide) cat0 (m_byteAt (gT g a) (g1 g a) (by omega) (fun _ => ?_) (fun q9 => by omega))
      refine yr_bipush (pq := 141) rfl dX8_next__139 rfl ?_
      refine yr_bipush (pq := 143) rfl dX8_next__141 rfl ?_
      refine yr_sI3 (pq := 146) rfl dX8_next__143 kM_8_78 (by decide) cat0 (m_within (by omega) (by decide) (by decide) (fun q2 => ?_) (fun q2 => ?_))
      · rw [if_pos ⟨by omega, q2⟩] at q
        refine yr_if_eq (pq := 149) (t := 206) rfl dX8_next__146 rfl (by decide) (fun q9 => absurd q9 (by decide)) (fun _ => ?_)
        refine yr_aload_n (pq := 150) rfl dX8_next__149 rfl ?_
        refine yr_sipush (pq := 153) rfl dX8_next__150 rfl ?_
        refine yr_bipush (pq := 155) rfl dX8_next__153 rfl ?_
        refine yr_aload_n (pq := 156) rfl dX8_next__155 rfl ?_
        refine yr_getI (pq := 159) 20 rfl dX8_next__156 kF_8_264 (by decide) rfl (by decide) ?_
        refine yr_imul (pq := 160) rfl dX8_next__159 ?_
        refine yr_aload_n (pq := 161) rfl dX8_next__160 rfl ?_
        refine yr_aload_n (pq := 162) rfl dX8_next__161 rfl ?_
        refine yr_getI (pq := 165) 18 rfl dX8_next__162 kF_8_255 (by decide) rfl (by decide) ?_
        rw [g6, g7]
        refine yr_vI1 (pq := 168) rfl dX8_next__165 kM_8_261 (by decide) (by decide) (Nat.le_of_ble_eq_true rfl) (m_byteAt (gT g a) (g1 g a) (by omega) (fun _ => ?_) (fun q9 => by omega))
        refine yr_iadd (pq := 169) rfl dX8_next__168 ?_
        refine yr_bipush (pq := 171) rfl dX8_next__169 rfl ?_
        refine yr_isub (pq := 172) rfl dX8_next__171 ?_
        rw [Int.mul_comm 10 v]
        refine yr_sI2 (pq := 175) rfl dX8_next__172 kM_8_86 (by decide) (Nat.le_of_ble_eq_true rfl) (j_min (by decide) (by omega) ?_)
        refine yr_putI (pq := 178) 20 rfl dX8_next__175 kF_8_264 (by decide) rfl rfl (by decide) ?_
        refine yr_aload_n (pq := 179) rfl dX8_next__178 rfl ?_
        refine yr_dup (pq := 180) rfl dX8_next__179 rfl ?_
        refine yr_getI (pq := 183) 18 rfl dX8_next__180 kF_8_255 (by decide) rfl (by decide) ?_
        refine yr_iconst (pq := 184) rfl dX8_next__183 ?_
        refine yr_iadd (pq := 185) rfl dX8_next__184 ?_
        refine yr_putI (pq := 188) 18 rfl dX8_next__185 kF_8_255 (by decide) rfl rfl (by decide) ?_
        refine yr_goto (t := 131) dX8_next__188 rfl ?_
        rw [up_k (show (18 : Int) ≠ 20 by decide), g6]
        exact ih _ _ _ (MV_u (MV_u a (by decide)) (by decide)) (by omega) (by omega) (by omega) (by rw [up_k (by decide), up_k (by decide)]; exact g5) (by rw [up_s]) (by rw [up_k (by decide), up_k (by decide)]; exact g4) (by rw [up_k (by decide), up_s]) q _
      · rw [if_neg (fun z => q2 z.2)] at q
        refine yr_if_eq (pq := 149) (t := 206) rfl dX8_next__146 rfl (by decide) (fun _ => ?_) (fun q9 => absurd (by decide) q9)
        exact fin g (_, x, 2, v) a ⟨g5, g6, g4, g7⟩ q _
  have p45 : ∀ (g : hT), MV h g → g 108 17 = skF t sz e (sz - e).toNat → ∀ y, Yr (d + 1) mX8_next_ 34 [vr 108, y] [] g (rV KV) := by
    intro g a g5 y
    have q : tkB t sz (skF t sz e (sz - e).toNat) = tkF t sz e := rfl
    generalize hb : skF t sz e (sz - e).toNat = b at g5 q hs p96 p153
    unfold tkB at q
    have a2 : MV h (up (up g 108 18 b) 108 20 0) := MV_u (MV_u a (by decide)) (by decide)
    have f5 : up (up g 108 18 b) 108 20 0 108 17 = b := by rw [up_k (by decide), up_k (by decide)]; exact g5
    have f6 : up (up g 108 18 b) 108 20 0 108 18 = b := by rw [up_k (by decide), up_s]
    have f7 : up (up g 108 18 b) 108 20 0 108 20 = 0 := by rw [up_s]
    refine yr_aload_n (pq := 35) rfl dX8_next__34 rfl ?_
    refine yr_aload_n (pq := 36) rfl dX8_next__35 rfl ?_
    refine yr_getI (pq := 39) 17 rfl dX8_next__36 kF_8_258 (by decide) rfl (by decide) ?_
    rw [g5]
    refine yr_vI1 (pq := 42) rfl dX8_next__39 kM_8_261 (by decide) (by decide) cat0 (m_byteAt (gT g a) (g1 g a) (by omega) (fun q2 => ?_) (fun q2 => ?_))
    · have bb := (ht b (by omega) q2).2
      rw [if_neg (by omega)] at q
      refine yr_istore1 (pq := 43) rfl dX8_next__42 ?_
      refine yr_aload_n (pq := 44) rfl dX8_next__43 rfl ?_
      refine yr_aload_n (pq := 45) rfl dX8_next__44 rfl ?_
      refine yr_getI (pq := 48) 17 rfl dX8_next__45 kF_8_258 (by decide) rfl (by decide) ?_
      refine yr_putI (pq := 51) 18 rfl dX8_next__48 kF_8_255 (by decide) rfl rfl (by decide) ?_
      refine yr_aload_n (pq := 52) rfl dX8_next__51 rfl ?_
      refine yr_iconst (pq := 53) rfl dX8_next__52 ?_
      refine yr_putI (pq := 56) 20 rfl dX8_next__53 kF_8_264 (by decide) rfl rfl (by decide) ?_
      refine yr_iload_n (pq := 57) rfl dX8_next__56 rfl ?_
      rw [g5]
      generalize up (up g 108 18 b) 108 20 0 = f at a2 f5 f6 f7 ⊢
      refine yr_if_ge (pq := 60) (t := 68) rfl dX8_next__57 rfl (by omega) (fun _ => ?_) (fun q9 => absurd (by omega) q9)
      refine yr_iload_n (pq := 69) rfl dX8_next__68 rfl ?_
      refine yr_bipush (pq := 71) rfl dX8_next__69 rfl ?_
      refine yr_bipush (pq := 73) rfl dX8_next__71 rfl ?_
      refine yr_sI3 (pq := 76) rfl dX8_next__73 kM_8_78 (by decide) cat0 (m_within (by omega) (by decide) (by decide) (fun q3 => ?_) (fun q3 => ?_))
      · rw [if_pos q3] at q
        refine yr_if_eq (pq := 79) (t := 115) rfl dX8_next__76 rfl (by decide) (fun q9 => absurd q9 (by decide)) (fun _ => ?_)
        refine yr_aload_n (pq := 80) rfl dX8_next__79 rfl ?_
        refine yr_iconst (pq := 81) rfl dX8_next__80 ?_
        refine yr_putI (pq := 84) 19 rfl dX8_next__81 kF_8_267 (by decide) rfl rfl (by decide) ?_
        exact p96 (sz - b).toNat b _ (MV_u a2 (by decide)) (by omega) (by omega) (by rw [up_k (by decide)]; exact f5) (by rw [up_k (by decide)]; exact f6) (by rw [up_s]) (by rw [up_k (by decide)]; exact f7) q _
      · rw [if_neg q3] at q
        refine yr_if_eq (pq := 79) (t := 115) rfl dX8_next__76 rfl (by decide) (fun _ => ?_) (fun q9 => absurd (by decide) q9)
        refine yr_iload_n (pq := 116) rfl dX8_next__115 rfl ?_
        refine yr_bipush (pq := 118) rfl dX8_next__116 rfl ?_
        refine yr_bipush (pq := 120) rfl dX8_next__118 rfl ?_
        refine yr_sI3 (pq := 123) rfl dX8_next__120 kM_8_78 (by decide) cat0 (m_within (by omega) (by decide) (by decide) (fun q4 => ?_) (fun q4 => ?_))
        · rw [if_pos q4] at q
          refine yr_if_eq (pq := 126) (t := 191) rfl dX8_next__123 rfl (by decide) (fun q9 => absurd q9 (by decide)) (fun _ => ?_)
          refine yr_aload_n (pq := 127) rfl dX8_next__126 rfl ?_
          refine yr_iconst (pq := 128) rfl dX8_next__127 ?_
          refine yr_putI (pq := 131) 19 rfl dX8_next__128 kF_8_267 (by decide) rfl rfl (by decide) ?_
          exact p153 (sz - b).toNat b 0 _ (MV_u a2 (by decide)) (by omega) (by omega) (by decide) (by rw [up_k (by decide)]; exact f5) (by rw [up_k (by decide)]; exact f6) (by rw [up_s]) (by rw [up_k (by decide)]; exact f7) q _
        · rw [if_neg q4] at q
          refine yr_if_eq (pq := 126) (t := 191) rfl dX8_next__123 rfl (by decide) (fun _ => ?_) (fun q9 => absurd (by decide) q9)
          refine yr_aload_n (pq := 192) rfl dX8_next__191 rfl ?_
          refine yr_iconst (pq := 193) rfl dX8_next__192 ?_
          refine yr_putI (pq := 196) 19 rfl dX8_next__193 kF_8_267 (by decide) rfl rfl (by decide) ?_
          refine yr_aload_n (pq := 197) rfl dX8_next__196 rfl ?_
          refine yr_dup (pq := 198) rfl dX8_next__197 rfl ?_
          refine yr_getI (pq := 201) 18 rfl dX8_next__198 kF_8_255 (by decide) rfl (by decide) ?_
          refine yr_iconst (pq := 202) rfl dX8_next__201 ?_
          refine yr_iadd (pq := 203) rfl dX8_next__202 ?_
          refine yr_putI (pq := 206) 18 rfl dX8_next__203 kF_8_255 (by decide) rfl rfl (by decide) ?_
          rw [up_k (show (18 : Int) ≠ 19 by decide), f6]
          refine fin _ (b, b + 1, (if t b = 59 then 3 else 4), 0) (MV_u (MV_u a2 (by decide)) (by decide)) ⟨by rw [up_k (by decide), up_k (by decide)]; exact f5, by rw [up_s], ?_, by rw [up_k (by decide), up_k (by decide)]; exact f7⟩ q _
          rw [up_k (by decide), up_s]
          by_cases q5 : t b = 59
          · simp [q5]
          · simp [q5]
    · rw [if_pos q2] at q
      refine yr_istore1 (pq := 43) rfl dX8_next__42 ?_
      refine yr_aload_n (pq := 44) rfl dX8_next__43 rfl ?_
      refine yr_aload_n (pq := 45) rfl dX8_next__44 rfl ?_
      refine yr_getI (pq := 48) 17 rfl dX8_next__45 kF_8_258 (by decide) rfl (by decide) ?_
      refine yr_putI (pq := 51) 18 rfl dX8_next__48 kF_8_255 (by decide) rfl rfl (by decide) ?_
      refine yr_aload_n (pq := 52) rfl dX8_next__51 rfl ?_
      refine yr_iconst (pq := 53) rfl dX8_next__52 ?_
      refine yr_putI (pq := 56) 20 rfl dX8_next__53 kF_8_264 (by decide) rfl rfl (by decide) ?_
      refine yr_iload_n (pq := 57) rfl dX8_next__56 rfl ?_
      rw [g5]
      generalize up (up g 108 18 b) 108 20 0 = f at a2 f5 f6 f7 ⊢
      refine yr_if_ge (pq := 60) (t := 68) rfl dX8_next__57 rfl (by omega) (fun q9 => absurd q9 (by decide)) (fun _ => ?_)
      refine yr_aload_n (pq := 61) rfl dX8_next__60 rfl ?_
      refine yr_iconst (pq := 62) rfl dX8_next__61 ?_
      refine yr_putI (pq := 65) 19 rfl dX8_next__62 kF_8_267 (by decide) rfl rfl (by decide) ?_
      refine yr_goto (t := 206) dX8_next__65 rfl ?_
      exact fin _ (b, b, 0, 0) (MV_u a2 (by decide)) ⟨by rw [up_k (by decide)]; exact f5, by rw [up_k (by decide)]; exact f6, by rw [up_s]; rfl, by rw [up_k (by decide)]; exact f7⟩ q _
  have p8 : ∀ (n : Nat) (x : Int) (g : hT), MV h g → 0 ≤ x → x + n = sz → g 108 17 = x → skF t sz x n = skF t sz e (sz - e).toNat → ∀ y, Yr (d + 1) mX8_next_ 8 [vr 108, y] [] g (rV KV) := by
    intro n
    induction n with
    | zero =>
      intro x g a x0 hx g5 q y
      rw [skF] at q
      refine yr_aload_n (pq := 9) rfl dX8_next__8 rfl ?_
      refine yr_aload_n (pq := 10) rfl dX8_next__9 rfl ?_
      refine yr_getI (pq := 13) 17 rfl dX8_next__10 kF_8_258 (by decide) rfl (by decide) ?_
      rw [g5]
      refine yr_vI1 (pq := 16) rfl dX8_next__13 kM_8_261 (by decide) (by decide) cat0 (m_byteAt (gT g a) (g1 g a) (by omega) (fun q9 => by omega) (fun _ => ?_))
      refine yr_bipush (pq := 18) rfl dX8_next__16 rfl ?_
      refine yr_ic_ne (pq := 21) (t := 34) rfl dX8_next__18 rfl (by decide) (by decide) (fun _ => ?_) (fun q9 => absurd q9 (by decide))
      exact p45 g a (by rw [g5, q]) _
    | succ n ih =>
      intro x g a x0 hx g5 q y
      have hb := (ht x x0 (by omega)).2
      rw [skF] at q
      refine yr_aload_n (pq := 9) rfl dX8_next__8 rfl ?_
      refine yr_aload_n (pq := 10) rfl dX8_next__9 rfl ?_
      refine yr_getI (pq := 13) 17 rfl dX8_next__10 kF_8_258 (by decide) rfl (by decide) ?_
      rw [g5]
      refine yr_vI1 (pq := 16) rfl dX8_next__13 kM_8_261 (by decide) (by decide) cat0 (m_byteAt (gT g a) (g1 g a) (by omega) (fun _ => ?_) (fun q9 => by omega))
      refine yr_bipush (pq := 18) rfl dX8_next__16 rfl ?_
      refine yr_ic_ne (pq := 21) (t := 34) rfl dX8_next__18 rfl (by omega) (by omega) (fun q2 => ?_) (fun q2 => ?_)
      · rw [if_neg (fun z => q2 z.2)] at q
        exact p45 g a (by rw [g5, q]) _
      · rw [if_pos ⟨by omega, q2⟩] at q
        refine yr_aload_n (pq := 22) rfl dX8_next__21 rfl ?_
        refine yr_dup (pq := 23) rfl dX8_next__22 rfl ?_
        refine yr_getI (pq := 26) 17 rfl dX8_next__23 kF_8_258 (by decide) rfl (by decide) ?_
        refine yr_iconst (pq := 27) rfl dX8_next__26 ?_
        refine yr_iadd (pq := 28) rfl dX8_next__27 ?_
        refine yr_putI (pq := 31) 17 rfl dX8_next__28 kF_8_258 (by decide) rfl rfl (by decide) ?_
        refine yr_goto (t := 8) dX8_next__31 rfl ?_
        rw [g5]
        exact ih _ _ (MV_u a (by decide)) (by omega) (by omega) (by rw [up_s]) q _
  refine cl_in (al := [vr 108, .null]) rfl (Nat.le_of_ble_eq_true rfl) (by simp [vi_cat, vr_cat, vs_cat]) ?_
  refine yr_aload_n (pq := 1) rfl dX8_next__0 rfl ?_
  refine yr_aload_n (pq := 2) rfl dX8_next__1 rfl ?_
  refine yr_getI (pq := 5) 18 rfl dX8_next__2 kF_8_255 (by decide) rfl (by decide) ?_
  refine yr_putI (pq := 8) 17 rfl dX8_next__5 kF_8_258 (by decide) rfl rfl (by decide) ?_
  rw [e6]
  exact p8 (sz - e).toNat e _ (MV_u ⟨fun _ _ => rfl, fun _ _ => rfl⟩ (by decide)) he.1 (by omega) (by rw [up_s]) rfl _
end TN
/-- the words -/
def wcF (w i : Int) : Int := (((am_by.getD w.toNat []).getD i.toNat 0 : Nat) : Int)
def mtF (t : Int → Int) (b w i : Int) : Nat → Bool
  | 0 => true
  | n + 1 => decide (t (b + i) = wcF w i) && mtF t b w (i + 1) n
def wdF (t : Int → Int) (S : tkT) (w : Int) : Bool := decide (S.2.2.1 = 1 ∧ S.2.1 - S.1 = ((am_by.getD w.toNat []).length : Int)) && mtF t S.1 w 0 (am_by.getD w.toNat []).length
theorem wl_b0 : ∀ w : Fin 15, (am_by.getD w.val []).length ≤ 20 := by decide +kernel
theorem wl_b {w : Int} (hw : 0 ≤ w ∧ w < 15) : (am_by.getD w.toNat []).length ≤ 20 := wl_b0 ⟨w.toNat, by omega⟩
theorem wc_b0 : ∀ w : Fin 15, ∀ i : Fin 20, (am_by.getD w.val []).getD i.val 0 ≤ 255 := by decide +kernel
theorem wc_b {w i : Int} (hw : 0 ≤ w ∧ w < 15) (hi : 0 ≤ i ∧ i < 20) : 0 ≤ wcF w i ∧ wcF w i ≤ 255 := by
  have := wc_b0 ⟨w.toNat, by omega⟩ ⟨i.toNat, by omega⟩
  unfold wcF
  simp only at this
  omega
section TW
variable {d : Nat} {h : hT} {K : Int → hT → Prop} {KV : hT → Prop} {t : Int → Int} {sz : Int} {S : tkT}
theorem c_isWord {w e : Int} (hw : 0 ≤ w ∧ w < 15) (hTp : TP (h 77) sz t) (e1 : h 76 1 = sz) (hC : TC h S) (he : 0 ≤ e) (hK : okK sz e S) (k1 : wdF t S w = true → K 1 h) (k0 : ¬ wdF t S w = true → K 0 h) : ClI (d + 2) mX0_isWord [vr 76, vs w] h K := by
  obtain ⟨c5, c6, c4, c7⟩ := hC
  obtain ⟨⟨o1, o2, o3⟩, o4, o5, o6⟩ := hK
  have hz := hTp.1
  have ht := hTp.2
  have hl := wl_b hw
  unfold wdF at k1 k0
  refine cl_in (al := [vr 76, vs w, .null]) rfl (Nat.le_of_ble_eq_true rfl) (by simp [vi_cat, vr_cat, vs_cat]) ?_
  refine yr_aload_n (pq := 1) rfl dX0_isWord_0 rfl ?_
  refine yr_getI (pq := 4) 4 rfl dX0_isWord_1 kF_0_29 (by decide) rfl (by decide) ?_
  refine yr_iconst (pq := 5) rfl dX0_isWord_4 ?_
  rw [c4]
  refine yr_ic_ne (pq := 8) (t := 24) rfl dX0_isWord_5 rfl (by omega) (by omega) (fun q1 => ?_) (fun q1 => ?_)
  · refine yr_iconst (pq := 25) rfl dX0_isWord_24 ?_
    exact yr_zret dX0_isWord_25 rfl (by first | decide | omega) (k0 (by simp [q1]))
  · refine yr_aload_n (pq := 9) rfl dX0_isWord_8 rfl ?_
    refine yr_getI (pq := 12) 6 rfl dX0_isWord_9 kF_0_35 (by decide) rfl (by decide) ?_
    refine yr_aload_n (pq := 13) rfl dX0_isWord_12 rfl ?_
    refine yr_getI (pq := 16) 5 rfl dX0_isWord_13 kF_0_32 (by decide) rfl (by decide) ?_
    refine yr_isub (pq := 17) rfl dX0_isWord_16 ?_
    refine yr_sload_n (pq := 18) rfl dX0_isWord_17 rfl ?_
    refine yr_len (pq := 21) rfl dX0_isWord_18 kO_0_137 kX_0_137 (by omega) (Nat.le_of_ble_eq_true rfl) ?_
    rw [c5, c6]
    refine yr_ic_eq (pq := 24) (t := 26) rfl dX0_isWord_21 rfl (by omega) (by omega) (fun q2 => ?_) (fun q2 => ?_)
    · have key : ∀ (n : Nat) (i : Int), 0 ≤ i → i + n = ((am_by.getD w.toNat []).length : Int) → (mtF t S.1 w i n = true → K 1 h) → (¬ mtF t S.1 w i n = true → K 0 h) → Yr (d + 1) mX0_isWord 28 [vr 76, vs w, vi i] [] h (rI K) := by
        intro n
        induction n with
        | zero =>
          intro i hi hn k1 k0
          refine yr_iload_n (pq := 29) rfl dX0_isWord_28 rfl ?_
          refine yr_sload_n (pq := 30) rfl dX0_isWord_29 rfl ?_
          refine yr_len (pq := 33) rfl dX0_isWord_30 kO_0_137 kX_0_137 (by omega) (Nat.le_of_ble_eq_true rfl) ?_
          refine yr_ic_ge (pq := 36) (t := 62) rfl dX0_isWord_33 rfl (by omega) (by omega) (fun _ => ?_) (fun q9 => absurd (by omega) q9)
          refine yr_iconst (pq := 63) rfl dX0_isWord_62 ?_
          exact yr_zret dX0_isWord_63 rfl (by first | decide | omega) (k1 rfl)
        | succ n ih =>
          intro i hi hn k1 k0
          have hb := (ht (S.1 + i) (by omega) (by omega)).2
          have wb := wc_b (w := w) (i := i) hw (by omega)
          rw [mtF] at k1 k0
          refine yr_iload_n (pq := 29) rfl dX0_isWord_28 rfl ?_
          refine yr_sload_n (pq := 30) rfl dX0_isWord_29 rfl ?_
          refine yr_len (pq := 33) rfl dX0_isWord_30 kO_0_137 kX_0_137 (by omega) (Nat.le_of_ble_eq_true rfl) ?_
          refine yr_ic_ge (pq := 36) (t := 62) rfl dX0_isWord_33 rfl (by omega) (by omega) (fun q9 => absurd q9 (by omega)) (fun _ => ?_)
          refine yr_aload_n (pq := 37) rfl dX0_isWord_36 rfl ?_
          refine yr_aload_n (pq := 38) rfl dX0_isWord_37 rfl ?_
          refine yr_getI (pq := 41) 5 rfl dX0_isWord_38 kF_0_32 (by decide) rfl (by decide) ?_
          refine yr_iload_n (pq := 42) rfl dX0_isWord_41 rfl ?_
          refine yr_iadd (pq := 43) rfl dX0_isWord_42 ?_
          rw [c5]
          refine yr_vI1 (pq := 46) rfl dX0_isWord_43 kM_0_48 (by decide) (by decide) cat0 (c_byteAt hTp e1 (by omega) (fun _ => ?_) (fun q9 => by omega))
          refine yr_sload_n (pq := 47) rfl dX0_isWord_46 rfl ?_
          refine yr_iload_n (pq := 48) rfl dX0_isWord_47 rfl ?_
          refine yr_chr (pq := 51) rfl dX0_isWord_48 kO_0_142 kX_0_142 (by omega) (by omega) (by omega) (Nat.le_of_ble_eq_true rfl) ?_
          have ew : (((am_by.getD w.toNat []).getD i.toNat 0 : Nat) : Int) = wcF w i := rfl
          rw [ew]
          refine yr_ic_eq (pq := 54) (t := 56) rfl dX0_isWord_51 rfl (by omega) (by omega) (fun q3 => ?_) (fun q3 => ?_)
          · refine yr_iinc2 (pq := 59) rfl dX0_isWord_56 ?_
            refine yr_goto (t := 28) dX0_isWord_59 rfl ?_
            refine ih _ (by omega) (by omega) (fun q4 => k1 ?_) (fun q4 => k0 ?_)
            · rw [q4]; simp [q3]
            · simp [q4]
          · refine yr_iconst (pq := 55) rfl dX0_isWord_54 ?_
            exact yr_zret dX0_isWord_55 rfl (by first | decide | omega) (k0 (by simp [q3]))
      have ee : decide (S.2.2.1 = 1 ∧ S.2.1 - S.1 = ((am_by.getD w.toNat []).length : Int)) = true := decide_eq_true ⟨by omega, q2⟩
      rw [ee, Bool.true_and] at k1 k0
      refine yr_iconst (pq := 27) rfl dX0_isWord_26 ?_
      refine yr_istore2 (pq := 28) rfl dX0_isWord_27 ?_
      exact key _ 0 (by omega) (by omega) k1 k0
    · have ee : decide (S.2.2.1 = 1 ∧ S.2.1 - S.1 = ((am_by.getD w.toNat []).length : Int)) = false := decide_eq_false (fun z => q2 z.2)
      refine yr_iconst (pq := 25) rfl dX0_isWord_24 ?_
      exact yr_zret dX0_isWord_25 rfl (by first | decide | omega) (k0 (by rw [ee]; simp))
theorem m_isWord {w e : Int} (hw : 0 ≤ w ∧ w < 15) (hTp : TP (h 116) sz t) (hC : TM h S) (he : 0 ≤ e) (hK : okK sz e S) (k1 : wdF t S w = true → K 1 h) (k0 : ¬ wdF t S w = true → K 0 h) : ClI (d + 1) mX8_isWord [vr 108, vs w] h K := by
  obtain ⟨c5, c6, c4, c7⟩ := hC
  obtain ⟨⟨o1, o2, o3⟩, o4, o5, o6⟩ := hK
  have hz := hTp.1
  have ht := hTp.2
  have hl := wl_b hw
  have c4b : 0 ≤ h 108 19 ∧ h 108 19 ≤ 4 := by rw [c4]; split <;> omega
  have c4i : h 108 19 = 1 ↔ S.2.2.1 = 1 := by rw [c4]; split <;> omega
  have no : (¬ wdF t S w = true) → ∀ (i : Int), 0 ≤ i → i ≤ 20 → Yr (d + 0) mX8_isWord 32 [vr 108, vs w, vi 0, vi i] [] h (rI K) := by
    intro q i i0 i1
    refine yr_iload_n (pq := 33) rfl dX8_isWord_32 rfl ?_
    refine yr_sload_n (pq := 34) rfl dX8_isWord_33 rfl ?_
    refine yr_len (pq := 37) rfl dX8_isWord_34 kO_8_270 kX_8_270 (by omega) (Nat.le_of_ble_eq_true rfl) ?_
    refine yr_ic_ge (pq := 40) (t := 75) rfl dX8_isWord_37 rfl (by omega) (by omega) (fun q2 => ?_) (fun q2 => ?_)
    · refine yr_iload_n (pq := 76) rfl dX8_isWord_75 rfl ?_
      exact yr_zret dX8_isWord_76 rfl (by first | decide | omega) (k0 q)
    · refine yr_iload_n (pq := 41) rfl dX8_isWord_40 rfl ?_
      refine yr_if_eq (pq := 44) (t := 75) rfl dX8_isWord_41 rfl (by decide) (fun _ => ?_) (fun q9 => absurd (by decide) q9)
      refine yr_iload_n (pq := 76) rfl dX8_isWord_75 rfl ?_
      exact yr_zret dX8_isWord_76 rfl (by first | decide | omega) (k0 q)
  have key : ∀ (n : Nat) (i : Int), 0 ≤ i → i + n = ((am_by.getD w.toNat []).length : Int) → S.2.1 - S.1 = ((am_by.getD w.toNat []).length : Int) → mtF t S.1 w i n = wdF t S w → Yr (d + 0) mX8_isWord 32 [vr 108, vs w, vi 1, vi i] [] h (rI K) := by
    intro n
    induction n with
    | zero =>
      intro i hi hn hlen hm
      refine yr_iload_n (pq := 33) rfl dX8_isWord_32 rfl ?_
      refine yr_sload_n (pq := 34) rfl dX8_isWord_33 rfl ?_
      refine yr_len (pq := 37) rfl dX8_isWord_34 kO_8_270 kX_8_270 (by omega) (Nat.le_of_ble_eq_true rfl) ?_
      refine yr_ic_ge (pq := 40) (t := 75) rfl dX8_isWord_37 rfl (by omega) (by omega) (fun _ => ?_) (fun q9 => absurd (by omega) q9)
      refine yr_iload_n (pq := 76) rfl dX8_isWord_75 rfl ?_
      exact yr_zret dX8_isWord_76 rfl (by first | decide | omega) (k1 (by rw [← hm]; rfl))
    | succ n ih =>
      intro i hi hn hlen hm
      have hb := (ht (S.1 + i) (by omega) (by omega))
      have wb := wc_b (w := w) (i := i) hw (by omega)
      rw [mtF] at hm
      refine yr_iload_n (pq := 33) rfl dX8_isWord_32 rfl ?_
      refine yr_sload_n (pq := 34) rfl dX8_isWord_33 rfl ?_
      refine yr_len (pq := 37) rfl dX8_isWord_34 kO_8_270 kX_8_270 (by omega) (Nat.le_of_ble_eq_true rfl) ?_
      refine yr_ic_ge (pq := 40) (t := 75) rfl dX8_isWord_37 rfl (by omega) (by omega) (fun q9 => absurd q9 (by omega)) (fun _ => ?_)
      refine yr_iload_n (pq := 41) rfl dX8_isWord_40 rfl ?_
      refine yr_if_eq (pq := 44) (t := 75) rfl dX8_isWord_41 rfl (by decide) (fun q9 => absurd q9 (by decide)) (fun _ => ?_)
      refine yr_aload_n (pq := 45) rfl dX8_isWord_44 rfl ?_
      refine yr_getR (pq := 48) (b := 116) 15 rfl dX8_isWord_45 kF_8_35 (by decide) rfl ?_
      refine yr_aload_n (pq := 49) rfl dX8_isWord_48 rfl ?_
      refine yr_getI (pq := 52) 17 rfl dX8_isWord_49 kF_8_258 (by decide) rfl (by decide) ?_
      refine yr_iload_n (pq := 53) rfl dX8_isWord_52 rfl ?_
      refine yr_iadd (pq := 54) rfl dX8_isWord_53 ?_
      rw [c5]
      refine yr_iald (pq := 55) rfl dX8_isWord_54 rfl (by decide) (by omega) ?_
      refine yr_sload_n (pq := 56) rfl dX8_isWord_55 rfl ?_
      refine yr_iload_n (pq := 57) rfl dX8_isWord_56 rfl ?_
      refine yr_chr (pq := 60) rfl dX8_isWord_57 kO_8_273 kX_8_273 (by omega) (by omega) (by omega) (Nat.le_of_ble_eq_true rfl) ?_
      rw [hb.1]
      have ew : (((am_by.getD w.toNat []).getD i.toNat 0 : Nat) : Int) = wcF w i := rfl
      rw [ew]
      refine yr_ic_ne (pq := 63) (t := 67) rfl dX8_isWord_60 rfl (by omega) (by omega) (fun q3 => ?_) (fun q3 => ?_)
      · refine yr_iconst (pq := 68) rfl dX8_isWord_67 ?_
        refine yr_istore2 (pq := 69) rfl dX8_isWord_68 ?_
        refine yr_iinc3 (pq := 72) rfl dX8_isWord_69 ?_
        refine yr_goto (t := 32) dX8_isWord_72 rfl ?_
        exact no (by rw [← hm]; simp [q3]) _ (by omega) (by omega)
      · refine yr_iconst (pq := 64) rfl dX8_isWord_63 ?_
        refine yr_goto (t := 68) dX8_isWord_64 rfl ?_
        refine yr_istore2 (pq := 69) rfl dX8_isWord_68 ?_
        refine yr_iinc3 (pq := 72) rfl dX8_isWord_69 ?_
        refine yr_goto (t := 32) dX8_isWord_72 rfl ?_
        refine ih _ (by omega) (by omega) hlen ?_
        rw [← hm]; simp [q3]
  refine cl_in (al := [vr 108, vs w, .null, .null]) rfl (Nat.le_of_ble_eq_true rfl) (by simp [vi_cat, vr_cat, vs_cat]) ?_
  refine yr_aload_n (pq := 1) rfl dX8_isWord_0 rfl ?_
  refine yr_getI (pq := 4) 19 rfl dX8_isWord_1 kF_8_267 (by decide) rfl (by decide) ?_
  refine yr_iconst (pq := 5) rfl dX8_isWord_4 ?_
  refine yr_ic_ne (pq := 8) (t := 28) rfl dX8_isWord_5 rfl (by omega) (by omega) (fun q1 => ?_) (fun q1 => ?_)
  · refine yr_iconst (pq := 29) rfl dX8_isWord_28 ?_
    refine yr_istore2 (pq := 30) rfl dX8_isWord_29 ?_
    refine yr_iconst (pq := 31) rfl dX8_isWord_30 ?_
    refine yr_istore3 (pq := 32) rfl dX8_isWord_31 ?_
    refine no ?_ 0 (by omega) (by omega)
    unfold wdF
    rw [decide_eq_false (fun z => q1 (c4i.mpr z.1))]
    simp
  · refine yr_aload_n (pq := 9) rfl dX8_isWord_8 rfl ?_
    refine yr_getI (pq := 12) 18 rfl dX8_isWord_9 kF_8_255 (by decide) rfl (by decide) ?_
    refine yr_aload_n (pq := 13) rfl dX8_isWord_12 rfl ?_
    refine yr_getI (pq := 16) 17 rfl dX8_isWord_13 kF_8_258 (by decide) rfl (by decide) ?_
    refine yr_isub (pq := 17) rfl dX8_isWord_16 ?_
    refine yr_sload_n (pq := 18) rfl dX8_isWord_17 rfl ?_
    refine yr_len (pq := 21) rfl dX8_isWord_18 kO_8_270 kX_8_270 (by omega) (Nat.le_of_ble_eq_true rfl) ?_
    rw [c5, c6]
    refine yr_ic_ne (pq := 24) (t := 28) rfl dX8_isWord_21 rfl (by omega) (by omega) (fun q2 => ?_) (fun q2 => ?_)
    · refine yr_iconst (pq := 29) rfl dX8_isWord_28 ?_
      refine yr_istore2 (pq := 30) rfl dX8_isWord_29 ?_
      refine yr_iconst (pq := 31) rfl dX8_isWord_30 ?_
      refine yr_istore3 (pq := 32) rfl dX8_isWord_31 ?_
      refine no ?_ 0 (by omega) (by omega)
      unfold wdF
      rw [decide_eq_false (fun z => q2 z.2)]
      simp
    · refine yr_iconst (pq := 25) rfl dX8_isWord_24 ?_
      refine yr_goto (t := 29) dX8_isWord_25 rfl ?_
      refine yr_istore2 (pq := 30) rfl dX8_isWord_29 ?_
      refine yr_iconst (pq := 31) rfl dX8_isWord_30 ?_
      refine yr_istore3 (pq := 32) rfl dX8_isWord_31 ?_
      refine key (am_by.getD w.toNat []).length 0 (by omega) (by omega) q2 ?_
      unfold wdF
      rw [decide_eq_true ⟨c4i.mp q1, q2⟩, Bool.true_and]
end TW
