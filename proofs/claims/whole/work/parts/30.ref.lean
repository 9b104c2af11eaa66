/-! the reference: leaves, streets -/
section MR
variable {d : Nat} {h : hT} {K : Int → hT → Prop} {KV : hT → Prop}
theorem m_finding {w : Int} (hw : w = -1000001 ∨ w = -1000002 ∨ w = -1000003 ∨ w = -1000004 ∨ w = -1000005 ∨ w = -1000006 ∨ w = -1000007) (k : ∀ h', (∀ b, b ≠ 112 → h' b = h b) → h' 112 = ur (ur (h 112) (-1000000 - w) (h 112 (-1000000 - w) + 1)) 0 (h 112 0 + 1) → K w h') : ClI (d + 1) mX8_finding [vr 108, vi w] h K := by
  refine cl_in (al := [vr 108, vi w]) rfl (Nat.le_of_ble_eq_true rfl) (by simp [vi_cat, vr_cat, vs_cat]) ?_
  refine yr_aload_n (pq := 1) rfl dX8_finding_0 rfl ?_
  refine yr_getR (pq := 4) (b := 112) 4 rfl dX8_finding_1 kF_8_19 (by decide) rfl ?_
  refine yr_ldc (pq := 6) rfl dX8_finding_4 kN_8_73 ?_
  refine yr_iload_n (pq := 7) rfl dX8_finding_6 rfl ?_
  refine yr_isub (pq := 8) rfl dX8_finding_7 ?_
  refine yr_iconst (pq := 9) rfl dX8_finding_8 ?_
  refine yr_iadd (pq := 10) rfl dX8_finding_9 ?_
  refine yr_dup2 (pq := 11) rfl dX8_finding_10 rfl rfl ?_
  refine yr_iald (pq := 12) rfl dX8_finding_11 rfl (by decide) (by omega) ?_
  refine yr_iconst (pq := 13) rfl dX8_finding_12 ?_
  refine yr_iadd (pq := 14) rfl dX8_finding_13 ?_
  refine yr_iast (pq := 15) rfl dX8_finding_14 rfl (by decide) (by omega) ?_
  refine yr_aload_n (pq := 16) rfl dX8_finding_15 rfl ?_
  refine yr_getR (pq := 19) (b := 112) 4 rfl dX8_finding_16 kF_8_19 (by decide) rfl ?_
  refine yr_iconst (pq := 20) rfl dX8_finding_19 ?_
  refine yr_dup2 (pq := 21) rfl dX8_finding_20 rfl rfl ?_
  refine yr_iald (pq := 22) rfl dX8_finding_21 rfl (by decide) (by omega) ?_
  refine yr_iconst (pq := 23) rfl dX8_finding_22 ?_
  refine yr_iadd (pq := 24) rfl dX8_finding_23 ?_
  refine yr_iast (pq := 25) rfl dX8_finding_24 rfl (by decide) (by omega) ?_
  refine yr_iload_n (pq := 26) rfl dX8_finding_25 rfl ?_
  refine yr_iret dX8_finding_26 rfl (k _ (fun b hb => by rw [up_ne hb, up_ne hb]) ?_)
  rw [up_row, up_row, show -1000001 - w + 1 = -1000000 - w by omega, ur_o (by omega)]
theorem m_become {a v : Int} (ha : 0 ≤ a ∧ a < 123) (k : K (h 109 a) (up h 109 a v)) : ClI (d + 1) mX8_become [vr 108, vi a, vi v] h K := by
  refine cl_in (al := [vr 108, vi a, vi v, .null]) rfl (Nat.le_of_ble_eq_true rfl) (by simp [vi_cat, vr_cat, vs_cat]) ?_
  refine yr_aload_n (pq := 1) rfl dX8_become_0 rfl ?_
  refine yr_getR (pq := 4) (b := 109) 0 rfl dX8_become_1 kF_8_9 (by decide) rfl ?_
  refine yr_iload_n (pq := 5) rfl dX8_become_4 rfl ?_
  refine yr_iald (pq := 6) rfl dX8_become_5 rfl (by decide) (by omega) ?_
  refine yr_istore3 (pq := 7) rfl dX8_become_6 ?_
  refine yr_aload_n (pq := 8) rfl dX8_become_7 rfl ?_
  refine yr_getR (pq := 11) (b := 109) 0 rfl dX8_become_8 kF_8_9 (by decide) rfl ?_
  refine yr_iload_n (pq := 12) rfl dX8_become_11 rfl ?_
  refine yr_iload_n (pq := 13) rfl dX8_become_12 rfl ?_
  refine yr_iast (pq := 14) rfl dX8_become_13 rfl (by decide) (by omega) ?_
  refine yr_iload_n (pq := 15) rfl dX8_become_14 rfl ?_
  exact yr_iret dX8_become_15 rfl (k)
theorem m_copyRow {a b : Int} (hA : am_kd a.toNat = (0, 123)) (a0 : 0 ≤ a) (hB : am_kd b.toNat = (0, 123)) (b0 : 0 ≤ b) (hab : a ≠ b) (k : ∀ h', (∀ c, c ≠ b → h' c = h c) → (∀ j, 0 ≤ j → j < 123 → h' b j = h a j) → (∀ j, (j < 0 ∨ 123 ≤ j) → h' b j = h b j) → KV h') : ClV (d + 1) mX8_copyRow [vr a, vr b] h KV := by
  have key : ∀ (n : Nat) (i : Int) (g : hT), 0 ≤ i → i + n = 123 → (∀ c, c ≠ b → g c = h c) → (∀ j, 0 ≤ j → j < i → g b j = h a j) → (∀ j, (j < 0 ∨ i ≤ j) → g b j = h b j) → Yr d mX8_copyRow 2 [vr a, vr b, vi i] [] g (rV KV) := by
    intro n
    induction n with
    | zero =>
      intro i g hi hn g1 g2 g3
      have hi : i = 123 := by omega
      subst hi
      refine yr_iload_n (pq := 3) rfl dX8_copyRow_2 rfl ?_
      refine yr_bipush (pq := 5) rfl dX8_copyRow_3 rfl ?_
      refine yr_ic_ge (pq := 8) (t := 20) rfl dX8_copyRow_5 rfl (by omega) (by omega) (fun _ => ?_) (fun q9 => absurd (by omega) q9)
      exact yr_vret dX8_copyRow_20 rfl (k g g1 g2 g3)
    | succ n ih =>
      intro i g hi hn g1 g2 g3
      refine yr_iload_n (pq := 3) rfl dX8_copyRow_2 rfl ?_
      refine yr_bipush (pq := 5) rfl dX8_copyRow_3 rfl ?_
      refine yr_ic_ge (pq := 8) (t := 20) rfl dX8_copyRow_5 rfl (by omega) (by omega) (fun q9 => absurd q9 (by omega)) (fun _ => ?_)
      refine yr_aload_n (pq := 9) rfl dX8_copyRow_8 rfl ?_
      refine yr_iload_n (pq := 10) rfl dX8_copyRow_9 rfl ?_
      refine yr_aload_n (pq := 11) rfl dX8_copyRow_10 rfl ?_
      refine yr_iload_n (pq := 12) rfl dX8_copyRow_11 rfl ?_
      refine yr_iald (pq := 13) rfl dX8_copyRow_12 hA a0 (by omega) ?_
      refine yr_iast (pq := 14) rfl dX8_copyRow_13 hB b0 (by omega) ?_
      refine yr_iinc2 (pq := 17) rfl dX8_copyRow_14 ?_
      refine yr_goto (t := 2) dX8_copyRow_17 rfl ?_
      refine ih _ _ (by omega) (by omega) (fun c hc => by rw [up_ne hc]; exact g1 c hc) (fun j j0 j1 => ?_) (fun j hj => ?_)
      · by_cases e : j = i
        · subst e; rw [up_s, g1 a hab]
        · rw [up_k e]; exact g2 j j0 (by omega)
      · rw [up_k (by omega)]; exact g3 j (by omega)
  refine cl_in (al := [vr a, vr b, .null]) rfl (Nat.le_of_ble_eq_true rfl) (by simp [vi_cat, vr_cat, vs_cat]) ?_
  refine yr_iconst (pq := 1) rfl dX8_copyRow_0 ?_
  refine yr_istore2 (pq := 2) rfl dX8_copyRow_1 ?_
  exact key 123 0 h (by omega) (by omega) (fun _ _ => rfl) (fun j j0 j1 => by omega) (fun _ _ => rfl)
theorem m_has {m n : Nat} (hm : m < 65536) (hn : n < 32) (k1 : m.testBit n = true → K 1 h) (k0 : ¬ m.testBit n = true → K 0 h) : ClI (d + 1) mX8_has [vi (m : Int), vi (n : Int)] h K := by
  have e := bit_r (a := m) (c := n) (by omega) hn
  refine cl_in (al := [vi (m : Int), vi (n : Int)]) rfl (Nat.le_of_ble_eq_true rfl) (by simp [vi_cat, vr_cat, vs_cat]) ?_
  refine yr_iload_n (pq := 1) rfl dX8_has_0 rfl ?_
  refine yr_iload_n (pq := 2) rfl dX8_has_1 rfl ?_
  refine yr_ishr (pq := 3) rfl dX8_has_2 ?_
  refine yr_iconst (pq := 4) rfl dX8_has_3 ?_
  refine yr_iand (pq := 5) rfl dX8_has_4 ?_
  refine yr_iconst (pq := 6) rfl dX8_has_5 ?_
  rw [e]
  unfold btN
  split
  · rename_i q
    refine yr_ic_ne (pq := 9) (t := 13) rfl dX8_has_6 rfl (by omega) (by omega) (fun q9 => absurd (rfl) q9) (fun _ => ?_)
    refine yr_iconst (pq := 10) rfl dX8_has_9 ?_
    refine yr_goto (t := 14) dX8_has_10 rfl ?_
    exact yr_zret dX8_has_14 rfl (by first | decide | omega) (k1 q)
  · rename_i q
    refine yr_ic_ne (pq := 9) (t := 13) rfl dX8_has_6 rfl (by omega) (by omega) (fun _ => ?_) (fun q9 => absurd q9 (by decide))
    refine yr_iconst (pq := 14) rfl dX8_has_13 ?_
    exact yr_zret dX8_has_14 rfl (by first | decide | omega) (k0 q)
theorem m_bits {n : Nat} (hn : n < 256) (k : K ((pcF n : Nat) : Int) h) : ClI (d + 1) mX8_bits [vi (n : Int)] h K := by
  have key : ∀ (c : Nat) (m : Nat) (acc : Int), m < 256 → pcF m ≤ c → K (acc + ((pcF m : Nat) : Int)) h → Yr d mX8_bits 4 [vi (n : Int), vi acc, vi (m : Int)] [] h (rI K) := by
    intro c
    induction c with
    | zero =>
      intro m acc hm hc kk
      have hp := (pcF_0 ⟨m, hm⟩).mp (by simp only; omega)
      simp only at hp
      subst hp
      refine yr_iload_n (pq := 5) rfl dX8_bits_4 rfl ?_
      refine yr_if_eq (pq := 8) (t := 20) rfl dX8_bits_5 rfl (by omega) (fun _ => ?_) (fun q9 => absurd (by omega) q9)
      refine yr_iload_n (pq := 21) rfl dX8_bits_20 rfl ?_
      have e : acc = acc + ((pcF 0 : Nat) : Int) := by rw [show pcF 0 = 0 by decide]; simp
      rw [e]
      exact yr_iret dX8_bits_21 rfl (kk)
    | succ c ih =>
      intro m acc hm hc kk
      refine yr_iload_n (pq := 5) rfl dX8_bits_4 rfl ?_
      refine yr_if_eq (pq := 8) (t := 20) rfl dX8_bits_5 rfl (by omega) (fun q => ?_) (fun q => ?_)
      · have hp : m = 0 := by omega
        subst hp
        refine yr_iload_n (pq := 21) rfl dX8_bits_20 rfl ?_
        have e : acc = acc + ((pcF 0 : Nat) : Int) := by rw [show pcF 0 = 0 by decide]; simp
        rw [e]
        exact yr_iret dX8_bits_21 rfl (kk)
      · obtain ⟨s1, s2, s3⟩ := pcF_step ⟨m, hm⟩ (by simp only; omega)
        simp only at s1 s2 s3
        refine yr_iinc1 (pq := 11) rfl dX8_bits_8 ?_
        refine yr_iload_n (pq := 12) rfl dX8_bits_11 rfl ?_
        refine yr_iload_n (pq := 13) rfl dX8_bits_12 rfl ?_
        refine yr_iconst (pq := 14) rfl dX8_bits_13 ?_
        refine yr_isub (pq := 15) rfl dX8_bits_14 ?_
        refine yr_iand (pq := 16) rfl dX8_bits_15 ?_
        refine yr_istore2 (pq := 17) rfl dX8_bits_16 ?_
        refine yr_goto (t := 4) dX8_bits_17 rfl ?_
        obtain ⟨x, hx⟩ := Int.eq_ofNat_of_zero_le s1
        rw [hx] at s2 s3 ⊢
        rw [Int.toNat_natCast] at s3
        refine ih x _ (by omega) (by omega) ?_
        rw [show acc + 1 + ((pcF x : Nat) : Int) = acc + ((pcF m : Nat) : Int) by omega]
        exact kk
  refine cl_in (al := [vi (n : Int), .null, .null]) rfl (Nat.le_of_ble_eq_true rfl) (by simp [vi_cat, vr_cat, vs_cat]) ?_
  refine yr_iconst (pq := 1) rfl dX8_bits_0 ?_
  refine yr_istore1 (pq := 2) rfl dX8_bits_1 ?_
  refine yr_iload_n (pq := 3) rfl dX8_bits_2 rfl ?_
  refine yr_istore2 (pq := 4) rfl dX8_bits_3 ?_
  refine key 8 n 0 hn (pcF_b n) ?_
  rw [Int.zero_add]
  exact k
theorem m_isCorner {v : Int} (hv : -2147483648 ≤ v ∧ v ≤ 2147483647) (k1 : 0 ≤ v ∧ v ≤ 7 → K 1 h) (k0 : ¬ (0 ≤ v ∧ v ≤ 7) → K 0 h) : ClI (d + 2) mX8_isCorner [vi v] h K := by
  refine cl_in (al := [vi v]) rfl (Nat.le_of_ble_eq_true rfl) (by simp [vi_cat, vr_cat, vs_cat]) ?_
  refine yr_iload_n (pq := 1) rfl dX8_isCorner_0 rfl ?_
  refine yr_iconst (pq := 2) rfl dX8_isCorner_1 ?_
  refine yr_bipush (pq := 4) rfl dX8_isCorner_2 rfl ?_
  refine yr_sI3 (pq := 7) rfl dX8_isCorner_4 kM_8_78 (by decide) cat0 (m_within hv (by omega) (by omega) (fun q => ?_) (fun q => ?_))
  · exact yr_zret dX8_isCorner_7 rfl (by first | decide | omega) (k1 q)
  · exact yr_zret dX8_isCorner_7 rfl (by first | decide | omega) (k0 q)
theorem m_isKind {v : Int} (hv : -2147483648 ≤ v ∧ v ≤ 2147483647) (k1 : 0 ≤ v ∧ v ≤ 6 → K 1 h) (k0 : ¬ (0 ≤ v ∧ v ≤ 6) → K 0 h) : ClI (d + 2) mX8_isKind [vi v] h K := by
  refine cl_in (al := [vi v]) rfl (Nat.le_of_ble_eq_true rfl) (by simp [vi_cat, vr_cat, vs_cat]) ?_
  refine yr_iload_n (pq := 1) rfl dX8_isKind_0 rfl ?_
  refine yr_iconst (pq := 2) rfl dX8_isKind_1 ?_
  refine yr_bipush (pq := 4) rfl dX8_isKind_2 rfl ?_
  refine yr_sI3 (pq := 7) rfl dX8_isKind_4 kM_8_78 (by decide) cat0 (m_within hv (by omega) (by omega) (fun q => ?_) (fun q => ?_))
  · exact yr_zret dX8_isKind_7 rfl (by first | decide | omega) (k1 q)
  · exact yr_zret dX8_isKind_7 rfl (by first | decide | omega) (k0 q)
theorem m_isSpell {v : Int} (hv : -2147483648 ≤ v ∧ v ≤ 2147483647) (k1 : 0 ≤ v ∧ v ≤ 11 → K 1 h) (k0 : ¬ (0 ≤ v ∧ v ≤ 11) → K 0 h) : ClI (d + 2) mX8_isSpell [vi v] h K := by
  refine cl_in (al := [vi v]) rfl (Nat.le_of_ble_eq_true rfl) (by simp [vi_cat, vr_cat, vs_cat]) ?_
  refine yr_iload_n (pq := 1) rfl dX8_isSpell_0 rfl ?_
  refine yr_iconst (pq := 2) rfl dX8_isSpell_1 ?_
  refine yr_bipush (pq := 4) rfl dX8_isSpell_2 rfl ?_
  refine yr_sI3 (pq := 7) rfl dX8_isSpell_4 kM_8_78 (by decide) cat0 (m_within hv (by omega) (by omega) (fun q => ?_) (fun q => ?_))
  · exact yr_zret dX8_isSpell_7 rfl (by first | decide | omega) (k1 q)
  · exact yr_zret dX8_isSpell_7 rfl (by first | decide | omega) (k0 q)
theorem m_isSheet {v : Int} (hv : -2147483648 ≤ v ∧ v ≤ 2147483647) (k1 : 0 ≤ v ∧ v ≤ 3 → K 1 h) (k0 : ¬ (0 ≤ v ∧ v ≤ 3) → K 0 h) : ClI (d + 2) mX8_isSheet [vi v] h K := by
  refine cl_in (al := [vi v]) rfl (Nat.le_of_ble_eq_true rfl) (by simp [vi_cat, vr_cat, vs_cat]) ?_
  refine yr_iload_n (pq := 1) rfl dX8_isSheet_0 rfl ?_
  refine yr_iconst (pq := 2) rfl dX8_isSheet_1 ?_
  refine yr_iconst (pq := 3) rfl dX8_isSheet_2 ?_
  refine yr_sI3 (pq := 6) rfl dX8_isSheet_3 kM_8_78 (by decide) cat0 (m_within hv (by omega) (by omega) (fun q => ?_) (fun q => ?_))
  · exact yr_zret dX8_isSheet_6 rfl (by first | decide | omega) (k1 q)
  · exact yr_zret dX8_isSheet_6 rfl (by first | decide | omega) (k0 q)
theorem m_isSpot {v : Int} (hv : -2147483648 ≤ v ∧ v ≤ 2147483647) (k1 : 0 ≤ v ∧ v ≤ 9 → K 1 h) (k0 : ¬ (0 ≤ v ∧ v ≤ 9) → K 0 h) : ClI (d + 2) mX8_isSpot [vi v] h K := by
  refine cl_in (al := [vi v]) rfl (Nat.le_of_ble_eq_true rfl) (by simp [vi_cat, vr_cat, vs_cat]) ?_
  refine yr_iload_n (pq := 1) rfl dX8_isSpot_0 rfl ?_
  refine yr_iconst (pq := 2) rfl dX8_isSpot_1 ?_
  refine yr_bipush (pq := 4) rfl dX8_isSpot_2 rfl ?_
  refine yr_sI3 (pq := 7) rfl dX8_isSpot_4 kM_8_78 (by decide) cat0 (m_within hv (by omega) (by omega) (fun q => ?_) (fun q => ?_))
  · exact yr_zret dX8_isSpot_7 rfl (by first | decide | omega) (k1 q)
  · exact yr_zret dX8_isSpot_7 rfl (by first | decide | omega) (k0 q)
theorem m_isPlace {v : Int} (hv : -2147483648 ≤ v ∧ v ≤ 2147483647) (k1 : 0 ≤ v ∧ v ≤ 6 → K 1 h) (k0 : ¬ (0 ≤ v ∧ v ≤ 6) → K 0 h) : ClI (d + 2) mX8_isPlace [vi v] h K := by
  refine cl_in (al := [vi v]) rfl (Nat.le_of_ble_eq_true rfl) (by simp [vi_cat, vr_cat, vs_cat]) ?_
  refine yr_iload_n (pq := 1) rfl dX8_isPlace_0 rfl ?_
  refine yr_iconst (pq := 2) rfl dX8_isPlace_1 ?_
  refine yr_bipush (pq := 4) rfl dX8_isPlace_2 rfl ?_
  refine yr_sI3 (pq := 7) rfl dX8_isPlace_4 kM_8_78 (by decide) cat0 (m_within hv (by omega) (by omega) (fun q => ?_) (fun q => ?_))
  · exact yr_zret dX8_isPlace_7 rfl (by first | decide | omega) (k1 q)
  · exact yr_zret dX8_isPlace_7 rfl (by first | decide | omega) (k0 q)
theorem m_isStreet {v : Int} (hv : -2147483648 ≤ v ∧ v ≤ 2147483647) (h8 : 0 ≤ h 109 8 ∧ h 109 8 ≤ 14) (k1 : 0 ≤ v ∧ v < h 109 8 → K 1 h) (k0 : ¬ (0 ≤ v ∧ v < h 109 8) → K 0 h) : ClI (d + 2) mX8_isStreet [vr 108, vi v] h K := by
  refine cl_in (al := [vr 108, vi v]) rfl (Nat.le_of_ble_eq_true rfl) (by simp [vi_cat, vr_cat, vs_cat]) ?_
  refine yr_iload_n (pq := 1) rfl dX8_isStreet_0 rfl ?_
  refine yr_iconst (pq := 2) rfl dX8_isStreet_1 ?_
  refine yr_aload_n (pq := 3) rfl dX8_isStreet_2 rfl ?_
  refine yr_getR (pq := 6) (b := 109) 0 rfl dX8_isStreet_3 kF_8_9 (by decide) rfl ?_
  refine yr_bipush (pq := 8) rfl dX8_isStreet_6 rfl ?_
  refine yr_iald (pq := 9) rfl dX8_isStreet_8 rfl (by decide) (by omega) ?_
  refine yr_iconst (pq := 10) rfl dX8_isStreet_9 ?_
  refine yr_isub (pq := 11) rfl dX8_isStreet_10 ?_
  refine yr_sI3 (pq := 14) rfl dX8_isStreet_11 kM_8_78 (by decide) cat0 (m_within hv (by omega) (by omega) (fun q => ?_) (fun q => ?_))
  · exact yr_zret dX8_isStreet_14 rfl (by first | decide | omega) (k1 (by omega))
  · exact yr_zret dX8_isStreet_14 rfl (by first | decide | omega) (k0 (by omega))
theorem m_at {s f : Int} (k : K (53 + 5 * s + f) h) : ClI (d + 1) mX8_at [vi s, vi f] h K := by
  refine cl_in (al := [vi s, vi f]) rfl (Nat.le_of_ble_eq_true rfl) (by simp [vi_cat, vr_cat, vs_cat]) ?_
  refine yr_bipush (pq := 2) rfl dX8_at_0 rfl ?_
  refine yr_iconst (pq := 3) rfl dX8_at_2 ?_
  refine yr_iload_n (pq := 4) rfl dX8_at_3 rfl ?_
  refine yr_imul (pq := 5) rfl dX8_at_4 ?_
  refine yr_iadd (pq := 6) rfl dX8_at_5 ?_
  refine yr_iload_n (pq := 7) rfl dX8_at_6 rfl ?_
  refine yr_iadd (pq := 8) rfl dX8_at_7 ?_
  exact yr_iret dX8_at_8 rfl (k)
theorem m_streetIs {s f : Int} (hs : 0 ≤ s ∧ s < 14) (hf : 0 ≤ f ∧ f ≤ 4) (k : K (h 109 (53 + 5 * s + f)) h) : ClI (d + 2) mX8_streetIs [vr 108, vi s, vi f] h K := by
  refine cl_in (al := [vr 108, vi s, vi f]) rfl (Nat.le_of_ble_eq_true rfl) (by simp [vi_cat, vr_cat, vs_cat]) ?_
  refine yr_aload_n (pq := 1) rfl dX8_streetIs_0 rfl ?_
  refine yr_getR (pq := 4) (b := 109) 0 rfl dX8_streetIs_1 kF_8_9 (by decide) rfl ?_
  refine yr_iload_n (pq := 5) rfl dX8_streetIs_4 rfl ?_
  refine yr_iload_n (pq := 6) rfl dX8_streetIs_5 rfl ?_
  refine yr_sI2 (pq := 9) rfl dX8_streetIs_6 kM_8_82 (by decide) (Nat.le_of_ble_eq_true rfl) (m_at ?_)
  refine yr_iald (pq := 10) rfl dX8_streetIs_9 rfl (by decide) (by omega) ?_
  exact yr_iret dX8_streetIs_10 rfl (k)
theorem m_comes {kd a b l u : Int} (h8 : 0 ≤ h 109 8 ∧ h 109 8 < 14) (ha : -2147483648 ≤ a ∧ a ≤ 2147483647) (hb : -2147483648 ≤ b ∧ b ≤ 2147483647) (k : ∀ h', (∀ c, c ≠ 109 → h' c = h c) → h' 109 = addN (h 109) kd a b l u → K (h 109 8) h') : ClI (d + 2) mX8_comes [vr 108, vi kd, vi a, vi b, vi l, vi u] h K := by
  refine cl_in (al := [vr 108, vi kd, vi a, vi b, vi l, vi u, .null]) rfl (Nat.le_of_ble_eq_true rfl) (by simp [vi_cat, vr_cat, vs_cat]) ?_
  refine yr_aload_n (pq := 1) rfl dX8_comes_0 rfl ?_
  refine yr_getR (pq := 4) (b := 109) 0 rfl dX8_comes_1 kF_8_9 (by decide) rfl ?_
  refine yr_bipush (pq := 6) rfl dX8_comes_4 rfl ?_
  refine yr_iald (pq := 7) rfl dX8_comes_6 rfl (by decide) (by omega) ?_
  refine yr_istore6 (pq := 9) rfl dX8_comes_7 ?_
  refine yr_aload_n (pq := 10) rfl dX8_comes_9 rfl ?_
  refine yr_getR (pq := 13) (b := 109) 0 rfl dX8_comes_10 kF_8_9 (by decide) rfl ?_
  refine yr_iload (pq := 15) rfl dX8_comes_13 rfl ?_
  refine yr_iconst (pq := 16) rfl dX8_comes_15 ?_
  refine yr_sI2 (pq := 19) rfl dX8_comes_16 kM_8_82 (by decide) (Nat.le_of_ble_eq_true rfl) (m_at ?_)
  refine yr_iload_n (pq := 20) rfl dX8_comes_19 rfl ?_
  refine yr_iast (pq := 21) rfl dX8_comes_20 rfl (by decide) (by omega) ?_
  refine yr_aload_n (pq := 22) rfl dX8_comes_21 rfl ?_
  refine yr_getR (pq := 25) (b := 109) 0 rfl dX8_comes_22 kF_8_9 (by decide) rfl ?_
  refine yr_iload (pq := 27) rfl dX8_comes_25 rfl ?_
  refine yr_iconst (pq := 28) rfl dX8_comes_27 ?_
  refine yr_sI2 (pq := 31) rfl dX8_comes_28 kM_8_82 (by decide) (Nat.le_of_ble_eq_true rfl) (m_at ?_)
  refine yr_iload_n (pq := 32) rfl dX8_comes_31 rfl ?_
  refine yr_iload_n (pq := 33) rfl dX8_comes_32 rfl ?_
  refine yr_sI2 (pq := 36) rfl dX8_comes_33 kM_8_86 (by decide) (Nat.le_of_ble_eq_true rfl) (j_min ha hb ?_)
  refine yr_iast (pq := 37) rfl dX8_comes_36 rfl (by decide) (by omega) ?_
  refine yr_aload_n (pq := 38) rfl dX8_comes_37 rfl ?_
  refine yr_getR (pq := 41) (b := 109) 0 rfl dX8_comes_38 kF_8_9 (by decide) rfl ?_
  refine yr_iload (pq := 43) rfl dX8_comes_41 rfl ?_
  refine yr_iconst (pq := 44) rfl dX8_comes_43 ?_
  refine yr_sI2 (pq := 47) rfl dX8_comes_44 kM_8_82 (by decide) (Nat.le_of_ble_eq_true rfl) (m_at ?_)
  refine yr_iload_n (pq := 48) rfl dX8_comes_47 rfl ?_
  refine yr_iload_n (pq := 49) rfl dX8_comes_48 rfl ?_
  refine yr_sI2 (pq := 52) rfl dX8_comes_49 kM_8_91 (by decide) (Nat.le_of_ble_eq_true rfl) (j_max ha hb ?_)
  refine yr_iast (pq := 53) rfl dX8_comes_52 rfl (by decide) (by omega) ?_
  refine yr_aload_n (pq := 54) rfl dX8_comes_53 rfl ?_
  refine yr_getR (pq := 57) (b := 109) 0 rfl dX8_comes_54 kF_8_9 (by decide) rfl ?_
  refine yr_iload (pq := 59) rfl dX8_comes_57 rfl ?_
  refine yr_iconst (pq := 60) rfl dX8_comes_59 ?_
  refine yr_sI2 (pq := 63) rfl dX8_comes_60 kM_8_82 (by decide) (Nat.le_of_ble_eq_true rfl) (m_at ?_)
  refine yr_iload (pq := 65) rfl dX8_comes_63 rfl ?_
  refine yr_iast (pq := 66) rfl dX8_comes_65 rfl (by decide) (by omega) ?_
  refine yr_aload_n (pq := 67) rfl dX8_comes_66 rfl ?_
  refine yr_getR (pq := 70) (b := 109) 0 rfl dX8_comes_67 kF_8_9 (by decide) rfl ?_
  refine yr_iload (pq := 72) rfl dX8_comes_70 rfl ?_
  refine yr_iconst (pq := 73) rfl dX8_comes_72 ?_
  refine yr_sI2 (pq := 76) rfl dX8_comes_73 kM_8_82 (by decide) (Nat.le_of_ble_eq_true rfl) (m_at ?_)
  refine yr_iload (pq := 78) rfl dX8_comes_76 rfl ?_
  refine yr_iast (pq := 79) rfl dX8_comes_78 rfl (by decide) (by omega) ?_
  refine yr_aload_n (pq := 80) rfl dX8_comes_79 rfl ?_
  refine yr_getR (pq := 83) (b := 109) 0 rfl dX8_comes_80 kF_8_9 (by decide) rfl ?_
  refine yr_bipush (pq := 85) rfl dX8_comes_83 rfl ?_
  refine yr_dup2 (pq := 86) rfl dX8_comes_85 rfl rfl ?_
  refine yr_iald (pq := 87) rfl dX8_comes_86 rfl (by decide) (by omega) ?_
  refine yr_iconst (pq := 88) rfl dX8_comes_87 ?_
  refine yr_iadd (pq := 89) rfl dX8_comes_88 ?_
  refine yr_iast (pq := 90) rfl dX8_comes_89 rfl (by decide) (by omega) ?_
  refine yr_iload (pq := 92) rfl dX8_comes_90 rfl ?_
  refine yr_iret dX8_comes_92 rfl (k _ (fun c hc => by rw [up_ne hc, up_ne hc, up_ne hc, up_ne hc, up_ne hc, up_ne hc]) ?_)
  simp (disch := omega) only [up_o, up_k, up_s]
  rw [up_row, up_row, up_row, up_row, up_row, up_row]
  rfl
theorem m_above {kd : Int} (hk : 0 ≤ kd ∧ kd ≤ 6) (k : K (abK kd) h) : ClI (d + 1) mX8_above [vi kd] h K := by
  refine cl_in (al := [vi kd]) rfl (Nat.le_of_ble_eq_true rfl) (by simp [vi_cat, vr_cat, vs_cat]) ?_
  refine yr_iload_n (pq := 1) rfl dX8_above_0 rfl ?_
  refine yr_if_ne (pq := 4) (t := 8) rfl dX8_above_1 rfl (by omega) (fun q => ?_) (fun q => ?_)
  · refine yr_iload_n (pq := 9) rfl dX8_above_8 rfl ?_
    refine yr_iconst (pq := 10) rfl dX8_above_9 ?_
    refine yr_ic_ne (pq := 13) (t := 17) rfl dX8_above_10 rfl (by omega) (by omega) (fun q2 => ?_) (fun q2 => ?_)
    · refine yr_iload_n (pq := 18) rfl dX8_above_17 rfl ?_
      refine yr_iconst (pq := 19) rfl dX8_above_18 ?_
      refine yr_ic_ne (pq := 22) (t := 26) rfl dX8_above_19 rfl (by omega) (by omega) (fun q3 => ?_) (fun q3 => ?_)
      · refine yr_iload_n (pq := 27) rfl dX8_above_26 rfl ?_
        refine yr_bipush (pq := 29) rfl dX8_above_27 rfl ?_
        refine yr_ic_ne (pq := 32) (t := 36) rfl dX8_above_29 rfl (by omega) (by omega) (fun q4 => ?_) (fun q4 => ?_)
        · have e : abK kd = 0 := by unfold abK; rw [if_pos (by omega)]
          rw [e] at k
          refine yr_iconst (pq := 37) rfl dX8_above_36 ?_
          exact yr_iret dX8_above_37 rfl (k)
        · subst q4
          refine yr_iconst (pq := 33) rfl dX8_above_32 ?_
          refine yr_goto (t := 37) dX8_above_33 rfl ?_
          exact yr_iret dX8_above_37 rfl (k)
      · subst q3
        refine yr_iconst (pq := 23) rfl dX8_above_22 ?_
        refine yr_goto (t := 37) dX8_above_23 rfl ?_
        exact yr_iret dX8_above_37 rfl (k)
    · subst q2
      refine yr_iconst (pq := 14) rfl dX8_above_13 ?_
      refine yr_goto (t := 37) dX8_above_14 rfl ?_
      exact yr_iret dX8_above_37 rfl (k)
  · subst q
    refine yr_iconst (pq := 5) rfl dX8_above_4 ?_
    refine yr_goto (t := 37) dX8_above_5 rfl ?_
    exact yr_iret dX8_above_37 rfl (k)
theorem m_isUnder {kd s : Int} (hk : 0 ≤ kd ∧ kd ≤ 6) (hs : 0 ≤ s ∧ s ≤ 6) (k1 : undK kd s = 1 → K 1 h) (k0 : undK kd s = 0 → K 0 h) : ClI (d + 2) mX8_isUnder [vi kd, vi s] h K := by
  have key : ∀ (n : Nat) (x : Int), -1 ≤ x → x ≤ 6 → (x = 0 → 1 ≤ n) → (x = 1 ∨ x = 2 ∨ x = 5 → 2 ≤ n) → (x = 3 ∨ x = 4 ∨ x = 6 → 3 ≤ n) → K (if x = -1 then 0 else undK x s) h → Yr (d + 1) mX8_isUnder 2 [vi kd, vi s, vi x] [] h (rI K) := by
    intro n
    induction n with
    | zero =>
      intro x h1 h2 h6 h7 h8 kk
      have hx : x = -1 := by omega
      subst hx
      refine yr_iload_n (pq := 3) rfl dX8_isUnder_2 rfl ?_
      refine yr_if_lt (pq := 6) (t := 19) rfl dX8_isUnder_3 rfl (by omega) (fun _ => ?_) (fun q9 => absurd (by omega) q9)
      refine yr_iload_n (pq := 20) rfl dX8_isUnder_19 rfl ?_
      refine yr_if_lt (pq := 23) (t := 27) rfl dX8_isUnder_20 rfl (by omega) (fun _ => ?_) (fun q9 => absurd (by omega) q9)
      refine yr_iconst (pq := 28) rfl dX8_isUnder_27 ?_
      exact yr_zret dX8_isUnder_28 rfl (by first | decide | omega) (kk)
    | succ n ih =>
      intro x h1 h2 h6 h7 h8 kk
      refine yr_iload_n (pq := 3) rfl dX8_isUnder_2 rfl ?_
      refine yr_if_lt (pq := 6) (t := 19) rfl dX8_isUnder_3 rfl (by omega) (fun q => ?_) (fun q => ?_)
      · have hx : x = -1 := by omega
        subst hx
        refine yr_iload_n (pq := 20) rfl dX8_isUnder_19 rfl ?_
        refine yr_if_lt (pq := 23) (t := 27) rfl dX8_isUnder_20 rfl (by omega) (fun _ => ?_) (fun q9 => absurd (by omega) q9)
        refine yr_iconst (pq := 28) rfl dX8_isUnder_27 ?_
        exact yr_zret dX8_isUnder_28 rfl (by first | decide | omega) (kk)
      · refine yr_iload_n (pq := 7) rfl dX8_isUnder_6 rfl ?_
        refine yr_iload_n (pq := 8) rfl dX8_isUnder_7 rfl ?_
        refine yr_ic_eq (pq := 11) (t := 19) rfl dX8_isUnder_8 rfl (by omega) (by omega) (fun q2 => ?_) (fun q2 => ?_)
        · have e : (if x = -1 then 0 else undK x s) = 1 := by
            rw [if_neg (by omega)]
            unfold undK
            rw [if_pos (Or.inl q2)]
          rw [e] at kk
          refine yr_iload_n (pq := 20) rfl dX8_isUnder_19 rfl ?_
          refine yr_if_lt (pq := 23) (t := 27) rfl dX8_isUnder_20 rfl (by omega) (fun q9 => absurd q9 (by omega)) (fun _ => ?_)
          refine yr_iconst (pq := 24) rfl dX8_isUnder_23 ?_
          refine yr_goto (t := 28) dX8_isUnder_24 rfl ?_
          exact yr_zret dX8_isUnder_28 rfl (by first | decide | omega) (kk)
        · refine yr_iload_n (pq := 12) rfl dX8_isUnder_11 rfl ?_
          refine yr_sI1 (pq := 15) rfl dX8_isUnder_12 kM_8_110 (by decide) cat0 (m_above (by omega) ?_)
          refine yr_istore2 (pq := 16) rfl dX8_isUnder_15 ?_
          refine yr_goto (t := 2) dX8_isUnder_16 rfl ?_
          refine ih _ ?_ ?_ ?_ ?_ ?_ ?_
          · rcases (show x = 0 ∨ x = 1 ∨ x = 2 ∨ x = 3 ∨ x = 4 ∨ x = 5 ∨ x = 6 by omega) with rfl | rfl | rfl | rfl | rfl | rfl | rfl <;> decide
          · rcases (show x = 0 ∨ x = 1 ∨ x = 2 ∨ x = 3 ∨ x = 4 ∨ x = 5 ∨ x = 6 by omega) with rfl | rfl | rfl | rfl | rfl | rfl | rfl <;> decide
          · rcases (show x = 0 ∨ x = 1 ∨ x = 2 ∨ x = 3 ∨ x = 4 ∨ x = 5 ∨ x = 6 by omega) with rfl | rfl | rfl | rfl | rfl | rfl | rfl <;> (intro q9; first | omega | exact absurd q9 (by decide))
          · rcases (show x = 0 ∨ x = 1 ∨ x = 2 ∨ x = 3 ∨ x = 4 ∨ x = 5 ∨ x = 6 by omega) with rfl | rfl | rfl | rfl | rfl | rfl | rfl <;> (intro q9; first | omega | exact absurd q9 (by decide))
          · rcases (show x = 0 ∨ x = 1 ∨ x = 2 ∨ x = 3 ∨ x = 4 ∨ x = 5 ∨ x = 6 by omega) with rfl | rfl | rfl | rfl | rfl | rfl | rfl <;> (intro q9; first | omega | exact absurd q9 (by decide))
          · have e : (if x = -1 then 0 else undK x s) = (if abK x = -1 then 0 else undK (abK x) s) := by
              rcases (show x = 0 ∨ x = 1 ∨ x = 2 ∨ x = 3 ∨ x = 4 ∨ x = 5 ∨ x = 6 by omega) with rfl | rfl | rfl | rfl | rfl | rfl | rfl <;> simp [undK, abK] <;> omega
            rw [← e]
            exact kk
  have hu : undK kd s = 0 ∨ undK kd s = 1 := by
    unfold undK
    split
    · exact Or.inr rfl
    · exact Or.inl rfl
  refine cl_in (al := [vi kd, vi s, .null]) rfl (Nat.le_of_ble_eq_true rfl) (by simp [vi_cat, vr_cat, vs_cat]) ?_
  refine yr_iload_n (pq := 1) rfl dX8_isUnder_0 rfl ?_
  refine yr_istore2 (pq := 2) rfl dX8_isUnder_1 ?_
  refine key 3 kd (by omega) (by omega) (by omega) (by omega) (by omega) ?_
  rw [if_neg (by omega)]
  rcases hu with e | e
  · rw [e]; exact k0 e
  · rw [e]; exact k1 e
theorem und5 {kd : Int} (hk : 0 ≤ kd ∧ kd ≤ 6) : undK kd 5 = if kd = 5 ∨ kd = 6 then 1 else 0 := by
  rcases (show kd = 0 ∨ kd = 1 ∨ kd = 2 ∨ kd = 3 ∨ kd = 4 ∨ kd = 5 ∨ kd = 6 by omega) with rfl | rfl | rfl | rfl | rfl | rfl | rfl <;> decide
theorem und2 {kd : Int} (hk : 0 ≤ kd ∧ kd ≤ 6) : undK kd 2 = if kd = 2 ∨ kd = 4 then 1 else 0 := by
  rcases (show kd = 0 ∨ kd = 1 ∨ kd = 2 ∨ kd = 3 ∨ kd = 4 ∨ kd = 5 ∨ kd = 6 by omega) with rfl | rfl | rfl | rfl | rfl | rfl | rfl <;> decide
theorem m_takes {s : Int} (hO : okT (h 109)) (s0 : 0 ≤ s) (s1 : s < h 109 8) (k : K (takesF (h 109) s) h) : ClI (d + 3) mX8_takes [vr 108, vi s] h K := by
  have h8 := hO.1
  obtain ⟨o0, -, o3, -⟩ := hO.2.2.2.2 s s0 s1
  unfold takesF takesK at k
  refine cl_in (al := [vr 108, vi s, .null, .null]) rfl (Nat.le_of_ble_eq_true rfl) (by simp [vi_cat, vr_cat, vs_cat]) ?_
  refine yr_aload_n (pq := 1) rfl dX8_takes_0 rfl ?_
  refine yr_iload_n (pq := 2) rfl dX8_takes_1 rfl ?_
  refine yr_iconst (pq := 3) rfl dX8_takes_2 ?_
  refine yr_vI2 (pq := 6) rfl dX8_takes_3 kM_8_113 (by decide) (by decide) cat0 (m_streetIs (by omega) (by omega) ?_)
  refine yr_istore2 (pq := 7) rfl dX8_takes_6 ?_
  refine yr_aload_n (pq := 8) rfl dX8_takes_7 rfl ?_
  refine yr_iload_n (pq := 9) rfl dX8_takes_8 rfl ?_
  refine yr_iconst (pq := 10) rfl dX8_takes_9 ?_
  refine yr_vI2 (pq := 13) rfl dX8_takes_10 kM_8_113 (by decide) (by decide) cat0 (m_streetIs (by omega) (by omega) ?_)
  refine yr_istore3 (pq := 14) rfl dX8_takes_13 ?_
  refine yr_iload_n (pq := 15) rfl dX8_takes_14 rfl ?_
  refine yr_iconst (pq := 16) rfl dX8_takes_15 ?_
  refine yr_ic_ne (pq := 19) (t := 27) rfl dX8_takes_16 rfl (by omega) (by omega) (fun q => ?_) (fun q => ?_)
  · rw [if_neg q] at k
    refine yr_iload_n (pq := 28) rfl dX8_takes_27 rfl ?_
    refine yr_iconst (pq := 29) rfl dX8_takes_28 ?_
    refine yr_sI2 (pq := 32) rfl dX8_takes_29 kM_8_116 (by decide) cat0 (m_isUnder o0 (by decide) (fun q2 => ?_) (fun q2 => ?_))
    · rw [und5 o0] at q2
      have q3 : h 109 (53 + 5 * s + 0) = 5 ∨ h 109 (53 + 5 * s + 0) = 6 := by
        by_cases e : h 109 (53 + 5 * s + 0) = 5 ∨ h 109 (53 + 5 * s + 0) = 6
        · exact e
        · rw [if_neg e] at q2; omega
      rw [if_pos q3] at k
      refine yr_if_eq (pq := 35) (t := 41) rfl dX8_takes_32 rfl (by decide) (fun q9 => absurd q9 (by decide)) (fun _ => ?_)
      refine yr_iload_n (pq := 36) rfl dX8_takes_35 rfl ?_
      refine yr_iconst (pq := 37) rfl dX8_takes_36 ?_
      refine yr_iadd (pq := 38) rfl dX8_takes_37 ?_
      refine yr_goto (t := 42) dX8_takes_38 rfl ?_
      exact yr_iret dX8_takes_42 rfl (k)
    · rw [und5 o0] at q2
      have q3 : ¬ (h 109 (53 + 5 * s + 0) = 5 ∨ h 109 (53 + 5 * s + 0) = 6) := by
        intro e
        rw [if_pos e] at q2; omega
      rw [if_neg q3] at k
      refine yr_if_eq (pq := 35) (t := 41) rfl dX8_takes_32 rfl (by decide) (fun _ => ?_) (fun q9 => absurd (by decide) q9)
      refine yr_iload_n (pq := 42) rfl dX8_takes_41 rfl ?_
      exact yr_iret dX8_takes_42 rfl (k)
  · rw [if_pos q] at k
    refine yr_iload_n (pq := 20) rfl dX8_takes_19 rfl ?_
    refine yr_iload_n (pq := 21) rfl dX8_takes_20 rfl ?_
    refine yr_iconst (pq := 22) rfl dX8_takes_21 ?_
    refine yr_idiv (pq := 23) rfl dX8_takes_22 (by omega) (by omega) ?_
    refine yr_iadd (pq := 24) rfl dX8_takes_23 ?_
    refine yr_goto (t := 42) dX8_takes_24 rfl ?_
    exact yr_iret dX8_takes_42 rfl (k)
theorem m_licks {s : Int} (hO : okT (h 109)) (s0 : 0 ≤ s) (s1 : s < h 109 8) (k : K (licksK (h 109 (53 + 5 * s + 0))) h) : ClI (d + 3) mX8_licks [vr 108, vi s] h K := by
  have h8 := hO.1
  obtain ⟨o0, -, o3, -⟩ := hO.2.2.2.2 s s0 s1
  unfold licksK at k
  refine cl_in (al := [vr 108, vi s, .null]) rfl (Nat.le_of_ble_eq_true rfl) (by simp [vi_cat, vr_cat, vs_cat]) ?_
  refine yr_aload_n (pq := 1) rfl dX8_licks_0 rfl ?_
  refine yr_iload_n (pq := 2) rfl dX8_licks_1 rfl ?_
  refine yr_iconst (pq := 3) rfl dX8_licks_2 ?_
  refine yr_vI2 (pq := 6) rfl dX8_licks_3 kM_8_113 (by decide) (by decide) cat0 (m_streetIs (by omega) (by omega) ?_)
  refine yr_istore2 (pq := 7) rfl dX8_licks_6 ?_
  refine yr_iload_n (pq := 8) rfl dX8_licks_7 rfl ?_
  refine yr_bipush (pq := 10) rfl dX8_licks_8 rfl ?_
  refine yr_ic_ne (pq := 13) (t := 17) rfl dX8_licks_10 rfl (by omega) (by omega) (fun q => ?_) (fun q => ?_)
  · rw [if_neg q] at k
    refine yr_iload_n (pq := 18) rfl dX8_licks_17 rfl ?_
    refine yr_iconst (pq := 19) rfl dX8_licks_18 ?_
    refine yr_ic_ne (pq := 22) (t := 26) rfl dX8_licks_19 rfl (by omega) (by omega) (fun q2 => ?_) (fun q2 => ?_)
    · rw [if_neg q2] at k
      refine yr_iconst (pq := 27) rfl dX8_licks_26 ?_
      exact yr_iret dX8_licks_27 rfl (k)
    · rw [if_pos q2] at k
      refine yr_iconst (pq := 23) rfl dX8_licks_22 ?_
      refine yr_goto (t := 27) dX8_licks_23 rfl ?_
      exact yr_iret dX8_licks_27 rfl (k)
  · rw [if_pos q] at k
    refine yr_iconst (pq := 14) rfl dX8_licks_13 ?_
    refine yr_goto (t := 27) dX8_licks_14 rfl ?_
    exact yr_iret dX8_licks_27 rfl (k)
theorem m_lossOf {s i : Int} (hO : okT (h 109)) (hl : 0 ≤ h 109 44 ∧ h 109 44 ≤ 1) (s0 : 0 ≤ s) (s1 : s < h 109 8) (i0 : 0 ≤ i) (i1 : i < 12) (k : K (lossF (h 109) (h 109 44) s i) h) : ClI (d + 4) mX8_lossOf [vr 108, vi s, vi i] h K := by
  have h8 := hO.1
  obtain ⟨o0, -, -, o4⟩ := hO.2.2.2.2 s s0 s1
  have q3 := hO.2.2.1 i i0 i1
  have q4 := hO.2.2.2.1 i i0 i1
  have fin : ∀ me we : Int, (0 ≤ me ∧ me ≤ 18) → me = meltK (h 109 (53 + 5 * s + 0)) (h 109 (20 + i)) → we = wetK (h 109 (53 + 5 * s + 0)) (h 109 (32 + i)) → Yr (d + 3) mX8_lossOf 92 [vr 108, vi s, vi i, vi (h 109 (53 + 5 * s + 0)), vi (h 109 (20 + i)), vi (h 109 (32 + i)), vi me, vi we] [] h (rI K) := by
    intro me we hme em ew
    unfold lossF lossK at k
    rw [← em, ← ew] at k
    refine yr_aload_n (pq := 93) rfl dX8_lossOf_92 rfl ?_
    refine yr_iload_n (pq := 94) rfl dX8_lossOf_93 rfl ?_
    refine yr_iconst (pq := 95) rfl dX8_lossOf_94 ?_
    refine yr_vI2 (pq := 98) rfl dX8_lossOf_95 kM_8_113 (by decide) (by decide) cat0 (m_streetIs (by omega) (by omega) ?_)
    refine yr_iconst (pq := 99) rfl dX8_lossOf_98 ?_
    refine yr_ic_ne (pq := 102) (t := 106) rfl dX8_lossOf_99 rfl (by omega) (by omega) (fun q => ?_) (fun q => ?_)
    · rw [if_neg q] at k
      refine yr_iload (pq := 108) rfl dX8_lossOf_106 rfl ?_
      refine yr_istore7 (pq := 110) rfl dX8_lossOf_108 ?_
      refine yr_aload_n (pq := 111) rfl dX8_lossOf_110 rfl ?_
      refine yr_getR (pq := 114) (b := 109) 0 rfl dX8_lossOf_111 kF_8_9 (by decide) rfl ?_
      refine yr_bipush (pq := 116) rfl dX8_lossOf_114 rfl ?_
      refine yr_iald (pq := 117) rfl dX8_lossOf_116 rfl (by decide) (by omega) ?_
      refine yr_iconst (pq := 118) rfl dX8_lossOf_117 ?_
      refine yr_ic_ne (pq := 121) (t := 133) rfl dX8_lossOf_118 rfl (by omega) (by omega) (fun q2 => ?_) (fun q2 => ?_)
      · rw [if_neg q2] at k
        refine yr_iload (pq := 135) rfl dX8_lossOf_133 rfl ?_
        refine yr_iload (pq := 137) rfl dX8_lossOf_135 rfl ?_
        refine yr_iadd (pq := 138) rfl dX8_lossOf_137 ?_
        refine yr_aload_n (pq := 139) rfl dX8_lossOf_138 rfl ?_
        refine yr_iload_n (pq := 140) rfl dX8_lossOf_139 rfl ?_
        refine yr_vI1 (pq := 143) rfl dX8_lossOf_140 kM_8_120 (by decide) (by decide) (Nat.le_of_ble_eq_true rfl) (m_licks hO s0 s1 ?_)
        refine yr_iadd (pq := 144) rfl dX8_lossOf_143 ?_
        exact yr_iret dX8_lossOf_144 rfl (k)
      · rw [if_pos q2] at k
        refine yr_iload (pq := 123) rfl dX8_lossOf_121 rfl ?_
        refine yr_iconst (pq := 124) rfl dX8_lossOf_123 ?_
        refine yr_idiv (pq := 125) rfl dX8_lossOf_124 (by omega) (by omega) ?_
        refine yr_iconst (pq := 126) rfl dX8_lossOf_125 ?_
        refine yr_iload (pq := 128) rfl dX8_lossOf_126 rfl ?_
        refine yr_imul (pq := 129) rfl dX8_lossOf_128 ?_
        refine yr_iadd (pq := 130) rfl dX8_lossOf_129 ?_
        refine yr_goto (t := 144) dX8_lossOf_130 rfl ?_
        exact yr_iret dX8_lossOf_144 rfl (k)
    · rw [if_pos q] at k
      refine yr_iconst (pq := 103) rfl dX8_lossOf_102 ?_
      refine yr_goto (t := 108) dX8_lossOf_103 rfl ?_
      refine yr_istore7 (pq := 110) rfl dX8_lossOf_108 ?_
      refine yr_aload_n (pq := 111) rfl dX8_lossOf_110 rfl ?_
      refine yr_getR (pq := 114) (b := 109) 0 rfl dX8_lossOf_111 kF_8_9 (by decide) rfl ?_
      refine yr_bipush (pq := 116) rfl dX8_lossOf_114 rfl ?_
      refine yr_iald (pq := 117) rfl dX8_lossOf_116 rfl (by decide) (by omega) ?_
      refine yr_iconst (pq := 118) rfl dX8_lossOf_117 ?_
      refine yr_ic_ne (pq := 121) (t := 133) rfl dX8_lossOf_118 rfl (by omega) (by omega) (fun q2 => ?_) (fun q2 => ?_)
      · rw [if_neg q2] at k
        refine yr_iload (pq := 135) rfl dX8_lossOf_133 rfl ?_
        refine yr_iload (pq := 137) rfl dX8_lossOf_135 rfl ?_
        refine yr_iadd (pq := 138) rfl dX8_lossOf_137 ?_
        refine yr_aload_n (pq := 139) rfl dX8_lossOf_138 rfl ?_
        refine yr_iload_n (pq := 140) rfl dX8_lossOf_139 rfl ?_
        refine yr_vI1 (pq := 143) rfl dX8_lossOf_140 kM_8_120 (by decide) (by decide) (Nat.le_of_ble_eq_true rfl) (m_licks hO s0 s1 ?_)
        refine yr_iadd (pq := 144) rfl dX8_lossOf_143 ?_
        exact yr_iret dX8_lossOf_144 rfl (k)
      · rw [if_pos q2] at k
        refine yr_iload (pq := 123) rfl dX8_lossOf_121 rfl ?_
        refine yr_iconst (pq := 124) rfl dX8_lossOf_123 ?_
        refine yr_idiv (pq := 125) rfl dX8_lossOf_124 (by omega) (by omega) ?_
        refine yr_iconst (pq := 126) rfl dX8_lossOf_125 ?_
        refine yr_iload (pq := 128) rfl dX8_lossOf_126 rfl ?_
        refine yr_imul (pq := 129) rfl dX8_lossOf_128 ?_
        refine yr_iadd (pq := 130) rfl dX8_lossOf_129 ?_
        refine yr_goto (t := 144) dX8_lossOf_130 rfl ?_
        exact yr_iret dX8_lossOf_144 rfl (k)
  refine cl_in (al := [vr 108, vi s, vi i, .null, .null, .null, .null, .null]) rfl (Nat.le_of_ble_eq_true rfl) (by simp [vi_cat, vr_cat, vs_cat]) ?_
  refine yr_aload_n (pq := 1) rfl dX8_lossOf_0 rfl ?_
  refine yr_iload_n (pq := 2) rfl dX8_lossOf_1 rfl ?_
  refine yr_iconst (pq := 3) rfl dX8_lossOf_2 ?_
  refine yr_vI2 (pq := 6) rfl dX8_lossOf_3 kM_8_113 (by decide) (by decide) cat0 (m_streetIs (by omega) (by omega) ?_)
  refine yr_istore3 (pq := 7) rfl dX8_lossOf_6 ?_
  refine yr_aload_n (pq := 8) rfl dX8_lossOf_7 rfl ?_
  refine yr_getR (pq := 11) (b := 109) 0 rfl dX8_lossOf_8 kF_8_9 (by decide) rfl ?_
  refine yr_bipush (pq := 13) rfl dX8_lossOf_11 rfl ?_
  refine yr_iload_n (pq := 14) rfl dX8_lossOf_13 rfl ?_
  refine yr_iadd (pq := 15) rfl dX8_lossOf_14 ?_
  refine yr_iald (pq := 16) rfl dX8_lossOf_15 rfl (by decide) (by omega) ?_
  refine yr_istore4 (pq := 18) rfl dX8_lossOf_16 ?_
  refine yr_aload_n (pq := 19) rfl dX8_lossOf_18 rfl ?_
  refine yr_getR (pq := 22) (b := 109) 0 rfl dX8_lossOf_19 kF_8_9 (by decide) rfl ?_
  refine yr_bipush (pq := 24) rfl dX8_lossOf_22 rfl ?_
  refine yr_iload_n (pq := 25) rfl dX8_lossOf_24 rfl ?_
  refine yr_iadd (pq := 26) rfl dX8_lossOf_25 ?_
  refine yr_iald (pq := 27) rfl dX8_lossOf_26 rfl (by decide) (by omega) ?_
  refine yr_istore5 (pq := 29) rfl dX8_lossOf_27 ?_
  refine yr_iconst (pq := 30) rfl dX8_lossOf_29 ?_
  refine yr_iload (pq := 32) rfl dX8_lossOf_30 rfl ?_
  refine yr_imul (pq := 33) rfl dX8_lossOf_32 ?_
  refine yr_istore6 (pq := 35) rfl dX8_lossOf_33 ?_
  refine yr_iconst (pq := 36) rfl dX8_lossOf_35 ?_
  refine yr_iload (pq := 38) rfl dX8_lossOf_36 rfl ?_
  refine yr_imul (pq := 39) rfl dX8_lossOf_38 ?_
  refine yr_istore7 (pq := 41) rfl dX8_lossOf_39 ?_
  refine yr_iload_n (pq := 42) rfl dX8_lossOf_41 rfl ?_
  refine yr_iconst (pq := 43) rfl dX8_lossOf_42 ?_
  refine yr_ic_ne (pq := 46) (t := 55) rfl dX8_lossOf_43 rfl (by omega) (by omega) (fun q => ?_) (fun q => ?_)
  · refine yr_iload_n (pq := 56) rfl dX8_lossOf_55 rfl ?_
    refine yr_iconst (pq := 57) rfl dX8_lossOf_56 ?_
    refine yr_ic_ne (pq := 60) (t := 67) rfl dX8_lossOf_57 rfl (by omega) (by omega) (fun q2 => ?_) (fun q2 => ?_)
    · refine yr_iload_n (pq := 68) rfl dX8_lossOf_67 rfl ?_
      refine yr_iconst (pq := 69) rfl dX8_lossOf_68 ?_
      refine yr_sI2 (pq := 72) rfl dX8_lossOf_69 kM_8_116 (by decide) cat0 (m_isUnder o0 (by decide) (fun q5 => ?_) (fun q5 => ?_))
      · have q6 : h 109 (53 + 5 * s + 0) = 2 ∨ h 109 (53 + 5 * s + 0) = 4 := by
          rw [und2 o0] at q5
          by_cases e : h 109 (53 + 5 * s + 0) = 2 ∨ h 109 (53 + 5 * s + 0) = 4
          · exact e
          · rw [if_neg e] at q5; omega
        refine yr_if_eq (pq := 75) (t := 92) rfl dX8_lossOf_72 rfl (by decide) (fun q9 => absurd q9 (by decide)) (fun _ => ?_)
        refine yr_iconst (pq := 76) rfl dX8_lossOf_75 ?_
        refine yr_iload (pq := 78) rfl dX8_lossOf_76 rfl ?_
        refine yr_iconst (pq := 79) rfl dX8_lossOf_78 ?_
        refine yr_isub (pq := 80) rfl dX8_lossOf_79 ?_
        refine yr_sI2 (pq := 83) rfl dX8_lossOf_80 kM_8_91 (by decide) cat0 (j_max (by omega) (by omega) ?_)
        refine yr_istore6 (pq := 85) rfl dX8_lossOf_83 ?_
        refine yr_iload (pq := 87) rfl dX8_lossOf_85 rfl ?_
        refine yr_iload (pq := 89) rfl dX8_lossOf_87 rfl ?_
        refine yr_iadd (pq := 90) rfl dX8_lossOf_89 ?_
        refine yr_istore7 (pq := 92) rfl dX8_lossOf_90 ?_
        refine fin _ _ (by omega) ?_ ?_
        · unfold meltK; rw [if_neg q, if_neg q2, if_pos q6]
        · unfold wetK; rw [if_neg q, if_pos q6]
      · have q6 : ¬ (h 109 (53 + 5 * s + 0) = 2 ∨ h 109 (53 + 5 * s + 0) = 4) := by
          rw [und2 o0] at q5
          intro e
          rw [if_pos e] at q5; omega
        refine yr_if_eq (pq := 75) (t := 92) rfl dX8_lossOf_72 rfl (by decide) (fun _ => ?_) (fun q9 => absurd (by decide) q9)
        refine fin _ _ (by omega) ?_ ?_
        · unfold meltK; rw [if_neg q, if_neg q2, if_neg q6]
        · unfold wetK; rw [if_neg q, if_neg q6]
    · refine yr_iload (pq := 62) rfl dX8_lossOf_60 rfl ?_
      refine yr_istore6 (pq := 64) rfl dX8_lossOf_62 ?_
      refine yr_goto (t := 92) dX8_lossOf_64 rfl ?_
      refine fin _ _ (by omega) ?_ ?_
      · unfold meltK; rw [if_neg q, if_pos q2]
      · unfold wetK; rw [if_neg q, if_neg (by omega)]
  · refine yr_iconst (pq := 47) rfl dX8_lossOf_46 ?_
    refine yr_istore6 (pq := 49) rfl dX8_lossOf_47 ?_
    refine yr_iconst (pq := 50) rfl dX8_lossOf_49 ?_
    refine yr_istore7 (pq := 52) rfl dX8_lossOf_50 ?_
    refine yr_goto (t := 92) dX8_lossOf_52 rfl ?_
    refine fin _ _ (by omega) ?_ ?_
    · unfold meltK; rw [if_pos q]
    · unfold wetK; rw [if_pos q]
end MR
