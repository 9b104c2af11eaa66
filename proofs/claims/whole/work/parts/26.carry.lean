/-! draws, neighbours, carrying -/
theorem iu_8 (a : Int) : 0 ≤ iu a 8 ∧ iu a 8 ≤ 16777215 := by
  unfold iu
  have hs : (((Int32.ofInt 8).toUInt32 &&& Int32.toUInt32 31).toBitVec % 32).toNat = 8 := by decide +kernel
  have e := pk_ushr (Int32.ofInt a) (Int32.ofInt 8) 8 hs
  generalize ((Int32.ofInt a).toUInt32 >>> ((Int32.ofInt 8).toUInt32 &&& Int32.toUInt32 31)).toInt32 = x at e ⊢
  have hl : (Int32.ofInt a).toBitVec.toNat < 4294967296 := (Int32.ofInt a).toBitVec.isLt
  have hx : x.toBitVec.toNat < 16777216 := by rw [e]; omega
  show 0 ≤ x.toBitVec.toInt ∧ x.toBitVec.toInt ≤ 16777215
  rw [BitVec.toInt_eq_toNat_of_lt (by omega)]
  omega
def drwF (z : Int) : Int := iu (z * 1103515245 + 12345) 8
/-- how many bits a set of eight has -/
def pcF (n : Nat) : Nat := ((List.range 8).filter (fun i => n.testBit i)).length
def bcF (x0 : Int) : Int :=
  let x1 := x0 - ia (iu x0 1) 1431655765
  let x2 := ia x1 858993459 + ia (iu x1 2) 858993459
  let x3 := ia (x2 + iu x2 4) 252645135
  let x4 := x3 + iu x3 8
  let x5 := x4 + iu x4 16
  ia x5 63
theorem bcF_ok : ∀ n : Fin 256, bcF (n.val : Int) = ((pcF n.val : Nat) : Int) := by decide +kernel
theorem pcF_b (n : Nat) : pcF n ≤ 8 := by
  unfold pcF
  exact Nat.le_trans (List.length_filter_le _ _) (by simp)
theorem pcF_0 : ∀ n : Fin 256, pcF n.val = 0 ↔ n.val = 0 := by decide +kernel
theorem pcF_step : ∀ n : Fin 256, n.val ≠ 0 → 0 ≤ ia (n.val : Int) ((n.val : Int) - 1) ∧ ia (n.val : Int) ((n.val : Int) - 1) < 256 ∧ pcF (ia (n.val : Int) ((n.val : Int) - 1)).toNat + 1 = pcF n.val := by decide +kernel
/-- the corner of a set that has so many ahead of it; -1: none -/
def pickF (m : Nat) (k : Int) (x : Int) : Nat → Int
  | 0 => -1
  | n + 1 => if m.testBit k.toNat = true then (if x = 0 then k else pickF m (k + 1) (x - 1) n) else pickF m (k + 1) x n
/-- she is carried along the street s to the corner c -/
def lossT (N : Int → Int) (s : Int) : Int := sumM (lossF N (N 44) s) (N 50) (takesF N s).toNat
def carN (N : Int → Int) (s c : Int) : Int → Int := fun j =>
  if j = 45 then mltP (lossT N s) 0 (N 45)
  else if j = 46 then mltP (lossT N s) (N 45) (N 46)
  else if j = 47 then mltP (lossT N s) (N 45 + N 46) (N 47)
  else if j = 48 then mltP (lossT N s) (N 45 + N 46 + N 47) (N 48)
  else if j = 49 then c
  else if j = 50 then N 50 + takesF N s
  else if j = 51 then (if 0 < mltP (lossT N s) (N 45 + N 46) (N 47) then io (N 51) (il 1 (N c)) else N 51)
  else if j = 52 then N 52 + min (lossT N s) (totF N)
  else N j
theorem lossT_b {N : Int → Int} (hO : okT N) (hm : 0 ≤ N 50) {s : Int} (s0 : 0 ≤ s) (s1 : s < N 8) : 0 ≤ lossT N s ∧ lossT N s ≤ 3510 := by
  have ht := takesF_b hO s0 s1
  have h := sumM_b (f := lossF N (N 44) s) (B := 117) (fun i i0 i1 => lossF_b hO i0 i1) (takesF N s).toNat (N 50) hm
  unfold lossT
  omega
theorem RT_cong {h h' : hT} {T : Int} {N : Int → Int} (hR : RT h T N) (hO : okT N) (e : ∀ j, 0 ≤ j → j ≤ 19 → j ≠ 5 → h' (T + j) = h (T + j)) : RT h' T N := by
  have h8 := hO.1
  have e0 := e 0 (by omega) (by omega) (by omega)
  rw [Int.add_zero] at e0
  refine ⟨by rw [e0]; exact hR.1, fun c c0 c1 => by rw [e 2 (by omega) (by omega) (by omega)]; exact hR.2.1 c c0 c1, fun c c0 c1 => by rw [e 3 (by omega) (by omega) (by omega)]; exact hR.2.2.1 c c0 c1, fun c c0 c1 => by rw [e 4 (by omega) (by omega) (by omega)]; exact hR.2.2.2.1 c c0 c1, fun s s0 s1 => ?_⟩
  have es := e (6 + s) (by omega) (by omega) (by omega)
  rw [← Int.add_assoc] at es
  rw [es]
  exact hR.2.2.2.2 s s0 s1
theorem RT_row {h : hT} {T : Int} {N N' : Int → Int} (hR : RT h T N) (e : ∀ j, (j < 9 ∨ (20 ≤ j ∧ j < 44) ∨ 53 ≤ j) → N' j = N j) : RT h T N' := by
  have e8 := e 8 (by omega)
  refine ⟨by rw [e8]; exact hR.1, fun c c0 c1 => by rw [e c (by omega)]; exact hR.2.1 c c0 c1, fun c c0 c1 => by rw [e _ (by omega)]; exact hR.2.2.1 c c0 c1, fun c c0 c1 => by rw [e _ (by omega)]; exact hR.2.2.2.1 c c0 c1, fun s s0 s1 => ?_⟩
  rw [e8] at s1
  rw [e _ (by omega), e _ (by omega), e _ (by omega), e _ (by omega), e _ (by omega)]
  exact hR.2.2.2.2 s s0 s1
theorem okT_row {N N' : Int → Int} (hO : okT N) (e : ∀ j, (j < 9 ∨ (20 ≤ j ∧ j < 44) ∨ 53 ≤ j) → N' j = N j) : okT N' := by
  have e8 := e 8 (by omega)
  refine ⟨by rw [e8]; exact hO.1, fun c c0 c1 => by rw [e c (by omega)]; exact hO.2.1 c c0 c1, fun c c0 c1 => by rw [e _ (by omega)]; exact hO.2.2.1 c c0 c1, fun c c0 c1 => by rw [e _ (by omega)]; exact hO.2.2.2.1 c c0 c1, fun s s0 s1 => ?_⟩
  rw [e8] at s1
  rw [e _ (by omega), e _ (by omega), e _ (by omega), e _ (by omega), e _ (by omega)]
  exact hO.2.2.2.2 s s0 s1
theorem carN_lo {N : Int → Int} {s c j : Int} (q : j < 45 ∨ 53 ≤ j) : carN N s c j = N j := by
  unfold carN
  rw [if_neg (by omega), if_neg (by omega), if_neg (by omega), if_neg (by omega), if_neg (by omega), if_neg (by omega), if_neg (by omega), if_neg (by omega)]
theorem seen_b {a q : Int} (ha : 0 ≤ a ∧ a ≤ 15) (hq : 0 ≤ q ∧ q ≤ 3) : 0 ≤ io a (il 1 q) ∧ io a (il 1 q) ≤ 15 := by
  obtain ⟨m, rfl⟩ := Int.eq_ofNat_of_zero_le ha.1
  obtain ⟨n, rfl⟩ := Int.eq_ofNat_of_zero_le hq.1
  have := (by decide +kernel : ∀ m : Fin 16, ∀ n : Fin 4, 0 ≤ io (m.val : Int) (il 1 (n.val : Int)) ∧ io (m.val : Int) (il 1 (n.val : Int)) ≤ 15)
  exact this ⟨m, by omega⟩ ⟨n, by omega⟩
theorem carN_okS {N : Int → Int} (hO : okT N) (hS : okS N) {s c : Int} (s0 : 0 ≤ s) (s1 : s < N 8) (hc : 0 ≤ c ∧ c ≤ 7) (hm : N 50 + takesF N s ≤ 2000) : okS (carN N s c) := by
  obtain ⟨a1, a2, a3, a4, a5, a6⟩ := hS
  have ht := takesF_b hO s0 s1
  have hl := lossT_b hO a3.1 s0 s1
  have hs := seen_b a4 (hO.2.1 c hc.1 (by omega))
  refine ⟨by rw [carN_lo (by omega)]; exact a1, hc, ?_, ?_, ?_, fun t t0 t1 => by rw [carN_lo (by omega), carN_lo (by omega)]; exact a6 t t0 t1⟩
  · show 0 ≤ N 50 + takesF N s ∧ N 50 + takesF N s ≤ 2000
    omega
  · show 0 ≤ (if 0 < mltP (lossT N s) (N 45 + N 46) (N 47) then io (N 51) (il 1 (N c)) else N 51) ∧ (if 0 < mltP (lossT N s) (N 45 + N 46) (N 47) then io (N 51) (il 1 (N c)) else N 51) ≤ 15
    split
    · exact hs
    · exact a4
  · show 0 ≤ mltP (lossT N s) 0 (N 45) ∧ 0 ≤ mltP (lossT N s) (N 45) (N 46) ∧ 0 ≤ mltP (lossT N s) (N 45 + N 46) (N 47) ∧ 0 ≤ mltP (lossT N s) (N 45 + N 46 + N 47) (N 48) ∧ max (mltP (lossT N s) 0 (N 45)) 9999 + max (mltP (lossT N s) (N 45) (N 46)) 9999 + max (mltP (lossT N s) (N 45 + N 46) (N 47)) 9999 + max (mltP (lossT N s) (N 45 + N 46 + N 47) (N 48)) 9999 ≤ 99999
    unfold mltP
    omega
section CC
variable {d : Nat} {h : hT} {K : Int → hT → Prop} {KV : hT → Prop} {N : Int → Int}
theorem j_bitCount {n : Nat} (hn : n < 256) (k : K ((pcF n : Nat) : Int) h) : ClI (d + 1) mJ6_bitCount_0f7a4 [vi (n : Int)] h K := by
  refine cl_in (al := [vi (n : Int)]) rfl (Nat.le_of_ble_eq_true rfl) (by simp [vi_cat, vr_cat, vs_cat]) ?_
  refine yr_iload_n (pq := 1) rfl dJ6_bitCount_0f7a4_0 rfl ?_
  refine yr_iload_n (pq := 2) rfl dJ6_bitCount_0f7a4_1 rfl ?_
  refine yr_iconst (pq := 3) rfl dJ6_bitCount_0f7a4_2 ?_
  refine yr_iushr (pq := 4) rfl dJ6_bitCount_0f7a4_3 ?_
  refine yr_ldc_w (pq := 7) rfl dJ6_bitCount_0f7a4_4 kN_10_265 ?_
  refine yr_iand (pq := 8) rfl dJ6_bitCount_0f7a4_7 ?_
  refine yr_isub (pq := 9) rfl dJ6_bitCount_0f7a4_8 ?_
  refine yr_istore0 (pq := 10) rfl dJ6_bitCount_0f7a4_9 ?_
  refine yr_iload_n (pq := 11) rfl dJ6_bitCount_0f7a4_10 rfl ?_
  refine yr_ldc_w (pq := 14) rfl dJ6_bitCount_0f7a4_11 kN_10_266 ?_
  refine yr_iand (pq := 15) rfl dJ6_bitCount_0f7a4_14 ?_
  refine yr_iload_n (pq := 16) rfl dJ6_bitCount_0f7a4_15 rfl ?_
  refine yr_iconst (pq := 17) rfl dJ6_bitCount_0f7a4_16 ?_
  refine yr_iushr (pq := 18) rfl dJ6_bitCount_0f7a4_17 ?_
  refine yr_ldc_w (pq := 21) rfl dJ6_bitCount_0f7a4_18 kN_10_266 ?_
  refine yr_iand (pq := 22) rfl dJ6_bitCount_0f7a4_21 ?_
  refine yr_iadd (pq := 23) rfl dJ6_bitCount_0f7a4_22 ?_
  refine yr_istore0 (pq := 24) rfl dJ6_bitCount_0f7a4_23 ?_
  refine yr_iload_n (pq := 25) rfl dJ6_bitCount_0f7a4_24 rfl ?_
  refine yr_iload_n (pq := 26) rfl dJ6_bitCount_0f7a4_25 rfl ?_
  refine yr_iconst (pq := 27) rfl dJ6_bitCount_0f7a4_26 ?_
  refine yr_iushr (pq := 28) rfl dJ6_bitCount_0f7a4_27 ?_
  refine yr_iadd (pq := 29) rfl dJ6_bitCount_0f7a4_28 ?_
  refine yr_ldc_w (pq := 32) rfl dJ6_bitCount_0f7a4_29 kN_10_267 ?_
  refine yr_iand (pq := 33) rfl dJ6_bitCount_0f7a4_32 ?_
  refine yr_istore0 (pq := 34) rfl dJ6_bitCount_0f7a4_33 ?_
  refine yr_iload_n (pq := 35) rfl dJ6_bitCount_0f7a4_34 rfl ?_
  refine yr_iload_n (pq := 36) rfl dJ6_bitCount_0f7a4_35 rfl ?_
  refine yr_bipush (pq := 38) rfl dJ6_bitCount_0f7a4_36 rfl ?_
  refine yr_iushr (pq := 39) rfl dJ6_bitCount_0f7a4_38 ?_
  refine yr_iadd (pq := 40) rfl dJ6_bitCount_0f7a4_39 ?_
  refine yr_istore0 (pq := 41) rfl dJ6_bitCount_0f7a4_40 ?_
  refine yr_iload_n (pq := 42) rfl dJ6_bitCount_0f7a4_41 rfl ?_
  refine yr_iload_n (pq := 43) rfl dJ6_bitCount_0f7a4_42 rfl ?_
  refine yr_bipush (pq := 45) rfl dJ6_bitCount_0f7a4_43 rfl ?_
  refine yr_iushr (pq := 46) rfl dJ6_bitCount_0f7a4_45 ?_
  refine yr_iadd (pq := 47) rfl dJ6_bitCount_0f7a4_46 ?_
  refine yr_istore0 (pq := 48) rfl dJ6_bitCount_0f7a4_47 ?_
  refine yr_iload_n (pq := 49) rfl dJ6_bitCount_0f7a4_48 rfl ?_
  refine yr_bipush (pq := 51) rfl dJ6_bitCount_0f7a4_49 rfl ?_
  refine yr_iand (pq := 52) rfl dJ6_bitCount_0f7a4_51 ?_
  have e := bcF_ok ⟨n, hn⟩
  unfold bcF at e
  simp only at e
  rw [e]
  exact yr_iret dJ6_bitCount_0f7a4_52 rfl (k)
theorem c_draw (k : ∀ h', (∀ a, a ≠ 1 → h' a = h a) → (∀ j, j ≠ 3 → h' 1 j = h 1 j) → h' 1 3 = h 1 3 * 1103515245 + 12345 → K (drwF (h 1 3)) h') : ClI (d + 1) mX2_draw [vr 1] h K := by
  refine cl_in (al := [vr 1]) rfl (Nat.le_of_ble_eq_true rfl) (by simp [vi_cat, vr_cat, vs_cat]) ?_
  refine yr_aload_n (pq := 1) rfl dX2_draw_0 rfl ?_
  refine yr_aload_n (pq := 2) rfl dX2_draw_1 rfl ?_
  refine yr_getI (pq := 5) 3 rfl dX2_draw_2 kF_2_29 (by decide) rfl (by decide) ?_
  refine yr_ldc (pq := 7) rfl dX2_draw_5 kN_2_46 ?_
  refine yr_imul (pq := 8) rfl dX2_draw_7 ?_
  refine yr_sipush (pq := 11) rfl dX2_draw_8 rfl ?_
  refine yr_iadd (pq := 12) rfl dX2_draw_11 ?_
  refine yr_putI (pq := 15) 3 rfl dX2_draw_12 kF_2_29 (by decide) rfl rfl (by decide) ?_
  refine yr_aload_n (pq := 16) rfl dX2_draw_15 rfl ?_
  refine yr_getI (pq := 19) 3 rfl dX2_draw_16 kF_2_29 (by decide) rfl (by decide) ?_
  refine yr_bipush (pq := 21) rfl dX2_draw_19 rfl ?_
  refine yr_iushr (pq := 22) rfl dX2_draw_21 ?_
  rw [up_s]
  refine yr_iret dX2_draw_22 rfl (k _ (fun a ha => up_ne ha) (fun j hj => up_k hj) (up_s _ _ _ _))
theorem c_isInSet {m n : Nat} (hm : m < 65536) (hn : n < 32) (k1 : m.testBit n = true → K 1 h) (k0 : ¬ m.testBit n = true → K 0 h) : ClI (d + 1) mX7_isInSet [vi (m : Int), vi (n : Int)] h K := by
  have e := bit_u (a := m) (c := n) (by omega) hn
  refine cl_in (al := [vi (m : Int), vi (n : Int)]) rfl (Nat.le_of_ble_eq_true rfl) (by simp [vi_cat, vr_cat, vs_cat]) ?_
  refine yr_iload_n (pq := 1) rfl dX7_isInSet_0 rfl ?_
  refine yr_iload_n (pq := 2) rfl dX7_isInSet_1 rfl ?_
  refine yr_iushr (pq := 3) rfl dX7_isInSet_2 ?_
  refine yr_iconst (pq := 4) rfl dX7_isInSet_3 ?_
  refine yr_iand (pq := 5) rfl dX7_isInSet_4 ?_
  rw [e]
  unfold btN
  split
  · rename_i q
    refine yr_if_eq (pq := 8) (t := 12) rfl dX7_isInSet_5 rfl (by omega) (fun q9 => absurd q9 (by decide)) (fun _ => ?_)
    refine yr_iconst (pq := 9) rfl dX7_isInSet_8 ?_
    refine yr_goto (t := 13) dX7_isInSet_9 rfl ?_
    exact yr_zret dX7_isInSet_13 rfl (by first | decide | omega) (k1 q)
  · rename_i q
    refine yr_if_eq (pq := 8) (t := 12) rfl dX7_isInSet_5 rfl (by omega) (fun _ => ?_) (fun q9 => absurd (rfl) q9)
    refine yr_iconst (pq := 13) rfl dX7_isInSet_12 ?_
    exact yr_zret dX7_isInSet_13 rfl (by first | decide | omega) (k0 q)
end CC
