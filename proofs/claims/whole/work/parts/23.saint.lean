/-! the class's saint -/
def okS (N : Int → Int) : Prop := (0 ≤ N 44 ∧ N 44 ≤ 1) ∧ (0 ≤ N 49 ∧ N 49 ≤ 7) ∧ (0 ≤ N 50 ∧ N 50 ≤ 2000) ∧ (0 ≤ N 51 ∧ N 51 ≤ 15) ∧ (0 ≤ N 45 ∧ 0 ≤ N 46 ∧ 0 ≤ N 47 ∧ 0 ≤ N 48 ∧ max (N 45) 9999 + max (N 46) 9999 + max (N 47) 9999 + max (N 48) 9999 ≤ 99999) ∧ ∀ s, 0 ≤ s → s < 10 → -1 ≤ N (10 + s) ∧ N (10 + s) < N 8
/-- a scene of the class: town T, saint a, her grains g, spots q, the scene S, as the row N tells -/
def RS (h : hT) (T a g q S : Int) (N : Int → Int) : Prop := RT h T N ∧ (h g 0 = N 45 ∧ h g 1 = N 46 ∧ h g 2 = N 47 ∧ h g 3 = N 48) ∧ h a 1 = N 44 ∧ h a 2 = N 49 ∧ h a 3 = N 50 ∧ h a 4 = N 51 ∧ h a 5 = N 52 ∧ (∀ s, 0 ≤ s → s < 10 → h q s = N (10 + s)) ∧ h S 3 = N 9
abbrev RS1 (h : hT) (N : Int → Int) : Prop := RS h 2 22 23 24 1 N
abbrev RS2 (h : hT) (N : Int → Int) : Prop := RS h 26 46 47 48 25 N
def totF (N : Int → Int) : Int := N 45 + N 46 + N 47 + N 48
/-- a part that is left when L has melted, of which A goes off the parts ahead -/
def mltP (L A p : Int) : Int := max 0 (p - max 0 (L - A))
section CA
variable {d : Nat} {h : hT} {K : Int → hT → Prop} {KV : hT → Prop} {N : Int → Int}
theorem c_sumOf {a : Int} {L : Nat} (hA : am_kd a.toNat = (0, L)) (h0 : 0 ≤ a) (hL : L ≤ 1200) (k : K (sumA (h a) 0 0 L) h) : ClI (d + 1) mX7_sumOf [vr a] h K := by
  have key : ∀ (n : Nat) (i acc z : Int), 0 ≤ i → i + n = L → K (sumA (h a) acc i n) h → ∀ w, Yr d mX7_sumOf 10 [vr a, vi acc, vr a, vi (L : Int), vi i, w] [] h (rI K) := by
    intro n
    induction n with
    | zero =>
      intro i acc z hi hn kk w
      refine yr_iload (pq := 12) rfl dX7_sumOf_10 rfl ?_
      refine yr_iload_n (pq := 13) rfl dX7_sumOf_12 rfl ?_
      refine yr_ic_ge (pq := 16) (t := 33) rfl dX7_sumOf_13 rfl (by omega) (by omega) (fun _ => ?_) (fun q9 => absurd (by omega) q9)
      refine yr_iload_n (pq := 34) rfl dX7_sumOf_33 rfl ?_
      exact yr_iret dX7_sumOf_34 rfl (kk)
    | succ n ih =>
      intro i acc z hi hn kk w
      refine yr_iload (pq := 12) rfl dX7_sumOf_10 rfl ?_
      refine yr_iload_n (pq := 13) rfl dX7_sumOf_12 rfl ?_
      refine yr_ic_ge (pq := 16) (t := 33) rfl dX7_sumOf_13 rfl (by omega) (by omega) (fun q9 => absurd q9 (by omega)) (fun _ => ?_)
      refine yr_aload_n (pq := 17) rfl dX7_sumOf_16 rfl ?_
      refine yr_iload (pq := 19) rfl dX7_sumOf_17 rfl ?_
      refine yr_iald (pq := 20) rfl dX7_sumOf_19 hA h0 (by omega) ?_
      refine yr_istore5 (pq := 22) rfl dX7_sumOf_20 ?_
      refine yr_iload_n (pq := 23) rfl dX7_sumOf_22 rfl ?_
      refine yr_iload (pq := 25) rfl dX7_sumOf_23 rfl ?_
      refine yr_iadd (pq := 26) rfl dX7_sumOf_25 ?_
      refine yr_istore1 (pq := 27) rfl dX7_sumOf_26 ?_
      refine yr_iinc4 (pq := 30) rfl dX7_sumOf_27 ?_
      refine yr_goto (t := 10) dX7_sumOf_30 rfl ?_
      exact ih _ _ z (by omega) (by omega) kk _
  refine cl_in (al := [vr a, .null, .null, .null, .null, .null]) rfl (Nat.le_of_ble_eq_true rfl) (by simp [vi_cat, vr_cat, vs_cat]) ?_
  refine yr_iconst (pq := 1) rfl dX7_sumOf_0 ?_
  refine yr_istore1 (pq := 2) rfl dX7_sumOf_1 ?_
  refine yr_aload_n (pq := 3) rfl dX7_sumOf_2 rfl ?_
  refine yr_astore2 (pq := 4) rfl dX7_sumOf_3 ?_
  refine yr_aload_n (pq := 5) rfl dX7_sumOf_4 rfl ?_
  refine yr_alen (pq := 6) rfl dX7_sumOf_5 hA (by decide) ?_
  refine yr_istore3 (pq := 7) rfl dX7_sumOf_6 ?_
  refine yr_iconst (pq := 8) rfl dX7_sumOf_7 ?_
  refine yr_istore4 (pq := 10) rfl dX7_sumOf_8 ?_
  exact key L 0 0 0 (by omega) (by omega) k _
theorem c_total (hR : h 23 0 = N 45 ∧ h 23 1 = N 46 ∧ h 23 2 = N 47 ∧ h 23 3 = N 48) (k : K (totF N) h) : ClI (d + 2) mX1_total [vr 22] h K := by
  refine cl_in (al := [vr 22]) rfl (Nat.le_of_ble_eq_true rfl) (by simp [vi_cat, vr_cat, vs_cat]) ?_
  refine yr_aload_n (pq := 1) rfl dX1_total_0 rfl ?_
  refine yr_getR (pq := 4) (b := 23) 0 rfl dX1_total_1 kF_1_9 (by decide) rfl ?_
  refine yr_sI1 (pq := 7) rfl dX1_total_4 kM_1_37 (by decide) cat0 (c_sumOf (L := 4) rfl (by decide) (by decide) ?_)
  have e : sumA (h 23) 0 0 4 = totF N := by
    simp only [sumA, totF, ← hR.1, ← hR.2.1, ← hR.2.2.1, ← hR.2.2.2]
    simp
  rw [e]
  exact yr_iret dX1_total_7 rfl (k)
theorem c_faceLasts (hR : h 23 0 = N 45 ∧ h 23 1 = N 46 ∧ h 23 2 = N 47 ∧ h 23 3 = N 48) (h2 : -2147483648 ≤ N 47 ∧ N 47 ≤ 2147483647) (k : K (if N 47 = 0 then 0 else N 45 + N 46 + N 47) h) : ClI (d + 1) mX1_faceLasts [vr 22] h K := by
  refine cl_in (al := [vr 22]) rfl (Nat.le_of_ble_eq_true rfl) (by simp [vi_cat, vr_cat, vs_cat]) ?_
  refine yr_aload_n (pq := 1) rfl dX1_faceLasts_0 rfl ?_
  refine yr_getR (pq := 4) (b := 23) 0 rfl dX1_faceLasts_1 kF_1_9 (by decide) rfl ?_
  refine yr_iconst (pq := 5) rfl dX1_faceLasts_4 ?_
  refine yr_iald (pq := 6) rfl dX1_faceLasts_5 rfl (by decide) (by omega) ?_
  rw [hR.2.2.1]
  refine yr_if_ne (pq := 9) (t := 13) rfl dX1_faceLasts_6 rfl (by omega) (fun q => ?_) (fun q => ?_)
  · rw [if_neg q] at k
    refine yr_aload_n (pq := 14) rfl dX1_faceLasts_13 rfl ?_
    refine yr_getR (pq := 17) (b := 23) 0 rfl dX1_faceLasts_14 kF_1_9 (by decide) rfl ?_
    refine yr_iconst (pq := 18) rfl dX1_faceLasts_17 ?_
    refine yr_iald (pq := 19) rfl dX1_faceLasts_18 rfl (by decide) (by omega) ?_
    refine yr_aload_n (pq := 20) rfl dX1_faceLasts_19 rfl ?_
    refine yr_getR (pq := 23) (b := 23) 0 rfl dX1_faceLasts_20 kF_1_9 (by decide) rfl ?_
    refine yr_iconst (pq := 24) rfl dX1_faceLasts_23 ?_
    refine yr_iald (pq := 25) rfl dX1_faceLasts_24 rfl (by decide) (by omega) ?_
    refine yr_iadd (pq := 26) rfl dX1_faceLasts_25 ?_
    refine yr_aload_n (pq := 27) rfl dX1_faceLasts_26 rfl ?_
    refine yr_getR (pq := 30) (b := 23) 0 rfl dX1_faceLasts_27 kF_1_9 (by decide) rfl ?_
    refine yr_iconst (pq := 31) rfl dX1_faceLasts_30 ?_
    refine yr_iald (pq := 32) rfl dX1_faceLasts_31 rfl (by decide) (by omega) ?_
    refine yr_iadd (pq := 33) rfl dX1_faceLasts_32 ?_
    rw [hR.1, hR.2.1, hR.2.2.1]
    exact yr_iret dX1_faceLasts_33 rfl (k)
  · rw [if_pos q] at k
    refine yr_iconst (pq := 10) rfl dX1_faceLasts_9 ?_
    refine yr_goto (t := 33) dX1_faceLasts_10 rfl ?_
    exact yr_iret dX1_faceLasts_33 rfl (k)
theorem c_melt {L p0 p1 p2 p3 : Int} (hL : 0 ≤ L ∧ L ≤ 1000000) (e0 : h 23 0 = p0) (e1 : h 23 1 = p1) (e2 : h 23 2 = p2) (e3 : h 23 3 = p3) (b0 : 0 ≤ p0 ∧ p0 ≤ 100000) (b1 : 0 ≤ p1 ∧ p1 ≤ 100000) (b2 : 0 ≤ p2 ∧ p2 ≤ 100000) (b3 : 0 ≤ p3 ∧ p3 ≤ 100000)
    (k : ∀ h', (∀ a, a ≠ 22 → a ≠ 23 → h' a = h a) → h' 23 0 = mltP L 0 p0 → h' 23 1 = mltP L p0 p1 → h' 23 2 = mltP L (p0 + p1) p2 → h' 23 3 = mltP L (p0 + p1 + p2) p3 → (∀ j, j ≠ 5 → h' 22 j = h 22 j) → h' 22 5 = h 22 5 + min L (p0 + p1 + p2 + p3) → K (min L (p0 + p1 + p2 + p3)) h') : ClI (d + 2) mX1_melt [vr 22, vi L] h K := by
  refine cl_in (al := [vr 22, vi L, .null, .null, .null]) rfl (Nat.le_of_ble_eq_true rfl) (by simp [vi_cat, vr_cat, vs_cat]) ?_
  refine yr_iload_n (pq := 1) rfl dX1_melt_0 rfl ?_
  refine yr_istore2 (pq := 2) rfl dX1_melt_1 ?_
  refine yr_iconst (pq := 3) rfl dX1_melt_2 ?_
  refine yr_istore3 (pq := 4) rfl dX1_melt_3 ?_
  refine yr_iload_n (pq := 5) rfl dX1_melt_4 rfl ?_
  refine yr_iconst (pq := 6) rfl dX1_melt_5 ?_
  refine yr_ic_ge (pq := 9) (t := 43) rfl dX1_melt_6 rfl (by decide) (by decide) (fun q9 => absurd q9 (by decide)) (fun _ => ?_)
  refine yr_iload_n (pq := 10) rfl dX1_melt_9 rfl ?_
  refine yr_aload_n (pq := 11) rfl dX1_melt_10 rfl ?_
  refine yr_getR (pq := 14) (b := 23) 0 rfl dX1_melt_11 kF_1_9 (by decide) rfl ?_
  refine yr_iload_n (pq := 15) rfl dX1_melt_14 rfl ?_
  refine yr_iald (pq := 16) rfl dX1_melt_15 rfl (by decide) (by omega) ?_
  rw [e0]
  refine yr_sI2 (pq := 19) rfl dX1_melt_16 kM_1_41 (by decide) cat0 (j_min (by omega) (by omega) ?_)
  refine yr_istore4 (pq := 21) rfl dX1_melt_19 ?_
  refine yr_aload_n (pq := 22) rfl dX1_melt_21 rfl ?_
  refine yr_getR (pq := 25) (b := 23) 0 rfl dX1_melt_22 kF_1_9 (by decide) rfl ?_
  refine yr_iload_n (pq := 26) rfl dX1_melt_25 rfl ?_
  refine yr_dup2 (pq := 27) rfl dX1_melt_26 rfl rfl ?_
  refine yr_iald (pq := 28) rfl dX1_melt_27 rfl (by decide) (by omega) ?_
  refine yr_iload (pq := 30) rfl dX1_melt_28 rfl ?_
  refine yr_isub (pq := 31) rfl dX1_melt_30 ?_
  refine yr_iast (pq := 32) rfl dX1_melt_31 rfl (by decide) (by omega) ?_
  refine yr_iload_n (pq := 33) rfl dX1_melt_32 rfl ?_
  refine yr_iload (pq := 35) rfl dX1_melt_33 rfl ?_
  refine yr_isub (pq := 36) rfl dX1_melt_35 ?_
  refine yr_istore2 (pq := 37) rfl dX1_melt_36 ?_
  refine yr_iinc3 (pq := 40) rfl dX1_melt_37 ?_
  refine yr_goto (t := 4) dX1_melt_40 rfl ?_
  rw [e0]
  refine yr_iload_n (pq := 5) rfl dX1_melt_4 rfl ?_
  refine yr_iconst (pq := 6) rfl dX1_melt_5 ?_
  refine yr_ic_ge (pq := 9) (t := 43) rfl dX1_melt_6 rfl (by omega) (by omega) (fun q9 => absurd q9 (by omega)) (fun _ => ?_)
  refine yr_iload_n (pq := 10) rfl dX1_melt_9 rfl ?_
  refine yr_aload_n (pq := 11) rfl dX1_melt_10 rfl ?_
  refine yr_getR (pq := 14) (b := 23) 0 rfl dX1_melt_11 kF_1_9 (by decide) rfl ?_
  refine yr_iload_n (pq := 15) rfl dX1_melt_14 rfl ?_
  refine yr_iald (pq := 16) rfl dX1_melt_15 rfl (by decide) (by omega) ?_
  simp (disch := omega) only [up_o, up_k, up_s, Int.zero_add, Int.reduceAdd, e1]
  refine yr_sI2 (pq := 19) rfl dX1_melt_16 kM_1_41 (by decide) cat0 (j_min (by omega) (by omega) ?_)
  refine yr_istore4 (pq := 21) rfl dX1_melt_19 ?_
  refine yr_aload_n (pq := 22) rfl dX1_melt_21 rfl ?_
  refine yr_getR (pq := 25) (b := 23) 0 rfl dX1_melt_22 kF_1_9 (by decide) rfl ?_
  refine yr_iload_n (pq := 26) rfl dX1_melt_25 rfl ?_
  refine yr_dup2 (pq := 27) rfl dX1_melt_26 rfl rfl ?_
  refine yr_iald (pq := 28) rfl dX1_melt_27 rfl (by decide) (by omega) ?_
  refine yr_iload (pq := 30) rfl dX1_melt_28 rfl ?_
  refine yr_isub (pq := 31) rfl dX1_melt_30 ?_
  refine yr_iast (pq := 32) rfl dX1_melt_31 rfl (by decide) (by omega) ?_
  refine yr_iload_n (pq := 33) rfl dX1_melt_32 rfl ?_
  refine yr_iload (pq := 35) rfl dX1_melt_33 rfl ?_
  refine yr_isub (pq := 36) rfl dX1_melt_35 ?_
  refine yr_istore2 (pq := 37) rfl dX1_melt_36 ?_
  refine yr_iinc3 (pq := 40) rfl dX1_melt_37 ?_
  refine yr_goto (t := 4) dX1_melt_40 rfl ?_
  simp (disch := omega) only [up_o, up_k, up_s, Int.zero_add, Int.reduceAdd, e1]
  refine yr_iload_n (pq := 5) rfl dX1_melt_4 rfl ?_
  refine yr_iconst (pq := 6) rfl dX1_melt_5 ?_
  refine yr_ic_ge (pq := 9) (t := 43) rfl dX1_melt_6 rfl (by omega) (by omega) (fun q9 => absurd q9 (by omega)) (fun _ => ?_)
  refine yr_iload_n (pq := 10) rfl dX1_melt_9 rfl ?_
  refine yr_aload_n (pq := 11) rfl dX1_melt_10 rfl ?_
  refine yr_getR (pq := 14) (b := 23) 0 rfl dX1_melt_11 kF_1_9 (by decide) rfl ?_
  refine yr_iload_n (pq := 15) rfl dX1_melt_14 rfl ?_
  refine yr_iald (pq := 16) rfl dX1_melt_15 rfl (by decide) (by omega) ?_
  simp (disch := omega) only [up_o, up_k, up_s, Int.zero_add, Int.reduceAdd, e2]
  refine yr_sI2 (pq := 19) rfl dX1_melt_16 kM_1_41 (by decide) cat0 (j_min (by omega) (by omega) ?_)
  refine yr_istore4 (pq := 21) rfl dX1_melt_19 ?_
  refine yr_aload_n (pq := 22) rfl dX1_melt_21 rfl ?_
  refine yr_getR (pq := 25) (b := 23) 0 rfl dX1_melt_22 kF_1_9 (by decide) rfl ?_
  refine yr_iload_n (pq := 26) rfl dX1_melt_25 rfl ?_
  refine yr_dup2 (pq := 27) rfl dX1_melt_26 rfl rfl ?_
  refine yr_iald (pq := 28) rfl dX1_melt_27 rfl (by decide) (by omega) ?_
  refine yr_iload (pq := 30) rfl dX1_melt_28 rfl ?_
  refine yr_isub (pq := 31) rfl dX1_melt_30 ?_
  refine yr_iast (pq := 32) rfl dX1_melt_31 rfl (by decide) (by omega) ?_
  refine yr_iload_n (pq := 33) rfl dX1_melt_32 rfl ?_
  refine yr_iload (pq := 35) rfl dX1_melt_33 rfl ?_
  refine yr_isub (pq := 36) rfl dX1_melt_35 ?_
  refine yr_istore2 (pq := 37) rfl dX1_melt_36 ?_
  refine yr_iinc3 (pq := 40) rfl dX1_melt_37 ?_
  refine yr_goto (t := 4) dX1_melt_40 rfl ?_
  simp (disch := omega) only [up_o, up_k, up_s, Int.zero_add, Int.reduceAdd, e2]
  refine yr_iload_n (pq := 5) rfl dX1_melt_4 rfl ?_
  refine yr_iconst (pq := 6) rfl dX1_melt_5 ?_
  refine yr_ic_ge (pq := 9) (t := 43) rfl dX1_melt_6 rfl (by omega) (by omega) (fun q9 => absurd q9 (by omega)) (fun _ => ?_)
  refine yr_iload_n (pq := 10) rfl dX1_melt_9 rfl ?_
  refine yr_aload_n (pq := 11) rfl dX1_melt_10 rfl ?_
  refine yr_getR (pq := 14) (b := 23) 0 rfl dX1_melt_11 kF_1_9 (by decide) rfl ?_
  refine yr_iload_n (pq := 15) rfl dX1_melt_14 rfl ?_
  refine yr_iald (pq := 16) rfl dX1_melt_15 rfl (by decide) (by omega) ?_
  simp (disch := omega) only [up_o, up_k, up_s, Int.zero_add, Int.reduceAdd, e3]
  refine yr_sI2 (pq := 19) rfl dX1_melt_16 kM_1_41 (by decide) cat0 (j_min (by omega) (by omega) ?_)
  refine yr_istore4 (pq := 21) rfl dX1_melt_19 ?_
  refine yr_aload_n (pq := 22) rfl dX1_melt_21 rfl ?_
  refine yr_getR (pq := 25) (b := 23) 0 rfl dX1_melt_22 kF_1_9 (by decide) rfl ?_
  refine yr_iload_n (pq := 26) rfl dX1_melt_25 rfl ?_
  refine yr_dup2 (pq := 27) rfl dX1_melt_26 rfl rfl ?_
  refine yr_iald (pq := 28) rfl dX1_melt_27 rfl (by decide) (by omega) ?_
  refine yr_iload (pq := 30) rfl dX1_melt_28 rfl ?_
  refine yr_isub (pq := 31) rfl dX1_melt_30 ?_
  refine yr_iast (pq := 32) rfl dX1_melt_31 rfl (by decide) (by omega) ?_
  refine yr_iload_n (pq := 33) rfl dX1_melt_32 rfl ?_
  refine yr_iload (pq := 35) rfl dX1_melt_33 rfl ?_
  refine yr_isub (pq := 36) rfl dX1_melt_35 ?_
  refine yr_istore2 (pq := 37) rfl dX1_melt_36 ?_
  refine yr_iinc3 (pq := 40) rfl dX1_melt_37 ?_
  refine yr_goto (t := 4) dX1_melt_40 rfl ?_
  simp (disch := omega) only [up_o, up_k, up_s, Int.zero_add, Int.reduceAdd, e3]
  refine yr_iload_n (pq := 5) rfl dX1_melt_4 rfl ?_
  refine yr_iconst (pq := 6) rfl dX1_melt_5 ?_
  refine yr_ic_ge (pq := 9) (t := 43) rfl dX1_melt_6 rfl (by omega) (by omega) (fun _ => ?_) (fun q9 => absurd (by omega) q9)
  refine yr_aload_n (pq := 44) rfl dX1_melt_43 rfl ?_
  refine yr_dup (pq := 45) rfl dX1_melt_44 rfl ?_
  refine yr_getI (pq := 48) 5 rfl dX1_melt_45 kF_1_28 (by decide) rfl (by decide) ?_
  refine yr_iload_n (pq := 49) rfl dX1_melt_48 rfl ?_
  refine yr_iload_n (pq := 50) rfl dX1_melt_49 rfl ?_
  refine yr_isub (pq := 51) rfl dX1_melt_50 ?_
  refine yr_iadd (pq := 52) rfl dX1_melt_51 ?_
  refine yr_putI (pq := 55) 5 rfl dX1_melt_52 kF_1_28 (by decide) rfl rfl (by decide) ?_
  refine yr_iload_n (pq := 56) rfl dX1_melt_55 rfl ?_
  refine yr_iload_n (pq := 57) rfl dX1_melt_56 rfl ?_
  refine yr_isub (pq := 58) rfl dX1_melt_57 ?_
  have ez : L - (L - min L p0 - min (L - min L p0) p1 - min (L - min L p0 - min (L - min L p0) p1) p2 - min (L - min L p0 - min (L - min L p0) p1 - min (L - min L p0 - min (L - min L p0) p1) p2) p3) = min L (p0 + p1 + p2 + p3) := by omega
  rw [ez]
  refine yr_iret dX1_melt_58 rfl (k _ (fun a ha hb => ?_) ?_ ?_ ?_ ?_ (fun j hj => ?_) ?_)
  · funext j
    simp [up, ha, hb]
  · simp (disch := omega) only [up_o, up_k, up_s]
    unfold mltP; omega
  · simp (disch := omega) only [up_o, up_k, up_s]
    unfold mltP; omega
  · simp (disch := omega) only [up_o, up_k, up_s]
    unfold mltP; omega
  · simp (disch := omega) only [up_o, up_k, up_s]
    unfold mltP; omega
  · simp [up, hj]
  · simp (disch := omega) only [up_o, up_k, up_s]
theorem c_beginDay (k : ∀ h', (∀ a, a ≠ 22 → h' a = h a) → h' 22 1 = h 22 1 → h' 22 2 = 0 → h' 22 3 = 0 → h' 22 4 = 0 → h' 22 5 = h 22 5 → KV h') : ClV (d + 1) mX1_beginDay [vr 22] h KV := by
  refine cl_in (al := [vr 22]) rfl (Nat.le_of_ble_eq_true rfl) (by simp [vi_cat, vr_cat, vs_cat]) ?_
  refine yr_aload_n (pq := 1) rfl dX1_beginDay_0 rfl ?_
  refine yr_iconst (pq := 2) rfl dX1_beginDay_1 ?_
  refine yr_putI (pq := 5) 3 rfl dX1_beginDay_2 kF_1_22 (by decide) rfl rfl (by decide) ?_
  refine yr_aload_n (pq := 6) rfl dX1_beginDay_5 rfl ?_
  refine yr_iconst (pq := 7) rfl dX1_beginDay_6 ?_
  refine yr_putI (pq := 10) 4 rfl dX1_beginDay_7 kF_1_25 (by decide) rfl rfl (by decide) ?_
  refine yr_aload_n (pq := 11) rfl dX1_beginDay_10 rfl ?_
  refine yr_iconst (pq := 12) rfl dX1_beginDay_11 ?_
  refine yr_putI (pq := 15) 2 rfl dX1_beginDay_12 kF_1_19 (by decide) rfl rfl (by decide) ?_
  refine yr_vret dX1_beginDay_15 rfl (k _ (fun a ha => ?_) ?_ ?_ ?_ ?_ ?_)
  · funext j
    simp [up, ha]
  · simp [up]
  · simp [up]
  · simp [up]
  · simp [up]
  · simp [up]
theorem c_remake (hR : h 23 0 = N 45 ∧ h 23 1 = N 46 ∧ h 23 2 = N 47 ∧ h 23 3 = N 48) (hb : 0 ≤ totF N ∧ totF N ≤ 1000000) (k : ∀ h', (∀ a, a ≠ 23 → h' a = h a) → h' 23 0 = totF N / 10 → h' 23 1 = totF N * 2 / 10 → h' 23 2 = totF N * 2 / 10 → h' 23 3 = totF N - totF N / 10 - totF N * 2 / 10 - totF N * 2 / 10 → KV h') : ClV (d + 3) mX1_remake [vr 22] h KV := by
  refine cl_in (al := [vr 22, .null]) rfl (Nat.le_of_ble_eq_true rfl) (by simp [vi_cat, vr_cat, vs_cat]) ?_
  refine yr_aload_n (pq := 1) rfl dX1_remake_0 rfl ?_
  refine yr_vI0 (pq := 4) rfl dX1_remake_1 kM_1_47 (by decide) (by decide) cat0 (c_total hR ?_)
  refine yr_istore1 (pq := 5) rfl dX1_remake_4 ?_
  refine yr_aload_n (pq := 6) rfl dX1_remake_5 rfl ?_
  refine yr_getR (pq := 9) (b := 23) 0 rfl dX1_remake_6 kF_1_9 (by decide) rfl ?_
  refine yr_iconst (pq := 10) rfl dX1_remake_9 ?_
  refine yr_iload_n (pq := 11) rfl dX1_remake_10 rfl ?_
  refine yr_bipush (pq := 13) rfl dX1_remake_11 rfl ?_
  refine yr_idiv (pq := 14) rfl dX1_remake_13 (by omega) (by omega) ?_
  refine yr_iast (pq := 15) rfl dX1_remake_14 rfl (by decide) (by omega) ?_
  refine yr_aload_n (pq := 16) rfl dX1_remake_15 rfl ?_
  refine yr_getR (pq := 19) (b := 23) 0 rfl dX1_remake_16 kF_1_9 (by decide) rfl ?_
  refine yr_iconst (pq := 20) rfl dX1_remake_19 ?_
  refine yr_iload_n (pq := 21) rfl dX1_remake_20 rfl ?_
  refine yr_iconst (pq := 22) rfl dX1_remake_21 ?_
  refine yr_imul (pq := 23) rfl dX1_remake_22 ?_
  refine yr_bipush (pq := 25) rfl dX1_remake_23 rfl ?_
  refine yr_idiv (pq := 26) rfl dX1_remake_25 (by omega) (by omega) ?_
  refine yr_iast (pq := 27) rfl dX1_remake_26 rfl (by decide) (by omega) ?_
  refine yr_aload_n (pq := 28) rfl dX1_remake_27 rfl ?_
  refine yr_getR (pq := 31) (b := 23) 0 rfl dX1_remake_28 kF_1_9 (by decide) rfl ?_
  refine yr_iconst (pq := 32) rfl dX1_remake_31 ?_
  refine yr_iload_n (pq := 33) rfl dX1_remake_32 rfl ?_
  refine yr_iconst (pq := 34) rfl dX1_remake_33 ?_
  refine yr_imul (pq := 35) rfl dX1_remake_34 ?_
  refine yr_bipush (pq := 37) rfl dX1_remake_35 rfl ?_
  refine yr_idiv (pq := 38) rfl dX1_remake_37 (by omega) (by omega) ?_
  refine yr_iast (pq := 39) rfl dX1_remake_38 rfl (by decide) (by omega) ?_
  refine yr_aload_n (pq := 40) rfl dX1_remake_39 rfl ?_
  refine yr_getR (pq := 43) (b := 23) 0 rfl dX1_remake_40 kF_1_9 (by decide) rfl ?_
  refine yr_iconst (pq := 44) rfl dX1_remake_43 ?_
  refine yr_iload_n (pq := 45) rfl dX1_remake_44 rfl ?_
  refine yr_aload_n (pq := 46) rfl dX1_remake_45 rfl ?_
  refine yr_getR (pq := 49) (b := 23) 0 rfl dX1_remake_46 kF_1_9 (by decide) rfl ?_
  refine yr_iconst (pq := 50) rfl dX1_remake_49 ?_
  refine yr_iald (pq := 51) rfl dX1_remake_50 rfl (by decide) (by omega) ?_
  refine yr_isub (pq := 52) rfl dX1_remake_51 ?_
  refine yr_aload_n (pq := 53) rfl dX1_remake_52 rfl ?_
  refine yr_getR (pq := 56) (b := 23) 0 rfl dX1_remake_53 kF_1_9 (by decide) rfl ?_
  refine yr_iconst (pq := 57) rfl dX1_remake_56 ?_
  refine yr_iald (pq := 58) rfl dX1_remake_57 rfl (by decide) (by omega) ?_
  refine yr_isub (pq := 59) rfl dX1_remake_58 ?_
  refine yr_aload_n (pq := 60) rfl dX1_remake_59 rfl ?_
  refine yr_getR (pq := 63) (b := 23) 0 rfl dX1_remake_60 kF_1_9 (by decide) rfl ?_
  refine yr_iconst (pq := 64) rfl dX1_remake_63 ?_
  refine yr_iald (pq := 65) rfl dX1_remake_64 rfl (by decide) (by omega) ?_
  refine yr_isub (pq := 66) rfl dX1_remake_65 ?_
  refine yr_iast (pq := 67) rfl dX1_remake_66 rfl (by decide) (by omega) ?_
  refine yr_vret dX1_remake_67 rfl (k _ (fun a ha => ?_) ?_ ?_ ?_ ?_)
  · funext j
    simp [up, ha]
  · simp [up]
  · simp [up]
  · simp [up]
  · simp [up]
end CA
