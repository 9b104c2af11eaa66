/-! the class's town -/
section CT
variable {d : Nat} {h : hT} {K : Int → hT → Prop} {T : Int} {N : Int → Int}
theorem c_has {s : Int} (hT : tw T) (hs : -2147483648 ≤ s ∧ s ≤ 2147483647) (hR : h T 1 = N 8) (h8 : 0 ≤ N 8 ∧ N 8 ≤ 14) (k1 : 0 ≤ s ∧ s < N 8 → K 1 h) (k0 : ¬ (0 ≤ s ∧ s < N 8) → K 0 h) : ClI (d + 2) mX6_has [vr T, vi s] h K := by
  refine cl_in (al := [vr T, vi s]) rfl (Nat.le_of_ble_eq_true rfl) (by simp [vi_cat, vr_cat, vs_cat]) ?_
  refine yr_iload_n (pq := 1) rfl dX6_has_0 rfl ?_
  refine yr_iconst (pq := 2) rfl dX6_has_1 ?_
  refine yr_aload_n (pq := 3) rfl dX6_has_2 rfl ?_
  refine yr_getI (pq := 6) 1 rfl dX6_has_3 kF_6_17 (by decide) rfl (tw_c hT) ?_
  refine yr_iconst (pq := 7) rfl dX6_has_6 ?_
  refine yr_isub (pq := 8) rfl dX6_has_7 ?_
  rw [hR]
  refine yr_sI3 (pq := 11) rfl dX6_has_8 kM_6_45 (by decide) cat0 (c_isIn hs (by omega) (by omega) (fun q => ?_) (fun q => ?_))
  · exact yr_zret dX6_has_11 rfl (by first | decide | omega) (k1 (by omega))
  · exact yr_zret dX6_has_11 rfl (by first | decide | omega) (k0 (by omega))
theorem c_isFull (hT : tw T) (hR : h T 1 = N 8) (h8 : 0 ≤ N 8 ∧ N 8 ≤ 14) (k1 : N 8 = 14 → K 1 h) (k0 : N 8 < 14 → K 0 h) : ClI (d + 1) mX6_isFull [vr T] h K := by
  refine cl_in (al := [vr T]) rfl (Nat.le_of_ble_eq_true rfl) (by simp [vi_cat, vr_cat, vs_cat]) ?_
  refine yr_aload_n (pq := 1) rfl dX6_isFull_0 rfl ?_
  refine yr_getI (pq := 4) 1 rfl dX6_isFull_1 kF_6_17 (by decide) rfl (tw_c hT) ?_
  refine yr_bipush (pq := 6) rfl dX6_isFull_4 rfl ?_
  rw [hR]
  refine yr_ic_lt (pq := 9) (t := 13) rfl dX6_isFull_6 rfl (by omega) (by omega) (fun q => ?_) (fun q => ?_)
  · refine yr_iconst (pq := 14) rfl dX6_isFull_13 ?_
    exact yr_zret dX6_isFull_14 rfl (by first | decide | omega) (k0 (by omega))
  · refine yr_iconst (pq := 10) rfl dX6_isFull_9 ?_
    refine yr_goto (t := 14) dX6_isFull_10 rfl ?_
    exact yr_zret dX6_isFull_14 rfl (by first | decide | omega) (k1 (by omega))
/-- the ends that a street of the class has -/
theorem rt_ends (hR : RT h T N) (hO : okT N) {s : Int} (h0 : 0 ≤ s) (h1 : s < N 8) : (0 ≤ h (T + 6 + s) 1 ∧ h (T + 6 + s) 1 ≤ 7) ∧ (0 ≤ h (T + 6 + s) 2 ∧ h (T + 6 + s) 2 ≤ 7) ∧ h (T + 6 + s) 1 ≠ h (T + 6 + s) 2 := by
  obtain ⟨-, e1, e2, -⟩ := hR.2.2.2.2 s h0 h1
  obtain ⟨-, o1, -⟩ := hO.2.2.2.2 s h0 h1
  omega
theorem rt_acr (hR : RT h T N) (hO : okT N) {s a b : Int} (h0 : 0 ≤ s) (h1 : s < N 8) (hb : 0 ≤ b) : (if a = h (T + 6 + s) 1 then h (T + 6 + s) 2 else if a = h (T + 6 + s) 2 then h (T + 6 + s) 1 else -1) = b ↔ endsP N (-1) a b s = true := by
  obtain ⟨-, e1, e2, -⟩ := hR.2.2.2.2 s h0 h1
  obtain ⟨-, o1, -⟩ := hO.2.2.2.2 s h0 h1
  unfold endsP
  rw [decide_eq_true_eq]
  split
  · omega
  · split <;> omega
theorem c_between {a b : Int} (hT : tw T) (hR : RT h T N) (hO : okT N) (ha : -2147483648 ≤ a ∧ a ≤ 2147483647) (hb : 0 ≤ b ∧ b ≤ 7) (k : K (byF N (-1) a b) h) : ClI (d + 2) mX6_between [vr T, vi a, vi b] h K := by
  have h8 := hO.1
  have key : ∀ (n : Nat) (i : Int), 0 ≤ i → i + n = N 8 → K (fsM (endsP N (-1) a b) i n) h → Yr (d + 1) mX6_between 2 [vr T, vi a, vi b, vi i] [] h (rI K) := by
    intro n
    induction n with
    | zero =>
      intro i hi hn kk
      refine yr_iload_n (pq := 3) rfl dX6_between_2 rfl ?_
      refine yr_aload_n (pq := 4) rfl dX6_between_3 rfl ?_
      refine yr_getI (pq := 7) 1 rfl dX6_between_4 kF_6_17 (by decide) rfl (tw_c hT) ?_
      rw [hR.1]
      refine yr_ic_ge (pq := 10) (t := 32) rfl dX6_between_7 rfl (by omega) (by omega) (fun _ => ?_) (fun q9 => absurd (by omega) q9)
      refine yr_iconst (pq := 33) rfl dX6_between_32 ?_
      exact yr_iret dX6_between_33 rfl (kk)
    | succ n ih =>
      intro i hi hn kk
      obtain ⟨b1, b2, -⟩ := rt_ends hR hO hi (by omega)
      have e := rt_acr hR hO hi (by omega) hb.1 (a := a)
      refine yr_iload_n (pq := 3) rfl dX6_between_2 rfl ?_
      refine yr_aload_n (pq := 4) rfl dX6_between_3 rfl ?_
      refine yr_getI (pq := 7) 1 rfl dX6_between_4 kF_6_17 (by decide) rfl (tw_c hT) ?_
      rw [hR.1]
      refine yr_ic_ge (pq := 10) (t := 32) rfl dX6_between_7 rfl (by omega) (by omega) (fun q9 => absurd q9 (by omega)) (fun _ => ?_)
      refine yr_aload_n (pq := 11) rfl dX6_between_10 rfl ?_
      refine yr_getR (pq := 14) 0 rfl dX6_between_11 kF_6_11 (tw_c hT) (fr_6_0 hT) ?_
      refine yr_iload_n (pq := 15) rfl dX6_between_14 rfl ?_
      refine yr_aald (pq := 16) rfl dX6_between_15 (tw_k1 hT) (by decide) (by omega) (st_q hT (by omega) (by omega)) ?_
      refine yr_iload_n (pq := 17) rfl dX6_between_16 rfl ?_
      refine yr_vI1 (pq := 20) rfl dX6_between_17 kM_6_68 (by decide) (st_c hT (by omega) (by omega)) cat0 (c_across (st_c hT (by omega) (by omega)) ha (by omega) (by omega) ?_)
      have hz : -1 ≤ (if a = h (T + 6 + i) 1 then h (T + 6 + i) 2 else if a = h (T + 6 + i) 2 then h (T + 6 + i) 1 else -1) ∧ (if a = h (T + 6 + i) 1 then h (T + 6 + i) 2 else if a = h (T + 6 + i) 2 then h (T + 6 + i) 1 else -1) ≤ 7 := by
        split
        · omega
        · split <;> omega
      generalize (if a = h (T + 6 + i) 1 then h (T + 6 + i) 2 else if a = h (T + 6 + i) 2 then h (T + 6 + i) 1 else -1) = z at e hz ⊢
      rw [fsM] at kk
      refine yr_iload_n (pq := 21) rfl dX6_between_20 rfl ?_
      refine yr_ic_ne (pq := 24) (t := 26) rfl dX6_between_21 rfl (by omega) (by omega) (fun q => ?_) (fun q => ?_)
      · rw [if_neg (fun q9 => q (e.mpr q9))] at kk
        refine yr_iinc3 (pq := 29) rfl dX6_between_26 ?_
        refine yr_goto (t := 2) dX6_between_29 rfl ?_
        exact ih _ (by omega) (by omega) kk
      · rw [if_pos (e.mp q)] at kk
        refine yr_iload_n (pq := 25) rfl dX6_between_24 rfl ?_
        exact yr_iret dX6_between_25 rfl (kk)
  refine cl_in (al := [vr T, vi a, vi b, .null]) rfl (Nat.le_of_ble_eq_true rfl) (by simp [vi_cat, vr_cat, vs_cat]) ?_
  refine yr_iconst (pq := 1) rfl dX6_between_0 ?_
  refine yr_istore3 (pq := 2) rfl dX6_between_1 ?_
  exact key (N 8).toNat 0 (by omega) (by omega) k
end CT
