/-! the seeker is told the town, and seeks -/
theorem okS_P {N : Int → Int} (hS : okS N) : okP N := by
  have ht := okS_tot hS
  obtain ⟨a1, a2, a3, a4, a5, a6⟩ := hS
  exact ⟨a5.1, a5.2.1, a5.2.2.1, a5.2.2.2.1, ht.2⟩
theorem ND_0 {N : Int → Int} (hP : okP N) : ND N N 0 := by
  obtain ⟨p1, p2, p3, p4, p5⟩ := hP
  unfold ND mltP
  omega
theorem pc_one : ∀ c : Fin 8, 2 ^ c.val < 256 ∧ pcF (2 ^ c.val) = 1 := by decide +kernel
theorem cnF_8 : cnF 8 ≤ 1000000000 := by decide
section CP
variable {d : Nat} {h : hT} {K : Int → hT → Prop} {KV : hT → Prop} {N N0 : Int → Int} {g o due b w : Int}
theorem c_seek {p : Int → Int} (hO : okT N) (hS : okS N) (hK : SK h N w) (f4 : h 69 4 = due) (f5 : h 69 5 = N 49) (f6 : h 69 6 = totF N) (f7 : h 69 7 = flF N) (f8 : h 69 8 = N 51) (hg : -1 ≤ g ∧ g ≤ 7) (hb : N 50 = b) (hb2 : b ≤ 759)
    (kk : ∀ h', (∀ a, a ≠ 69 → a ≠ 74 → a ≠ 75 → h' a = h a) → (∀ j, j < 9 → h' 69 j = h 69 j) → AC g h' (dfsF g w (N 49) due b 8 N (2 ^ (N 49).toNat) 0 p (0, -1, 0, 999, p)) → KV h') : ClV (d + 8 + 5) mX3_seek [vr 69, vi g, vi b] h KV := by
  have hS0 := hS
  obtain ⟨a1, a2, a3, a4, a5, a6⟩ := hS0
  have hP := okS_P hS
  obtain ⟨c, ec⟩ := Int.eq_ofNat_of_zero_le a2.1
  have hpc := pc_one ⟨c, by omega⟩
  simp only at hpc
  have el : il 1 (N 49) = ((2 ^ c : Nat) : Int) := by rw [ec, il_nat (by omega)]
  have et : (N 49).toNat = c := by omega
  rw [et] at kk
  refine cl_in (al := [vr 69, vi g, vi b]) rfl (Nat.le_of_ble_eq_true rfl) (by simp [vi_cat, vr_cat, vs_cat]) ?_
  refine yr_aload_n (pq := 1) rfl dX3_seek_0 rfl ?_
  refine yr_iload_n (pq := 2) rfl dX3_seek_1 rfl ?_
  refine yr_putI (pq := 5) 9 rfl dX3_seek_2 kF_3_40 (by decide) rfl rfl (by decide) ?_
  refine yr_aload_n (pq := 6) rfl dX3_seek_5 rfl ?_
  refine yr_iload_n (pq := 7) rfl dX3_seek_6 rfl ?_
  refine yr_putI (pq := 10) 10 rfl dX3_seek_7 kF_3_43 (by decide) rfl rfl (by decide) ?_
  refine yr_aload_n (pq := 11) rfl dX3_seek_10 rfl ?_
  refine yr_iconst (pq := 12) rfl dX3_seek_11 ?_
  refine yr_putI (pq := 15) 12 rfl dX3_seek_12 kF_3_49 (by decide) rfl rfl (by decide) ?_
  refine yr_aload_n (pq := 16) rfl dX3_seek_15 rfl ?_
  refine yr_iconst (pq := 17) rfl dX3_seek_16 ?_
  refine yr_putI (pq := 20) 13 rfl dX3_seek_17 kF_3_52 (by decide) rfl rfl (by decide) ?_
  refine yr_aload_n (pq := 21) rfl dX3_seek_20 rfl ?_
  refine yr_iconst (pq := 22) rfl dX3_seek_21 ?_
  refine yr_putI (pq := 25) 14 rfl dX3_seek_22 kF_3_55 (by decide) rfl rfl (by decide) ?_
  refine yr_aload_n (pq := 26) rfl dX3_seek_25 rfl ?_
  refine yr_iconst (pq := 27) rfl dX3_seek_26 ?_
  refine yr_putI (pq := 30) 16 rfl dX3_seek_27 kF_3_61 (by decide) rfl rfl (by decide) ?_
  refine yr_aload_n (pq := 31) rfl dX3_seek_30 rfl ?_
  refine yr_aload_n (pq := 32) rfl dX3_seek_31 rfl ?_
  refine yr_getI (pq := 35) 5 rfl dX3_seek_32 kF_3_28 (by decide) rfl (by decide) ?_
  refine yr_iload_n (pq := 36) rfl dX3_seek_35 rfl ?_
  refine yr_iconst (pq := 37) rfl dX3_seek_36 ?_
  refine yr_aload_n (pq := 38) rfl dX3_seek_37 rfl ?_
  refine yr_getI (pq := 41) 8 rfl dX3_seek_38 kF_3_37 (by decide) rfl (by decide) ?_
  refine yr_iconst (pq := 42) rfl dX3_seek_41 ?_
  refine yr_aload_n (pq := 43) rfl dX3_seek_42 rfl ?_
  refine yr_getI (pq := 46) 5 rfl dX3_seek_43 kF_3_28 (by decide) rfl (by decide) ?_
  refine yr_ishl (pq := 47) rfl dX3_seek_46 ?_
  refine yr_iconst (pq := 48) rfl dX3_seek_47 ?_
  simp (disch := decide) only [up_k]
  rw [f5, f8, el]
  refine yr_vV6 (pq := 51) rfl dX3_seek_48 kM_3_116 (by decide) (by decide) cat0 (c_walk (N0 := N) (w := w) (o := N 49) (due := due) hP hg (by omega) (by omega) 8 d _ N (2 ^ c) 0 0 _ _ _ p (0, -1, 0, 999, p) _ rfl hb rfl (SK_row hK (fun a q1 q2 => ?_) (fun _ _ => rfl)) hO hS (ND_0 hP) (by decide) (by decide) (by omega) (by omega) hpc.1 (by omega) (by decide) (by decide) ?_ ?_ ?_ (fun j j0 j1 => by omega) (fun f x1 x2 => ?_))
  · rw [up_ne (by omega), up_ne (by omega), up_ne (by omega), up_ne (by omega), up_ne (by omega), up_ne (by omega)]
  · refine ⟨?_, ?_, ?_, ?_, ?_, ?_⟩
    · simp (disch := decide) only [up_k]; exact f4
    · simp (disch := decide) only [up_k]; exact f5
    · simp (disch := decide) only [up_k]; exact f6
    · simp (disch := decide) only [up_k]; exact f7
    · simp (disch := decide) only [up_k, up_s]
    · simp (disch := decide) only [up_k, up_s]
  · refine ⟨?_, ?_, ?_, ?_, fun _ => ⟨fun q => absurd rfl q, fun _ => rfl⟩, fun j j0 j1 => ?_, ?_, Int.le_refl 0⟩
    · simp (disch := decide) only [up_k, up_s]
    · simp (disch := decide) only [up_k, up_s]
    · rw [up_s]
    · simp (disch := decide) only [up_k, up_s]
      decide
    · have j2 : j < 0 := j1
      omega
    · show (-1 ≤ (-1 : Int) ∧ (-1 : Int) ≤ 99999) ∧ ((0 : Int) ≤ 0 ∧ (0 : Int) ≤ 7) ∧ ((0 : Int) ≤ 999 ∧ (999 : Int) ≤ 999)
      decide
  · have := cnF_8
    show 0 + cnF 8 ≤ 1000000000
    omega
  · refine yr_vret dX3_seek_51 rfl (kk f (fun a q1 q2 q3 => ?_) (fun j q => ?_) x2)
    · rw [x1.1 a q1 q2 q3, up_ne q1, up_ne q1, up_ne q1, up_ne q1, up_ne q1, up_ne q1]
    · rw [x1.2.1 j (by omega) (by omega) (by omega) (by omega), up_k (by omega), up_k (by omega), up_k (by omega), up_k (by omega), up_k (by omega), up_k (by omega)]
end CP
