/-! image, undo, tear -/
theorem RT_123 {h : hT} {T : Int} {N N' : Int → Int} (hR : RT h T N) (h8 : 0 ≤ N 8 ∧ N 8 ≤ 14) (e : ∀ j, 0 ≤ j → j < 123 → N' j = N j) : RT h T N' := by
  have e8 := e 8 (by omega) (by omega)
  refine ⟨by rw [e8]; exact hR.1, fun c c0 c1 => by rw [e c (by omega) (by omega)]; exact hR.2.1 c c0 c1, fun c c0 c1 => by rw [e _ (by omega) (by omega)]; exact hR.2.2.1 c c0 c1, fun c c0 c1 => by rw [e _ (by omega) (by omega)]; exact hR.2.2.2.1 c c0 c1, fun s s0 s1 => ?_⟩
  rw [e8] at s1
  rw [e _ (by omega) (by omega), e _ (by omega) (by omega), e _ (by omega) (by omega), e _ (by omega) (by omega), e _ (by omega) (by omega)]
  exact hR.2.2.2.2 s s0 s1
theorem okT_123 {N N' : Int → Int} (hO : okT N) (e : ∀ j, 0 ≤ j → j < 123 → N' j = N j) : okT N' := by
  have h8 := hO.1
  have e8 := e 8 (by omega) (by omega)
  refine ⟨by rw [e8]; exact hO.1, fun c c0 c1 => by rw [e c (by omega) (by omega)]; exact hO.2.1 c c0 c1, fun c c0 c1 => by rw [e _ (by omega) (by omega)]; exact hO.2.2.1 c c0 c1, fun c c0 c1 => by rw [e _ (by omega) (by omega)]; exact hO.2.2.2.1 c c0 c1, fun s s0 s1 => ?_⟩
  rw [e8] at s1
  rw [e _ (by omega) (by omega), e _ (by omega) (by omega), e _ (by omega) (by omega), e _ (by omega) (by omega), e _ (by omega) (by omega)]
  exact hO.2.2.2.2 s s0 s1
theorem okS_123 {N N' : Int → Int} (hS : okS N) (e : ∀ j, 0 ≤ j → j < 123 → N' j = N j) : okS N' := okS_lo hS (fun j hj => e j (by omega) (by omega))
theorem RS_123 {h : hT} {T a g q S : Int} {N N' : Int → Int} (hR : RS h T a g q S N) (h8 : 0 ≤ N 8 ∧ N 8 ≤ 14) (e : ∀ j, 0 ≤ j → j < 123 → N' j = N j) : RS h T a g q S N' := by
  obtain ⟨r0, r1, r2, r3, r4, r5, r6, r7, r8⟩ := hR
  refine ⟨RT_123 r0 h8 e, ?_, ?_, ?_, ?_, ?_, ?_, fun s s0 s1 => ?_, ?_⟩
  · rw [e 45 (by decide) (by decide), e 46 (by decide) (by decide), e 47 (by decide) (by decide), e 48 (by decide) (by decide)]; exact r1
  · rw [e 44 (by decide) (by decide)]; exact r2
  · rw [e 49 (by decide) (by decide)]; exact r3
  · rw [e 50 (by decide) (by decide)]; exact r4
  · rw [e 51 (by decide) (by decide)]; exact r5
  · rw [e 52 (by decide) (by decide)]; exact r6
  · rw [e _ (by omega) (by omega)]; exact r7 s s0 s1
  · rw [e 9 (by decide) (by decide)]; exact r8
/-- what is kept has changed in both alike -/
theorem Inv_kept {h e : hT} (hI : Inv h) (c : ∀ a, CR a → a ≠ 0 → (a < 25 ∨ 48 < a) → a ≠ 110 → e a = h a) (k1 : e 0 2 = e 108 3) (k2 : e 0 2 = 0 ∨ e 0 2 = 1) (k3 : e 0 2 = 1 → RS2 e (e 110) ∧ okT (e 110) ∧ okS (e 110) ∧ e 110 50 ≤ 999) (e5 : e 108 5 = h 108 5) (e16 : e 108 16 = h 108 16) : Inv e := by
  have key : Inv (fun a => if a = 0 ∨ (25 ≤ a ∧ a ≤ 48) ∨ a = 110 ∨ a = 108 then h a else e a) := by
    refine Inv_fr hI (fun a ha => ?_) rfl rfl rfl
    by_cases q : a = 0 ∨ (25 ≤ a ∧ a ≤ 48) ∨ a = 110 ∨ a = 108
    · simp only [if_pos q]
    · simp only [if_neg q]
      exact c a ha (by omega) (by omega) (by omega)
  have w : ∀ a : Int, ¬ (a = 0 ∨ (25 ≤ a ∧ a ≤ 48) ∨ a = 110 ∨ a = 108) → (if a = 0 ∨ (25 ≤ a ∧ a ≤ 48) ∨ a = 110 ∨ a = 108 then h a else e a) = e a := fun a ha => by
    rw [if_neg ha]
  obtain ⟨⟨j1, j2, j3⟩, -, j7, j8, j9, j10, j11⟩ := key
  refine ⟨⟨RS1_fr j1 j2 (fun a ha => (w a (by omega)).symm), j2, j3⟩, ⟨k1, k2, k3⟩, j7, j8, ⟨?_, j9.2⟩, fun s s0 s1 => shI_fr (j10 s s0 s1) s0 s1 (fun a ha => (w a (by omega)).symm), ?_⟩
  · rw [e16]; exact j9.1
  · rw [e5]; exact j11
section S20
variable {d : Nat} {h : hT} {K : Int → hT → Prop} {KV : hT → Prop} {N : Int → Int}
theorem c_snTake1 (k : ∀ h', (∀ c, c ≠ 22 → c ≠ 23 → h' c = h c) → (∀ j, 0 ≤ j → j < 4 → h' 23 j = h 47 j) → (∀ j, 1 ≤ j → j ≤ 5 → h' 22 j = h 46 j) → KV h') : ClV (d + 1) mX1_takeFrom [vr 22, vr 46] h KV := by
  refine cl_in (al := [vr 22, vr 46]) rfl (Nat.le_of_ble_eq_true rfl) (by simp [vi_cat, vr_cat, vs_cat]) ?_
  refine yr_aload_n (pq := 1) rfl dX1_takeFrom_0 rfl ?_
  refine yr_getR (pq := 4) (b := 47) 0 rfl dX1_takeFrom_1 kF_1_9 (by decide) rfl ?_
  refine yr_iconst (pq := 5) rfl dX1_takeFrom_4 ?_
  refine yr_aload_n (pq := 6) rfl dX1_takeFrom_5 rfl ?_
  refine yr_getR (pq := 9) (b := 23) 0 rfl dX1_takeFrom_6 kF_1_9 (by decide) rfl ?_
  refine yr_iconst (pq := 10) rfl dX1_takeFrom_9 ?_
  refine yr_iconst (pq := 11) rfl dX1_takeFrom_10 ?_
  refine yr_cpy (pq := 14) rfl dX1_takeFrom_11 kO_1_31 kX_1_31 rfl rfl ⟨(by decide), (by decide)⟩ (by omega) (by omega) (by omega) cat0 ?_
  refine yr_aload_n (pq := 15) rfl dX1_takeFrom_14 rfl ?_
  refine yr_aload_n (pq := 16) rfl dX1_takeFrom_15 rfl ?_
  refine yr_getI (pq := 19) 1 rfl dX1_takeFrom_16 kF_1_15 (by decide) rfl (by decide) ?_
  refine yr_putI (pq := 22) 1 rfl dX1_takeFrom_19 kF_1_15 (by decide) rfl rfl (by decide) ?_
  refine yr_aload_n (pq := 23) rfl dX1_takeFrom_22 rfl ?_
  refine yr_aload_n (pq := 24) rfl dX1_takeFrom_23 rfl ?_
  refine yr_getI (pq := 27) 2 rfl dX1_takeFrom_24 kF_1_19 (by decide) rfl (by decide) ?_
  refine yr_putI (pq := 30) 2 rfl dX1_takeFrom_27 kF_1_19 (by decide) rfl rfl (by decide) ?_
  refine yr_aload_n (pq := 31) rfl dX1_takeFrom_30 rfl ?_
  refine yr_aload_n (pq := 32) rfl dX1_takeFrom_31 rfl ?_
  refine yr_getI (pq := 35) 3 rfl dX1_takeFrom_32 kF_1_22 (by decide) rfl (by decide) ?_
  refine yr_putI (pq := 38) 3 rfl dX1_takeFrom_35 kF_1_22 (by decide) rfl rfl (by decide) ?_
  refine yr_aload_n (pq := 39) rfl dX1_takeFrom_38 rfl ?_
  refine yr_aload_n (pq := 40) rfl dX1_takeFrom_39 rfl ?_
  refine yr_getI (pq := 43) 4 rfl dX1_takeFrom_40 kF_1_25 (by decide) rfl (by decide) ?_
  refine yr_putI (pq := 46) 4 rfl dX1_takeFrom_43 kF_1_25 (by decide) rfl rfl (by decide) ?_
  refine yr_aload_n (pq := 47) rfl dX1_takeFrom_46 rfl ?_
  refine yr_aload_n (pq := 48) rfl dX1_takeFrom_47 rfl ?_
  refine yr_getI (pq := 51) 5 rfl dX1_takeFrom_48 kF_1_28 (by decide) rfl (by decide) ?_
  refine yr_putI (pq := 54) 5 rfl dX1_takeFrom_51 kF_1_28 (by decide) rfl rfl (by decide) ?_
  refine yr_vret dX1_takeFrom_54 rfl ?_
  refine k _ (fun c q1 q2 => ?_) (fun j j0 j1 => ?_) (fun j j0 j1 => ?_)
  · rw [up_ne q1, up_ne q1, up_ne q1, up_ne q1, up_ne q1, cp_o q2]
  · rw [up_ne (by decide), up_ne (by decide), up_ne (by decide), up_ne (by decide), up_ne (by decide), cp_i (by omega) (by omega), show (0 : Int) + (j - 0) = j by omega]
  · rcases (show j = 1 ∨ j = 2 ∨ j = 3 ∨ j = 4 ∨ j = 5 by omega) with rfl | rfl | rfl | rfl | rfl <;> simp (disch := omega) only [up_o, up_k, up_s] <;> rw [cp_o (by decide)]
theorem c_scTake1 (hR : RS2 h N) (hO : okT N) (k : ∀ h', (∀ c, c < 1 ∨ 24 < c → h' c = h c) → RS1 h' N → KV h') : ClV (d + 3) mX2_takeFrom [vr 1, vr 25] h KV := by
  obtain ⟨r0, r1, r2, r3, r4, r5, r6, r7, r8⟩ := hR
  refine cl_in (al := [vr 1, vr 25]) rfl (Nat.le_of_ble_eq_true rfl) (by simp [vi_cat, vr_cat, vs_cat]) ?_
  refine yr_aload_n (pq := 1) rfl dX2_takeFrom_0 rfl ?_
  refine yr_getR (pq := 4) (b := 2) 0 rfl dX2_takeFrom_1 kF_2_12 (by decide) rfl ?_
  refine yr_aload_n (pq := 5) rfl dX2_takeFrom_4 rfl ?_
  refine yr_getR (pq := 8) (b := 26) 0 rfl dX2_takeFrom_5 kF_2_12 (by decide) rfl ?_
  refine yr_vV1 (pq := 11) rfl dX2_takeFrom_8 kM_2_33 (by decide) (tw_c (by decide)) cat0 (c_twTake (T := 2) (U := 26) (N := N) (by decide) (by decide) (by decide) r0 hO (fun f f0 f1 => ?_))
  refine yr_aload_n (pq := 12) rfl dX2_takeFrom_11 rfl ?_
  refine yr_getR (pq := 15) (b := 22) 1 rfl dX2_takeFrom_12 kF_2_21 (by decide) rfl ?_
  refine yr_aload_n (pq := 16) rfl dX2_takeFrom_15 rfl ?_
  refine yr_getR (pq := 19) (b := 46) 1 rfl dX2_takeFrom_16 kF_2_21 (by decide) rfl ?_
  refine yr_vV1 (pq := 22) rfl dX2_takeFrom_19 kM_2_37 (by decide) (by decide) cat0 (c_snTake1 (fun g g0 g1 g2 => ?_))
  refine yr_aload_n (pq := 23) rfl dX2_takeFrom_22 rfl ?_
  refine yr_getR (pq := 26) (b := 48) 2 rfl dX2_takeFrom_23 kF_2_25 (by decide) rfl ?_
  refine yr_iconst (pq := 27) rfl dX2_takeFrom_26 ?_
  refine yr_aload_n (pq := 28) rfl dX2_takeFrom_27 rfl ?_
  refine yr_getR (pq := 31) (b := 24) 2 rfl dX2_takeFrom_28 kF_2_25 (by decide) rfl ?_
  refine yr_iconst (pq := 32) rfl dX2_takeFrom_31 ?_
  refine yr_bipush (pq := 34) rfl dX2_takeFrom_32 rfl ?_
  refine yr_cpy (pq := 37) rfl dX2_takeFrom_34 kO_2_40 kX_2_40 rfl rfl ⟨(by decide), (by decide)⟩ (by omega) (by omega) (by omega) cat0 ?_
  refine yr_aload_n (pq := 38) rfl dX2_takeFrom_37 rfl ?_
  refine yr_aload_n (pq := 39) rfl dX2_takeFrom_38 rfl ?_
  refine yr_getI (pq := 42) 3 rfl dX2_takeFrom_39 kF_2_29 (by decide) rfl (by decide) ?_
  refine yr_putI (pq := 45) 3 rfl dX2_takeFrom_42 kF_2_29 (by decide) rfl rfl (by decide) ?_
  refine yr_vret dX2_takeFrom_45 rfl ?_
  have w : ∀ c, c ≠ 22 → c ≠ 23 → c ≠ 1 → c ≠ 24 → (up (cp g 48 0 24 0 10) 1 3 (cp g 48 0 24 0 10 25 3)) c = f c := fun c q1 q2 q3 q4 => by rw [up_ne q3, cp_o q4, g0 c q1 q2]
  refine k _ (fun c q => ?_) ⟨RT_cong f1 hO (fun j j0 j1 j2 => w _ (by omega) (by omega) (by omega) (by omega)), ⟨?_, ?_, ?_, ?_⟩, ?_, ?_, ?_, ?_, ?_, fun s s0 s1 => ?_, ?_⟩
  · rw [w c (by omega) (by omega) (by omega) (by omega), f0 c (by omega)]
  · rw [up_ne (by decide), cp_o (by decide), g1 0 (by decide) (by decide), f0 47 (by decide)]; exact r1.1
  · rw [up_ne (by decide), cp_o (by decide), g1 1 (by decide) (by decide), f0 47 (by decide)]; exact r1.2.1
  · rw [up_ne (by decide), cp_o (by decide), g1 2 (by decide) (by decide), f0 47 (by decide)]; exact r1.2.2.1
  · rw [up_ne (by decide), cp_o (by decide), g1 3 (by decide) (by decide), f0 47 (by decide)]; exact r1.2.2.2
  · rw [up_ne (by decide), cp_o (by decide), g2 1 (by decide) (by decide), f0 46 (by decide)]; exact r2
  · rw [up_ne (by decide), cp_o (by decide), g2 2 (by decide) (by decide), f0 46 (by decide)]; exact r3
  · rw [up_ne (by decide), cp_o (by decide), g2 3 (by decide) (by decide), f0 46 (by decide)]; exact r4
  · rw [up_ne (by decide), cp_o (by decide), g2 4 (by decide) (by decide), f0 46 (by decide)]; exact r5
  · rw [up_ne (by decide), cp_o (by decide), g2 5 (by decide) (by decide), f0 46 (by decide)]; exact r6
  · rw [up_ne (by decide), cp_i (by omega) (by omega), show (0 : Int) + (s - 0) = s by omega, g0 48 (by decide) (by decide), f0 48 (by decide)]; exact r7 s s0 s1
  · rw [up_s, cp_o (by decide), g0 25 (by decide) (by decide), f0 25 (by decide)]; exact r8
theorem c_snTake2 (k : ∀ h', (∀ c, c ≠ 46 → c ≠ 47 → h' c = h c) → (∀ j, 0 ≤ j → j < 4 → h' 47 j = h 23 j) → (∀ j, 1 ≤ j → j ≤ 5 → h' 46 j = h 22 j) → KV h') : ClV (d + 1) mX1_takeFrom [vr 46, vr 22] h KV := by
  refine cl_in (al := [vr 46, vr 22]) rfl (Nat.le_of_ble_eq_true rfl) (by simp [vi_cat, vr_cat, vs_cat]) ?_
  refine yr_aload_n (pq := 1) rfl dX1_takeFrom_0 rfl ?_
  refine yr_getR (pq := 4) (b := 23) 0 rfl dX1_takeFrom_1 kF_1_9 (by decide) rfl ?_
  refine yr_iconst (pq := 5) rfl dX1_takeFrom_4 ?_
  refine yr_aload_n (pq := 6) rfl dX1_takeFrom_5 rfl ?_
  refine yr_getR (pq := 9) (b := 47) 0 rfl dX1_takeFrom_6 kF_1_9 (by decide) rfl ?_
  refine yr_iconst (pq := 10) rfl dX1_takeFrom_9 ?_
  refine yr_iconst (pq := 11) rfl dX1_takeFrom_10 ?_
  refine yr_cpy (pq := 14) rfl dX1_takeFrom_11 kO_1_31 kX_1_31 rfl rfl ⟨(by decide), (by decide)⟩ (by omega) (by omega) (by omega) cat0 ?_
  refine yr_aload_n (pq := 15) rfl dX1_takeFrom_14 rfl ?_
  refine yr_aload_n (pq := 16) rfl dX1_takeFrom_15 rfl ?_
  refine yr_getI (pq := 19) 1 rfl dX1_takeFrom_16 kF_1_15 (by decide) rfl (by decide) ?_
  refine yr_putI (pq := 22) 1 rfl dX1_takeFrom_19 kF_1_15 (by decide) rfl rfl (by decide) ?_
  refine yr_aload_n (pq := 23) rfl dX1_takeFrom_22 rfl ?_
  refine yr_aload_n (pq := 24) rfl dX1_takeFrom_23 rfl ?_
  refine yr_getI (pq := 27) 2 rfl dX1_takeFrom_24 kF_1_19 (by decide) rfl (by decide) ?_
  refine yr_putI (pq := 30) 2 rfl dX1_takeFrom_27 kF_1_19 (by decide) rfl rfl (by decide) ?_
  refine yr_aload_n (pq := 31) rfl dX1_takeFrom_30 rfl ?_
  refine yr_aload_n (pq := 32) rfl dX1_takeFrom_31 rfl ?_
  refine yr_getI (pq := 35) 3 rfl dX1_takeFrom_32 kF_1_22 (by decide) rfl (by decide) ?_
  refine yr_putI (pq := 38) 3 rfl dX1_takeFrom_35 kF_1_22 (by decide) rfl rfl (by decide) ?_
  refine yr_aload_n (pq := 39) rfl dX1_takeFrom_38 rfl ?_
  refine yr_aload_n (pq := 40) rfl dX1_takeFrom_39 rfl ?_
  refine yr_getI (pq := 43) 4 rfl dX1_takeFrom_40 kF_1_25 (by decide) rfl (by decide) ?_
  refine yr_putI (pq := 46) 4 rfl dX1_takeFrom_43 kF_1_25 (by decide) rfl rfl (by decide) ?_
  refine yr_aload_n (pq := 47) rfl dX1_takeFrom_46 rfl ?_
  refine yr_aload_n (pq := 48) rfl dX1_takeFrom_47 rfl ?_
  refine yr_getI (pq := 51) 5 rfl dX1_takeFrom_48 kF_1_28 (by decide) rfl (by decide) ?_
  refine yr_putI (pq := 54) 5 rfl dX1_takeFrom_51 kF_1_28 (by decide) rfl rfl (by decide) ?_
  refine yr_vret dX1_takeFrom_54 rfl ?_
  refine k _ (fun c q1 q2 => ?_) (fun j j0 j1 => ?_) (fun j j0 j1 => ?_)
  · rw [up_ne q1, up_ne q1, up_ne q1, up_ne q1, up_ne q1, cp_o q2]
  · rw [up_ne (by decide), up_ne (by decide), up_ne (by decide), up_ne (by decide), up_ne (by decide), cp_i (by omega) (by omega), show (0 : Int) + (j - 0) = j by omega]
  · rcases (show j = 1 ∨ j = 2 ∨ j = 3 ∨ j = 4 ∨ j = 5 by omega) with rfl | rfl | rfl | rfl | rfl <;> simp (disch := omega) only [up_o, up_k, up_s] <;> rw [cp_o (by decide)]
theorem c_scTake2 (hR : RS1 h N) (hO : okT N) (k : ∀ h', (∀ c, c < 25 ∨ 48 < c → h' c = h c) → RS2 h' N → KV h') : ClV (d + 3) mX2_takeFrom [vr 25, vr 1] h KV := by
  obtain ⟨r0, r1, r2, r3, r4, r5, r6, r7, r8⟩ := hR
  refine cl_in (al := [vr 25, vr 1]) rfl (Nat.le_of_ble_eq_true rfl) (by simp [vi_cat, vr_cat, vs_cat]) ?_
  refine yr_aload_n (pq := 1) rfl dX2_takeFrom_0 rfl ?_
  refine yr_getR (pq := 4) (b := 26) 0 rfl dX2_takeFrom_1 kF_2_12 (by decide) rfl ?_
  refine yr_aload_n (pq := 5) rfl dX2_takeFrom_4 rfl ?_
  refine yr_getR (pq := 8) (b := 2) 0 rfl dX2_takeFrom_5 kF_2_12 (by decide) rfl ?_
  refine yr_vV1 (pq := 11) rfl dX2_takeFrom_8 kM_2_33 (by decide) (tw_c (by decide)) cat0 (c_twTake (T := 26) (U := 2) (N := N) (by decide) (by decide) (by decide) r0 hO (fun f f0 f1 => ?_))
  refine yr_aload_n (pq := 12) rfl dX2_takeFrom_11 rfl ?_
  refine yr_getR (pq := 15) (b := 46) 1 rfl dX2_takeFrom_12 kF_2_21 (by decide) rfl ?_
  refine yr_aload_n (pq := 16) rfl dX2_takeFrom_15 rfl ?_
  refine yr_getR (pq := 19) (b := 22) 1 rfl dX2_takeFrom_16 kF_2_21 (by decide) rfl ?_
  refine yr_vV1 (pq := 22) rfl dX2_takeFrom_19 kM_2_37 (by decide) (by decide) cat0 (c_snTake2 (fun g g0 g1 g2 => ?_))
  refine yr_aload_n (pq := 23) rfl dX2_takeFrom_22 rfl ?_
  refine yr_getR (pq := 26) (b := 24) 2 rfl dX2_takeFrom_23 kF_2_25 (by decide) rfl ?_
  refine yr_iconst (pq := 27) rfl dX2_takeFrom_26 ?_
  refine yr_aload_n (pq := 28) rfl dX2_takeFrom_27 rfl ?_
  refine yr_getR (pq := 31) (b := 48) 2 rfl dX2_takeFrom_28 kF_2_25 (by decide) rfl ?_
  refine yr_iconst (pq := 32) rfl dX2_takeFrom_31 ?_
  refine yr_bipush (pq := 34) rfl dX2_takeFrom_32 rfl ?_
  refine yr_cpy (pq := 37) rfl dX2_takeFrom_34 kO_2_40 kX_2_40 rfl rfl ⟨(by decide), (by decide)⟩ (by omega) (by omega) (by omega) cat0 ?_
  refine yr_aload_n (pq := 38) rfl dX2_takeFrom_37 rfl ?_
  refine yr_aload_n (pq := 39) rfl dX2_takeFrom_38 rfl ?_
  refine yr_getI (pq := 42) 3 rfl dX2_takeFrom_39 kF_2_29 (by decide) rfl (by decide) ?_
  refine yr_putI (pq := 45) 3 rfl dX2_takeFrom_42 kF_2_29 (by decide) rfl rfl (by decide) ?_
  refine yr_vret dX2_takeFrom_45 rfl ?_
  have w : ∀ c, c ≠ 46 → c ≠ 47 → c ≠ 25 → c ≠ 48 → (up (cp g 24 0 48 0 10) 25 3 (cp g 24 0 48 0 10 1 3)) c = f c := fun c q1 q2 q3 q4 => by rw [up_ne q3, cp_o q4, g0 c q1 q2]
  refine k _ (fun c q => ?_) ⟨RT_cong f1 hO (fun j j0 j1 j2 => w _ (by omega) (by omega) (by omega) (by omega)), ⟨?_, ?_, ?_, ?_⟩, ?_, ?_, ?_, ?_, ?_, fun s s0 s1 => ?_, ?_⟩
  · rw [w c (by omega) (by omega) (by omega) (by omega), f0 c (by omega)]
  · rw [up_ne (by decide), cp_o (by decide), g1 0 (by decide) (by decide), f0 23 (by decide)]; exact r1.1
  · rw [up_ne (by decide), cp_o (by decide), g1 1 (by decide) (by decide), f0 23 (by decide)]; exact r1.2.1
  · rw [up_ne (by decide), cp_o (by decide), g1 2 (by decide) (by decide), f0 23 (by decide)]; exact r1.2.2.1
  · rw [up_ne (by decide), cp_o (by decide), g1 3 (by decide) (by decide), f0 23 (by decide)]; exact r1.2.2.2
  · rw [up_ne (by decide), cp_o (by decide), g2 1 (by decide) (by decide), f0 22 (by decide)]; exact r2
  · rw [up_ne (by decide), cp_o (by decide), g2 2 (by decide) (by decide), f0 22 (by decide)]; exact r3
  · rw [up_ne (by decide), cp_o (by decide), g2 3 (by decide) (by decide), f0 22 (by decide)]; exact r4
  · rw [up_ne (by decide), cp_o (by decide), g2 4 (by decide) (by decide), f0 22 (by decide)]; exact r5
  · rw [up_ne (by decide), cp_o (by decide), g2 5 (by decide) (by decide), f0 22 (by decide)]; exact r6
  · rw [up_ne (by decide), cp_i (by omega) (by omega), show (0 : Int) + (s - 0) = s by omega, g0 24 (by decide) (by decide), f0 24 (by decide)]; exact r7 s s0 s1
  · rw [up_s, cp_o (by decide), g0 1 (by decide) (by decide), f0 1 (by decide)]; exact r8
theorem s_tear (hI : Inv h) : Sm (d + 30) mX7_tear mX8_tear [] h := by
  have hI0 := hI
  obtain ⟨-, ⟨k1, k2, k3⟩, -, -, -, -, -⟩ := hI0
  have fin : ∀ (z : Int), z = h 0 2 → SKn (d + 30) mX8_tear [vr 108] z (up h 0 2 0) := by
    intro z hz
    have e3 : up h 0 2 0 108 3 = h 0 2 := by rw [up_ne (by decide)]; exact k1.symm
    have I2 : Inv (up (up h 0 2 0) 108 3 0) := Inv_kept hI (fun a q1 q2 q3 q4 => by rw [up_ne (by unfold CR at q1; omega), up_ne q2]) (by rw [up_ne (by decide), up_s, up_s]) (by rw [up_ne (by decide), up_s]; exact Or.inl rfl) (fun q => by rw [up_ne (by decide), up_s] at q; exact absurd q (by decide)) (by rw [up_k (by decide), up_ne (by decide)]) (by rw [up_k (by decide), up_ne (by decide)])
    show ClI (d + 30) mX8_tear [vr 108] _ _
    refine cl_in (al := [vr 108, .null]) rfl (Nat.le_of_ble_eq_true rfl) (by simp [vi_cat, vr_cat, vs_cat]) ?_
    refine yr_aload_n (pq := 1) rfl dX8_tear_0 rfl ?_
    refine yr_getI (pq := 4) 3 rfl dX8_tear_1 kF_8_351 (by decide) rfl (by decide) ?_
    rw [e3]
    refine yr_if_eq (pq := 7) (t := 11) rfl dX8_tear_4 rfl (by omega) (fun q => ?_) (fun q => ?_)
    · refine yr_iconst (pq := 12) rfl dX8_tear_11 ?_
      refine yr_istore1 (pq := 13) rfl dX8_tear_12 ?_
      refine yr_aload_n (pq := 14) rfl dX8_tear_13 rfl ?_
      refine yr_iconst (pq := 15) rfl dX8_tear_14 ?_
      refine yr_putZ (pq := 18) 3 rfl dX8_tear_15 kF_8_351 (by decide) rfl rfl (by decide) (by first | decide | omega) ?_
      refine yr_iload_n (pq := 19) rfl dX8_tear_18 rfl ?_
      exact yr_iret dX8_tear_19 rfl (⟨by omega, I2⟩)
    · refine yr_iconst (pq := 8) rfl dX8_tear_7 ?_
      refine yr_goto (t := 12) dX8_tear_8 rfl ?_
      refine yr_istore1 (pq := 13) rfl dX8_tear_12 ?_
      refine yr_aload_n (pq := 14) rfl dX8_tear_13 rfl ?_
      refine yr_iconst (pq := 15) rfl dX8_tear_14 ?_
      refine yr_putZ (pq := 18) 3 rfl dX8_tear_15 kF_8_351 (by decide) rfl rfl (by decide) (by first | decide | omega) ?_
      refine yr_iload_n (pq := 19) rfl dX8_tear_18 rfl ?_
      exact yr_iret dX8_tear_19 rfl (⟨by omega, I2⟩)
  show ClI (d + 30) mX7_tear [vr 0] h (SKn (d + 30) mX8_tear [vr 108])
  refine cl_in (al := [vr 0, .null]) rfl (Nat.le_of_ble_eq_true rfl) (by simp [vi_cat, vr_cat, vs_cat]) ?_
  refine yr_aload_n (pq := 1) rfl dX7_tear_0 rfl ?_
  refine yr_getI (pq := 4) 2 rfl dX7_tear_1 kF_7_19 (by decide) rfl (by decide) ?_
  refine yr_if_eq (pq := 7) (t := 11) rfl dX7_tear_4 rfl (by omega) (fun q => ?_) (fun q => ?_)
  · refine yr_iconst (pq := 12) rfl dX7_tear_11 ?_
    refine yr_istore1 (pq := 13) rfl dX7_tear_12 ?_
    refine yr_aload_n (pq := 14) rfl dX7_tear_13 rfl ?_
    refine yr_iconst (pq := 15) rfl dX7_tear_14 ?_
    refine yr_putZ (pq := 18) 2 rfl dX7_tear_15 kF_7_19 (by decide) rfl rfl (by decide) (by first | decide | omega) ?_
    refine yr_iload_n (pq := 19) rfl dX7_tear_18 rfl ?_
    exact yr_iret dX7_tear_19 rfl (fin _ (by omega))
  · refine yr_iconst (pq := 8) rfl dX7_tear_7 ?_
    refine yr_goto (t := 12) dX7_tear_8 rfl ?_
    refine yr_istore1 (pq := 13) rfl dX7_tear_12 ?_
    refine yr_aload_n (pq := 14) rfl dX7_tear_13 rfl ?_
    refine yr_iconst (pq := 15) rfl dX7_tear_14 ?_
    refine yr_putZ (pq := 18) 2 rfl dX7_tear_15 kF_7_19 (by decide) rfl rfl (by decide) (by first | decide | omega) ?_
    refine yr_iload_n (pq := 19) rfl dX7_tear_18 rfl ?_
    exact yr_iret dX7_tear_19 rfl (fin _ (by omega))
theorem s_image (hI : Inv h) : Sm (d + 30) mX7_image mX8_image [] h := by
  have hI0 := hI
  obtain ⟨⟨i1, i2, i3, i3'⟩, ⟨k1, k2, k3⟩, -, -, -, -, -⟩ := hI0
  show ClI (d + 30) mX7_image [vr 0] h (SKn (d + 30) mX8_image [vr 108])
  refine cl_in (al := [vr 0]) rfl (Nat.le_of_ble_eq_true rfl) (by simp [vi_cat, vr_cat, vs_cat]) ?_
  refine yr_aload_n (pq := 1) rfl dX7_image_0 rfl ?_
  refine yr_getR (pq := 4) (b := 25) 1 rfl dX7_image_1 kF_7_16 (by decide) rfl ?_
  refine yr_aload_n (pq := 5) rfl dX7_image_4 rfl ?_
  refine yr_getR (pq := 8) (b := 1) 0 rfl dX7_image_5 kF_7_10 (by decide) rfl ?_
  refine yr_vV1 (pq := 11) rfl dX7_image_8 kM_7_299 (by decide) (by decide) cat0 (c_scTake2 (N := h 109) i1 i2 (fun f f0 f1 => ?_))
  refine yr_aload_n (pq := 12) rfl dX7_image_11 rfl ?_
  refine yr_iconst (pq := 13) rfl dX7_image_12 ?_
  refine yr_putZ (pq := 16) 2 rfl dX7_image_13 kF_7_19 (by decide) rfl rfl (by decide) (by first | decide | omega) ?_
  refine yr_iconst (pq := 17) rfl dX7_image_16 ?_
  refine yr_iret dX7_image_17 rfl ?_
  show ClI (d + 30) mX8_image [vr 108] _ _
  refine cl_in (al := [vr 108]) rfl (Nat.le_of_ble_eq_true rfl) (by simp [vi_cat, vr_cat, vs_cat]) ?_
  refine yr_aload_n (pq := 1) rfl dX8_image_0 rfl ?_
  refine yr_getR (pq := 4) (b := 109) 0 rfl dX8_image_1 kF_8_9 (by decide) rfl ?_
  refine yr_aload_n (pq := 5) rfl dX8_image_4 rfl ?_
  refine yr_getR (pq := 8) (b := 110) 1 rfl dX8_image_5 kF_8_13 (by decide) rfl ?_
  refine yr_sV2 (pq := 11) rfl dX8_image_8 kM_8_74 (by decide) cat0 (m_copyRow (a := 109) (b := 110) rfl (by decide) rfl (by decide) (by decide) (fun e e0 e1 e2 => ?_))
  refine yr_aload_n (pq := 12) rfl dX8_image_11 rfl ?_
  refine yr_iconst (pq := 13) rfl dX8_image_12 ?_
  refine yr_putZ (pq := 16) 3 rfl dX8_image_13 kF_8_351 (by decide) rfl rfl (by decide) (by first | decide | omega) ?_
  refine yr_iconst (pq := 17) rfl dX8_image_16 ?_
  refine yr_iret dX8_image_17 rfl ?_
  have e9 : ∀ j, 0 ≤ j → j < 123 → up e 108 3 1 110 j = h 109 j := fun j j0 j1 => by rw [up_ne (by decide), e1 j j0 j1, up_ne (by decide), f0 109 (by decide)]
  have w : ∀ a, a ≠ 108 → a ≠ 110 → a ≠ 0 → up e 108 3 1 a = f a := fun a q1 q2 q3 => by rw [up_ne q1, e0 a q2, up_ne q3]
  refine ⟨rfl, Inv_kept hI (fun a q1 q2 q3 q4 => ?_) ?_ ?_ (fun _ => ⟨?_, okT_123 i2 e9, okS_123 i3 e9, ?_⟩) ?_ ?_⟩
  · rw [w a (by unfold CR at q1; omega) q4 q2, f0 a (by omega)]
  · rw [up_s, up_ne (by decide), e0 0 (by decide), up_s]
  · rw [up_ne (by decide), e0 0 (by decide), up_s]; exact Or.inr rfl
  · exact RS2_fr (RS_123 f1 i2.1 e9) (okT_123 i2 e9) (fun a ha => w a (by omega) (by omega) (by omega))
  · rw [e9 50 (by decide) (by decide)]; exact i3'
  · rw [up_k (by decide), e0 108 (by decide), up_ne (by decide), f0 108 (by decide)]
  · rw [up_k (by decide), e0 108 (by decide), up_ne (by decide), f0 108 (by decide)]
theorem s_undo (hI : Inv h) : Sm (d + 30) mX7_undo mX8_undo [] h := by
  have hI0 := hI
  obtain ⟨⟨i1, i2, i3, i3'⟩, ⟨k1, k2, k3⟩, -, -, -, -, -⟩ := hI0
  show ClI (d + 30) mX7_undo [vr 0] h (SKn (d + 30) mX8_undo [vr 108])
  refine cl_in (al := [vr 0]) rfl (Nat.le_of_ble_eq_true rfl) (by simp [vi_cat, vr_cat, vs_cat]) ?_
  refine yr_aload_n (pq := 1) rfl dX7_undo_0 rfl ?_
  refine yr_getI (pq := 4) 2 rfl dX7_undo_1 kF_7_19 (by decide) rfl (by decide) ?_
  refine yr_if_ne (pq := 7) (t := 13) rfl dX7_undo_4 rfl (by omega) (fun q => ?_) (fun q => ?_)
  · have q1 : h 0 2 = 1 := by omega
    obtain ⟨j1, j2, j3, j4⟩ := k3 q1
    refine yr_aload_n (pq := 14) rfl dX7_undo_13 rfl ?_
    refine yr_getR (pq := 17) (b := 1) 0 rfl dX7_undo_14 kF_7_10 (by decide) rfl ?_
    refine yr_aload_n (pq := 18) rfl dX7_undo_17 rfl ?_
    refine yr_getR (pq := 21) (b := 25) 1 rfl dX7_undo_18 kF_7_16 (by decide) rfl ?_
    refine yr_vV1 (pq := 24) rfl dX7_undo_21 kM_7_299 (by decide) (by decide) cat0 (c_scTake1 (N := h 110) j1 j2 (fun f f0 f1 => ?_))
    refine yr_aload_n (pq := 25) rfl dX7_undo_24 rfl ?_
    refine yr_getR (pq := 28) (b := 1) 0 rfl dX7_undo_25 kF_7_10 (by decide) rfl ?_
    refine yr_getR (pq := 31) (b := 22) 1 rfl dX7_undo_28 kF_7_135 (by decide) rfl ?_
    refine yr_getI (pq := 34) 3 rfl dX7_undo_31 kF_7_163 (by decide) rfl (by decide) ?_
    rw [f1.2.2.2.2.1]
    refine yr_iret dX7_undo_34 rfl ?_
    have e3 : f 108 3 = 1 := by rw [f0 108 (by decide), ← k1]; exact q1
    show ClI (d + 30) mX8_undo [vr 108] _ _
    refine cl_in (al := [vr 108]) rfl (Nat.le_of_ble_eq_true rfl) (by simp [vi_cat, vr_cat, vs_cat]) ?_
    refine yr_aload_n (pq := 1) rfl dX8_undo_0 rfl ?_
    refine yr_getI (pq := 4) 3 rfl dX8_undo_1 kF_8_351 (by decide) rfl (by decide) ?_
    rw [e3]
    refine yr_if_ne (pq := 7) (t := 14) rfl dX8_undo_4 rfl (by omega) (fun _ => ?_) (fun q9 => absurd q9 (by decide))
    refine yr_aload_n (pq := 15) rfl dX8_undo_14 rfl ?_
    refine yr_getR (pq := 18) (b := 110) 1 rfl dX8_undo_15 kF_8_13 (by decide) rfl ?_
    refine yr_aload_n (pq := 19) rfl dX8_undo_18 rfl ?_
    refine yr_getR (pq := 22) (b := 109) 0 rfl dX8_undo_19 kF_8_9 (by decide) rfl ?_
    refine yr_sV2 (pq := 25) rfl dX8_undo_22 kM_8_74 (by decide) cat0 (m_copyRow (a := 110) (b := 109) rfl (by decide) rfl (by decide) (by decide) (fun e e0 e1 e2 => ?_))
    have e9 : ∀ j, 0 ≤ j → j < 123 → e 109 j = h 110 j := fun j j0 j1 => by rw [e1 j j0 j1, f0 110 (by decide)]
    refine yr_aload_n (pq := 26) rfl dX8_undo_25 rfl ?_
    refine yr_getR (pq := 29) (b := 109) 0 rfl dX8_undo_26 kF_8_9 (by decide) rfl ?_
    refine yr_bipush (pq := 31) rfl dX8_undo_29 rfl ?_
    refine yr_iald (pq := 32) rfl dX8_undo_31 rfl (by decide) (by omega) ?_
    rw [e9 50 (by decide) (by decide)]
    refine yr_iret dX8_undo_32 rfl ?_
    refine ⟨rfl, Inv_row hI ?_ (okT_123 j2 e9) (okS_123 j3 e9) (by rw [e9 50 (by decide) (by decide)]; exact j4) (fun a q1 q2 q3 => by rw [e0 a q3, f0 a (by omega)]) ?_ ?_ ?_⟩
    · exact RS1_fr (RS_123 f1 j2.1 e9) (okT_123 j2 e9) (fun a ha => e0 a (by omega))
    · rw [e0 108 (by decide), f0 108 (by decide)]
    · rw [e0 108 (by decide), f0 108 (by decide)]
    · rw [e0 108 (by decide), f0 108 (by decide)]
  · refine yr_aload_n (pq := 8) rfl dX7_undo_7 rfl ?_
    refine yr_iconst (pq := 9) rfl dX7_undo_8 ?_
    refine yr_vI1 (pq := 12) rfl dX7_undo_9 kM_7_66 (by decide) (by decide) cat0 (c_finding (by decide) ?_)
    refine yr_iret dX7_undo_12 rfl ?_
    have e3 : up h 99 3 (h 99 3 + 1) 108 3 = 0 := by rw [up_ne (by decide), ← k1]; omega
    show ClI (d + 30) mX8_undo [vr 108] _ _
    refine cl_in (al := [vr 108]) rfl (Nat.le_of_ble_eq_true rfl) (by simp [vi_cat, vr_cat, vs_cat]) ?_
    refine yr_aload_n (pq := 1) rfl dX8_undo_0 rfl ?_
    refine yr_getI (pq := 4) 3 rfl dX8_undo_1 kF_8_351 (by decide) rfl (by decide) ?_
    rw [e3]
    refine yr_if_ne (pq := 7) (t := 14) rfl dX8_undo_4 rfl (by omega) (fun q9 => absurd (by decide) q9) (fun _ => ?_)
    refine yr_aload_n (pq := 8) rfl dX8_undo_7 rfl ?_
    refine yr_ldc (pq := 10) rfl dX8_undo_8 kN_8_144 ?_
    refine yr_vI1 (pq := 13) rfl dX8_undo_10 kM_8_101 (by decide) (by decide) cat0 (r_fnd (by decide) (fun e hf => ?_))
    exact yr_iret dX8_undo_13 rfl (fd_end hI (by decide) (by decide) hf)
end S20
