/-! text, as both have it -/
section S33
variable {d : Nat} {h : hT}
theorem Inv_tap0 {h e : hT} (hI : Inv h) (c : ∀ a, CR a → a ≠ 76 → a ≠ 77 → a ≠ 116 → e a = h a) (e3 : e 108 3 = h 108 3) (e5 : e 108 5 = h 108 5) (z1 : e 76 1 = 0) (z2 : e 108 16 = 0) : Inv e :=
  Inv_taped hI c e3 e5 (by rw [z1, z2]) (by rw [z1]; decide) (fun i j0 j1 => by rw [z1] at j1; omega)
theorem s_text (hI : Inv h) : Sm (d + 30) mX7_text mX8_text [] h := by
  have hI0 := hI
  obtain ⟨⟨i1, i2, i3, i3'⟩, -, -, -, ⟨i9, i9b, i9t⟩, -, i11⟩ := hI0
  have hT7 : TP (h 77) (h 76 1) (h 77) := ⟨i9b, fun i j0 j1 => ⟨rfl, (i9t i j0 j1).2⟩⟩
  have hT6 : TP (h 116) (h 76 1) (h 77) := ⟨i9b, fun i j0 j1 => ⟨(i9t i j0 j1).1.symm, (i9t i j0 j1).2⟩⟩
  have rk := rd_ok (t := h 77) (sz := h 76 1) 120 1 0 (h 109) (Int.le_refl 0) i9b.1 i2 i3.1
  show ClI (d + 30) mX7_text [vr 0] h (SKn (d + 30) mX8_text [vr 108])
  refine cl_in (al := [vr 0, .null]) rfl (Nat.le_of_ble_eq_true rfl) (by simp [vi_cat, vr_cat, vs_cat]) ?_
  refine yr_aload_n (pq := 1) rfl dX7_text_0 rfl ?_
  refine yr_getR (pq := 4) (b := 76) 5 rfl dX7_text_1 kF_7_40 (by decide) rfl ?_
  refine yr_getR (pq := 7) (b := 78) 2 rfl dX7_text_4 kF_7_258 (by decide) rfl ?_
  refine yr_aload_n (pq := 8) rfl dX7_text_7 rfl ?_
  refine yr_getR (pq := 11) (b := 1) 0 rfl dX7_text_8 kF_7_10 (by decide) rfl ?_
  refine yr_getR (pq := 14) (b := 2) 0 rfl dX7_text_11 kF_7_70 (by decide) rfl ?_
  refine yr_vV1 (pq := 17) rfl dX7_text_14 kM_7_227 (by decide) (tw_c (by decide)) cat0 (c_twTake (T := 78) (U := 2) (N := h 109) (by decide) (by decide) (by decide) i1.1 i2 (fun f f0 f1 => ?_))
  refine yr_aload_n (pq := 18) rfl dX7_text_17 rfl ?_
  refine yr_getR (pq := 21) (b := 76) 5 rfl dX7_text_18 kF_7_40 (by decide) rfl ?_
  refine yr_aload_n (pq := 22) rfl dX7_text_21 rfl ?_
  refine yr_getR (pq := 25) (b := 1) 0 rfl dX7_text_22 kF_7_10 (by decide) rfl ?_
  refine yr_getR (pq := 28) (b := 22) 1 rfl dX7_text_25 kF_7_135 (by decide) rfl ?_
  refine yr_getI (pq := 31) 1 rfl dX7_text_28 kF_7_139 (by decide) rfl (by decide) ?_
  refine yr_putI (pq := 34) 3 rfl dX7_text_31 kF_7_259 (by decide) rfl rfl (by decide) ?_
  refine yr_aload_n (pq := 35) rfl dX7_text_34 rfl ?_
  refine yr_getR (pq := 38) (b := 76) 5 rfl dX7_text_35 kF_7_40 (by decide) rfl ?_
  rw [f0 22 (by decide), i1.2.2.1]
  have F0 : ∀ a, a ≠ 76 → (a < 78 ∨ 97 < a) → up f 76 3 (h 109 44) a = h a := fun a q1 q2 => by rw [up_ne q1, f0 a (by omega)]
  have F1 : up f 76 3 (h 109 44) 76 1 = h 76 1 := by rw [up_k (by decide), f0 76 (by decide)]
  have F3 : up f 76 3 (h 109 44) 76 3 = h 109 44 := up_s _ _ _ _
  have FR : RT (up f 76 3 (h 109 44)) 78 (h 109) := RT_cong f1 i2 (fun j j0 j1 j2 => up_ne (by omega))
  generalize up f 76 3 (h 109 44) = f' at F0 F1 F3 FR ⊢
  refine yr_vI0 (pq := 41) rfl dX7_text_38 kM_7_260 (by decide) (by decide) cat0 (c_readAll (t := h 77) (sz := h 76 1) (P := h 109) (by rw [F0 77 (by decide) (by decide)]; exact hT7) F1 FR i2 F3 i3.1 (fun g g0 g1 => ?_))
  generalize hR : rdF (h 77) (h 76 1) 120 1 0 (h 109) = R at g1 rk ⊢
  have G0 : ∀ a, a ≠ 76 → (a < 78 ∨ 97 < a) → g a = h a := fun a q1 q2 => by rw [g0.1 a q1 q2, F0 a q1 q2]
  have rr : ∀ {K : Int → hT → Prop} {u : hT}, u 109 = h 109 → u 116 = h 116 → u 108 = h 108 → (∀ e, (∀ a, a ≠ 108 → a ≠ 109 → a ≠ 118 → e a = u a) → (∀ j, j < 16 → e 108 j = u 108 j) → e 108 16 = 0 → (0 ≤ R.1 → e 109 = R.2) → (R.1 < 0 → e 109 = h 109) → K R.1 e) → ClI (d + 30) mX8_text [vr 108] u K := by
    intro K u u9 u6 u8 kk
    rw [← hR] at kk
    exact r_text u9 i2 i3.1 (by rw [u6]; exact hT6) (by rw [u8]; exact i9.symm) kk
  have rb : -2147483648 ≤ R.1 ∧ R.1 ≤ 2147483647 := by
    have b : ∀ (n : Nat) (i e : Int) (P : Int → Int), 0 ≤ i → i + n ≤ 200 → 0 ≤ e → e ≤ h 76 1 → okT P → (0 ≤ P 44 ∧ P 44 ≤ 1) → -200 ≤ (rdF (h 77) (h 76 1) n i e P).1 ∧ (rdF (h 77) (h 76 1) n i e P).1 ≤ 200 := by
      intro n
      induction n with
      | zero => intro i e P _ _ _ _ _ _; rw [rdF]; simp
      | succ n ih =>
        intro i e P h1 h2 h3 h4 h5 h6
        have k0 := tkF_ok (t := h 77) h4
        obtain ⟨oi, -⟩ := OI_it (t := h 77) (P := P) k0 h5 h6
        have hb := oi.1.1
        have kb := k0.1
        rw [rdF]
        split
        · rename_i q
          obtain ⟨u1, u2, u3, u4⟩ := oi.2 q
          split
          · simp only; omega
          · split
            · exact ih _ _ _ (by omega) (by omega) (by omega) (by omega) u1 u3
            · simp only; omega
        · simp only; omega
    have := b 120 1 0 (h 109) (by decide) (by decide) (Int.le_refl 0) i9b.1 i2 i3.1
    rw [hR] at this
    omega
  refine yr_istore1 (pq := 42) rfl dX7_text_41 ?_
  refine yr_aload_n (pq := 43) rfl dX7_text_42 rfl ?_
  refine yr_getR (pq := 46) (b := 76) 5 rfl dX7_text_43 kF_7_40 (by decide) rfl ?_
  refine yr_iconst (pq := 47) rfl dX7_text_46 ?_
  refine yr_putI (pq := 50) 1 rfl dX7_text_47 kF_7_254 (by decide) rfl rfl (by decide) ?_
  refine yr_iload_n (pq := 51) rfl dX7_text_50 rfl ?_
  refine yr_if_lt (pq := 54) (t := 88) rfl dX7_text_51 rfl (by omega) (fun q => ?_) (fun q => ?_)
  · refine yr_iload_n (pq := 89) rfl dX7_text_88 rfl ?_
    refine yr_iret dX7_text_89 rfl ?_
    refine rr (by rw [up_ne (by decide)]; exact G0 109 (by decide) (by decide)) (by rw [up_ne (by decide)]; exact G0 116 (by decide) (by decide)) (by rw [up_ne (by decide)]; exact G0 108 (by decide) (by decide)) (fun e e0 e1 e2 _ e4 => ⟨rfl, ?_⟩)
    have e9 := e4 q
    have E : ∀ a, CR a → a ≠ 76 → e a = h a := fun a ha qa => by
      by_cases q9 : a = 109
      · subst q9; exact e9
      · unfold CR at ha
        rw [e0 a (by omega) q9 (by omega), up_ne qa, G0 a qa (by omega)]
    refine Inv_tap0 hI (fun a ha q1 _ _ => E a ha q1) ?_ ?_ ?_ e2
    · rw [e1 3 (by decide), up_ne (by decide), G0 108 (by decide) (by decide)]
    · rw [e1 5 (by decide), up_ne (by decide), G0 108 (by decide) (by decide)]
    · rw [e0 76 (by decide) (by decide) (by decide), up_s]
  · obtain ⟨rR, r3⟩ := g1 (by omega)
    obtain ⟨o1, o2, o3, o4⟩ := rk (by omega)
    have gR : RT (up g 76 1 0) 78 R.2 := RT_cong rR o1 (fun j j0 j1 j2 => up_ne (by omega))
    refine yr_aload_n (pq := 55) rfl dX7_text_54 rfl ?_
    refine yr_getR (pq := 58) (b := 1) 0 rfl dX7_text_55 kF_7_10 (by decide) rfl ?_
    refine yr_getR (pq := 61) (b := 2) 0 rfl dX7_text_58 kF_7_70 (by decide) rfl ?_
    refine yr_aload_n (pq := 62) rfl dX7_text_61 rfl ?_
    refine yr_getR (pq := 65) (b := 76) 5 rfl dX7_text_62 kF_7_40 (by decide) rfl ?_
    refine yr_getR (pq := 68) (b := 78) 2 rfl dX7_text_65 kF_7_258 (by decide) rfl ?_
    refine yr_vV1 (pq := 71) rfl dX7_text_68 kM_7_227 (by decide) (tw_c (by decide)) cat0 (c_twTake (T := 2) (U := 78) (N := R.2) (by decide) (by decide) (by decide) gR o1 (fun u u0 u1 => ?_))
    refine yr_aload_n (pq := 72) rfl dX7_text_71 rfl ?_
    refine yr_getR (pq := 75) (b := 1) 0 rfl dX7_text_72 kF_7_10 (by decide) rfl ?_
    refine yr_getR (pq := 78) (b := 22) 1 rfl dX7_text_75 kF_7_135 (by decide) rfl ?_
    refine yr_aload_n (pq := 79) rfl dX7_text_78 rfl ?_
    refine yr_getR (pq := 82) (b := 76) 5 rfl dX7_text_79 kF_7_40 (by decide) rfl ?_
    refine yr_getI (pq := 85) 3 rfl dX7_text_82 kF_7_259 (by decide) rfl (by decide) ?_
    refine yr_putI (pq := 88) 1 rfl dX7_text_85 kF_7_139 (by decide) rfl rfl (by decide) ?_
    refine yr_iload_n (pq := 89) rfl dX7_text_88 rfl ?_
    have U : ∀ a, a ≠ 76 → (a < 2 ∨ (21 < a ∧ a < 78) ∨ 97 < a) → u a = h a := fun a q1 q2 => by rw [u0 a (by omega), up_ne q1, G0 a q1 (by omega)]
    have u763 : u 76 3 = R.2 44 := by rw [u0 76 (by decide), up_k (by decide)]; exact r3
    rw [u763]
    refine yr_iret dX7_text_89 rfl ?_
    have V : ∀ a, a ≠ 76 → a ≠ 22 → (a < 2 ∨ (21 < a ∧ a < 78) ∨ 97 < a) → up u 22 1 (R.2 44) a = h a := fun a q1 q2 q3 => by rw [up_ne q2, U a q1 q3]
    refine rr (V 109 (by decide) (by decide) (by decide)) (V 116 (by decide) (by decide) (by decide)) (V 108 (by decide) (by decide) (by decide)) (fun e e0 e1 e2 e3 _ => ⟨rfl, ?_⟩)
    have e9 := e3 (by omega)
    -- first the tape, then the row
    have I1 : Inv (fun a => if a = 76 ∨ a = 108 then e a else h a) := by
      refine Inv_tap0 hI (fun a ha q1 _ _ => ?_) ?_ ?_ ?_ ?_
      · have : a ≠ 108 := by unfold CR at ha; omega
        simp only [if_neg (show ¬ (a = 76 ∨ a = 108) by omega)]
      · show e 108 3 = h 108 3
        rw [e1 3 (by decide), V 108 (by decide) (by decide) (by decide)]
      · show e 108 5 = h 108 5
        rw [e1 5 (by decide), V 108 (by decide) (by decide) (by decide)]
      · show e 76 1 = 0
        rw [e0 76 (by decide) (by decide) (by decide), up_ne (by decide), u0 76 (by decide), up_s]
      · exact e2
    have w : ∀ a : Int, a ≠ 76 → a ≠ 108 → (if a = 76 ∨ a = 108 then e a else h a) = h a := fun a q1 q2 => by rw [if_neg (by omega)]
    have E : ∀ a, CR a → (a = 0 ∨ 25 ≤ a) → a ≠ 109 → e a = (if a = 76 ∨ a = 108 then e a else h a) := fun a ha q2 q3 => by
      by_cases q4 : a = 76 ∨ a = 108
      · rw [if_pos q4]
      · unfold CR at ha
        rw [if_neg q4, e0 a (by omega) q3 (by omega), V a (by omega) (by omega) (by omega)]
    obtain ⟨r0, r1, r2, r3', r4, r5, r6, r7, r8⟩ := i1
    have o8 := o1.1
    have E2 : ∀ a, (22 ≤ a ∧ a ≤ 24) ∨ a = 1 → e a = up u 22 1 (R.2 44) a := fun a ha => e0 a (by omega) (by omega) (by omega)
    refine Inv_row I1 ?_ (by rw [e9]; exact o1) ?_ ?_ (fun a q1 q2 q3 => E a q1 q2 q3) rfl rfl rfl
    · rw [e9]
      refine ⟨RT_cong u1 o1 (fun j j0 j1 j2 => by rw [e0 _ (by omega) (by omega) (by omega), up_ne (by omega)]), ?_, ?_, ?_, ?_, ?_, ?_, fun s s0 s1 => ?_, ?_⟩
      · rw [E2 23 (by omega), V 23 (by decide) (by decide) (by decide), o2 45 (by omega), o2 46 (by omega), o2 47 (by omega), o2 48 (by omega)]; exact r1
      · rw [E2 22 (by omega), up_s]
      · rw [E2 22 (by omega), up_k (by decide), U 22 (by decide) (by decide), o2 49 (by omega)]; exact r3'
      · rw [E2 22 (by omega), up_k (by decide), U 22 (by decide) (by decide), o2 50 (by omega)]; exact r4
      · rw [E2 22 (by omega), up_k (by decide), U 22 (by decide) (by decide), o2 51 (by omega)]; exact r5
      · rw [E2 22 (by omega), up_k (by decide), U 22 (by decide) (by decide), o2 52 (by omega)]; exact r6
      · rw [E2 24 (by omega), V 24 (by decide) (by decide) (by decide), o2 _ (by omega)]; exact r7 s s0 s1
      · rw [E2 1 (by omega), V 1 (by decide) (by decide) (by decide), o2 9 (by omega)]; exact r8
    · rw [e9]
      obtain ⟨a1, a2, a3, a4, a5, a6⟩ := i3
      refine ⟨o3, ?_, ?_, ?_, ?_, fun s s0 s1 => ?_⟩
      · rw [o2 49 (by omega)]; exact a2
      · rw [o2 50 (by omega)]; exact a3
      · rw [o2 51 (by omega)]; exact a4
      · rw [o2 45 (by omega), o2 46 (by omega), o2 47 (by omega), o2 48 (by omega)]; exact a5
      · rw [o2 _ (by omega)]
        have := a6 s s0 s1
        omega
    · rw [e9, o2 50 (by omega)]; exact i3'
end S33
