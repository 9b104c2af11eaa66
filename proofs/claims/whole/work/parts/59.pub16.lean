/-! street -/
section S16
variable {d : Nat} {h : hT} {K : Int → hT → Prop}
def gdS (kd a b l : Int) : Prop := (0 ≤ kd ∧ kd ≤ 6) ∧ (0 ≤ a ∧ a ≤ 7) ∧ (0 ≤ b ∧ b ≤ 7) ∧ a ≠ b ∧ (1 ≤ l ∧ l ≤ 20)
theorem r_street {kd a b l : Int} {N : Int → Int} (hB : RB h N) (hO : okT N) (hk : -2147483648 ≤ kd ∧ kd ≤ 2147483647) (ha : -2147483648 ≤ a ∧ a ≤ 2147483647) (hb : -2147483648 ≤ b ∧ b ≤ 2147483647) (hl : -2147483648 ≤ l ∧ l ≤ 2147483647) (k0 : ¬ gdS kd a b l → ∀ e, FD (-1000001) h e → K (-1000001) e) (k1 : gdS kd a b l → N 8 = 14 → ∀ e, FD (-1000002) h e → K (-1000002) e)
    (k2 : gdS kd a b l → N 8 < 14 → ∀ e, (∀ c, c ≠ 109 → e c = h c) → e 109 = addN N kd a b l 0 → K (N 8) e) : ClI (d + 3) mX8_street [vr 108, vi kd, vi a, vi b, vi l] h K := by
  obtain ⟨e9, -⟩ := hB
  subst e9
  have h8 := hO.1
  have bad : ¬ gdS kd a b l → Yr (d + 2) mX8_street 37 [vr 108, vi kd, vi a, vi b, vi l] [] h (rI K) := by
    intro no
    refine yr_aload_n (pq := 38) rfl dX8_street_37 rfl ?_
    refine yr_ldc (pq := 40) rfl dX8_street_38 kN_8_73 ?_
    refine yr_vI1 (pq := 43) rfl dX8_street_40 kM_8_101 (by decide) (by decide) cat0 (r_fnd (by decide) (fun e hf => ?_))
    exact yr_iret dX8_street_43 rfl (k0 no e hf)
  unfold gdS at bad k1 k2
  refine cl_in (al := [vr 108, vi kd, vi a, vi b, vi l]) rfl (Nat.le_of_ble_eq_true rfl) (by simp [vi_cat, vr_cat, vs_cat]) ?_
  refine yr_iload_n (pq := 1) rfl dX8_street_0 rfl ?_
  refine yr_sI1 (pq := 4) rfl dX8_street_1 kM_8_94 (by decide) cat0 (m_isKind hk (fun q1 => ?_) (fun q1 => ?_))
  · refine yr_if_eq (pq := 7) (t := 37) rfl dX8_street_4 rfl (by decide) (fun q9 => absurd q9 (by decide)) (fun _ => ?_)
    refine yr_iload_n (pq := 8) rfl dX8_street_7 rfl ?_
    refine yr_sI1 (pq := 11) rfl dX8_street_8 kM_8_98 (by decide) cat0 (m_isCorner ha (fun q2 => ?_) (fun q2 => ?_))
    · refine yr_if_eq (pq := 14) (t := 37) rfl dX8_street_11 rfl (by decide) (fun q9 => absurd q9 (by decide)) (fun _ => ?_)
      refine yr_iload_n (pq := 15) rfl dX8_street_14 rfl ?_
      refine yr_sI1 (pq := 18) rfl dX8_street_15 kM_8_98 (by decide) cat0 (m_isCorner hb (fun q3 => ?_) (fun q3 => ?_))
      · refine yr_if_eq (pq := 21) (t := 37) rfl dX8_street_18 rfl (by decide) (fun q9 => absurd q9 (by decide)) (fun _ => ?_)
        refine yr_iload_n (pq := 22) rfl dX8_street_21 rfl ?_
        refine yr_iload_n (pq := 23) rfl dX8_street_22 rfl ?_
        refine yr_ic_eq (pq := 26) (t := 37) rfl dX8_street_23 rfl (by omega) (by omega) (fun q4 => ?_) (fun q4 => ?_)
        · exact bad (by omega)
        · refine yr_iload (pq := 28) rfl dX8_street_26 rfl ?_
          refine yr_iconst (pq := 29) rfl dX8_street_28 ?_
          refine yr_bipush (pq := 31) rfl dX8_street_29 rfl ?_
          refine yr_sI3 (pq := 34) rfl dX8_street_31 kM_8_78 (by decide) cat0 (m_within hl (by decide) (by decide) (fun q5 => ?_) (fun q5 => ?_))
          · refine yr_if_ne (pq := 37) (t := 44) rfl dX8_street_34 rfl (by decide) (fun _ => ?_) (fun q9 => absurd q9 (by decide))
            refine yr_aload_n (pq := 45) rfl dX8_street_44 rfl ?_
            refine yr_getR (pq := 48) (b := 109) 0 rfl dX8_street_45 kF_8_9 (by decide) rfl ?_
            refine yr_bipush (pq := 50) rfl dX8_street_48 rfl ?_
            refine yr_iald (pq := 51) rfl dX8_street_50 rfl (by decide) (by omega) ?_
            refine yr_bipush (pq := 53) rfl dX8_street_51 rfl ?_
            refine yr_ic_ne (pq := 56) (t := 65) rfl dX8_street_53 rfl (by omega) (by omega) (fun q6 => ?_) (fun q6 => ?_)
            · refine yr_aload_n (pq := 66) rfl dX8_street_65 rfl ?_
              refine yr_iload_n (pq := 67) rfl dX8_street_66 rfl ?_
              refine yr_iload_n (pq := 68) rfl dX8_street_67 rfl ?_
              refine yr_iload_n (pq := 69) rfl dX8_street_68 rfl ?_
              refine yr_iload (pq := 71) rfl dX8_street_69 rfl ?_
              refine yr_iconst (pq := 72) rfl dX8_street_71 ?_
              refine yr_vI5 (pq := 75) rfl dX8_street_72 kM_8_106 (by decide) (by decide) cat0 (m_comes (by omega) ha hb (fun e e0 e1 => ?_))
              exact yr_iret dX8_street_75 rfl (k2 ⟨q1, q2, q3, q4, q5⟩ (by omega) e e0 e1)
            · refine yr_aload_n (pq := 57) rfl dX8_street_56 rfl ?_
              refine yr_ldc (pq := 59) rfl dX8_street_57 kN_8_105 ?_
              refine yr_vI1 (pq := 62) rfl dX8_street_59 kM_8_101 (by decide) (by decide) cat0 (r_fnd (by decide) (fun e hf => ?_))
              refine yr_goto (t := 75) dX8_street_62 rfl ?_
              exact yr_iret dX8_street_75 rfl (k1 ⟨q1, q2, q3, q4, q5⟩ (by omega) e hf)
          · refine yr_if_ne (pq := 37) (t := 44) rfl dX8_street_34 rfl (by decide) (fun q9 => absurd (by decide) q9) (fun _ => ?_)
            exact bad (by omega)
      · refine yr_if_eq (pq := 21) (t := 37) rfl dX8_street_18 rfl (by decide) (fun _ => ?_) (fun q9 => absurd (by decide) q9)
        exact bad (by omega)
    · refine yr_if_eq (pq := 14) (t := 37) rfl dX8_street_11 rfl (by decide) (fun _ => ?_) (fun q9 => absurd (by decide) q9)
      exact bad (by omega)
  · refine yr_if_eq (pq := 7) (t := 37) rfl dX8_street_4 rfl (by decide) (fun _ => ?_) (fun q9 => absurd (by decide) q9)
    exact bad (by omega)
theorem addN_lo {N : Int → Int} {kd a b l u j : Int} (h8 : 0 ≤ N 8) (q : j < 53) (q8 : j ≠ 8) : addN N kd a b l u j = N j := by
  unfold addN
  rw [ur_o q8, ur_o (by omega), ur_o (by omega), ur_o (by omega), ur_o (by omega), ur_o (by omega)]
theorem addN_8 {N : Int → Int} {kd a b l u : Int} : addN N kd a b l u 8 = N 8 + 1 := by unfold addN; rw [ur_s]
theorem addN_S {N : Int → Int} {kd a b l u : Int} (h8 : 0 ≤ N 8) (hS : okS N) : okS (addN N kd a b l u) := by
  have e : ∀ j, j < 53 → j ≠ 8 → addN N kd a b l u j = N j := fun j q1 q2 => addN_lo h8 q1 q2
  obtain ⟨a1, a2, a3, a4, a5, a6⟩ := hS
  unfold okS
  rw [e 44 (by decide) (by decide), e 49 (by decide) (by decide), e 50 (by decide) (by decide), e 51 (by decide) (by decide), e 45 (by decide) (by decide), e 46 (by decide) (by decide), e 47 (by decide) (by decide), e 48 (by decide) (by decide), addN_8]
  refine ⟨a1, a2, a3, a4, a5, fun s s0 s1 => ?_⟩
  rw [e _ (by omega) (by omega)]
  have := a6 s s0 s1
  omega
theorem s_street {kd a b l : Int} (hI : Inv h) (hk : -2147483648 ≤ kd ∧ kd ≤ 2147483647) (ha : -2147483648 ≤ a ∧ a ≤ 2147483647) (hb : -2147483648 ≤ b ∧ b ≤ 2147483647) (hl : -2147483648 ≤ l ∧ l ≤ 2147483647) : Sm (d + 30) mX7_street mX8_street [vi kd, vi a, vi b, vi l] h := by
  have hI0 := hI
  obtain ⟨⟨i1, i2, i3, i3'⟩, -, -, -, -, -, i11⟩ := hI0
  have h8 := i2.1
  have bad : ¬ gdS kd a b l → Yr (d + 29) mX7_street 37 [vr 0, vi kd, vi a, vi b, vi l] [] h (rI (SKn (d + 30) mX8_street [vr 108, vi kd, vi a, vi b, vi l])) := by
    intro no
    refine yr_aload_n (pq := 38) rfl dX7_street_37 rfl ?_
    refine yr_iconst (pq := 39) rfl dX7_street_38 ?_
    refine yr_vI1 (pq := 42) rfl dX7_street_39 kM_7_66 (by decide) (by decide) cat0 (c_finding (by decide) ?_)
    refine yr_iret dX7_street_42 rfl ?_
    exact r_street (rb_u hI (by decide) (by decide)) i2 hk ha hb hl (fun _ e hf => fd_end hI (by decide) (by decide) hf) (fun q9 => absurd q9 no) (fun q9 => absurd q9 no)
  unfold gdS at bad
  show ClI (d + 30) mX7_street [vr 0, vi kd, vi a, vi b, vi l] h (SKn (d + 30) mX8_street [vr 108, vi kd, vi a, vi b, vi l])
  refine cl_in (al := [vr 0, vi kd, vi a, vi b, vi l]) rfl (Nat.le_of_ble_eq_true rfl) (by simp [vi_cat, vr_cat, vs_cat]) ?_
  refine yr_iload_n (pq := 1) rfl dX7_street_0 rfl ?_
  refine yr_sI1 (pq := 4) rfl dX7_street_1 kM_7_55 (by decide) cat0 (c_isKind hk (fun q1 => ?_) (fun q1 => ?_))
  · refine yr_if_eq (pq := 7) (t := 37) rfl dX7_street_4 rfl (by decide) (fun q9 => absurd q9 (by decide)) (fun _ => ?_)
    refine yr_iload_n (pq := 8) rfl dX7_street_7 rfl ?_
    refine yr_sI1 (pq := 11) rfl dX7_street_8 kM_7_59 (by decide) cat0 (c_isCorner ha (fun q2 => ?_) (fun q2 => ?_))
    · refine yr_if_eq (pq := 14) (t := 37) rfl dX7_street_11 rfl (by decide) (fun q9 => absurd q9 (by decide)) (fun _ => ?_)
      refine yr_iload_n (pq := 15) rfl dX7_street_14 rfl ?_
      refine yr_sI1 (pq := 18) rfl dX7_street_15 kM_7_59 (by decide) cat0 (c_isCorner hb (fun q3 => ?_) (fun q3 => ?_))
      · refine yr_if_eq (pq := 21) (t := 37) rfl dX7_street_18 rfl (by decide) (fun q9 => absurd q9 (by decide)) (fun _ => ?_)
        refine yr_iload_n (pq := 22) rfl dX7_street_21 rfl ?_
        refine yr_iload_n (pq := 23) rfl dX7_street_22 rfl ?_
        refine yr_ic_eq (pq := 26) (t := 37) rfl dX7_street_23 rfl (by omega) (by omega) (fun q4 => ?_) (fun q4 => ?_)
        · exact bad (by omega)
        · refine yr_iload (pq := 28) rfl dX7_street_26 rfl ?_
          refine yr_iconst (pq := 29) rfl dX7_street_28 ?_
          refine yr_bipush (pq := 31) rfl dX7_street_29 rfl ?_
          refine yr_sI3 (pq := 34) rfl dX7_street_31 kM_7_62 (by decide) cat0 (c_isIn hl (by decide) (by decide) (fun q5 => ?_) (fun q5 => ?_))
          · have gd : gdS kd a b l := ⟨q1, q2, q3, q4, q5⟩
            refine yr_if_ne (pq := 37) (t := 43) rfl dX7_street_34 rfl (by decide) (fun _ => ?_) (fun q9 => absurd q9 (by decide))
            refine yr_aload_n (pq := 44) rfl dX7_street_43 rfl ?_
            refine yr_getR (pq := 47) (b := 1) 0 rfl dX7_street_44 kF_7_10 (by decide) rfl ?_
            refine yr_getR (pq := 50) (b := 2) 0 rfl dX7_street_47 kF_7_70 (by decide) rfl ?_
            refine yr_vI0 (pq := 53) rfl dX7_street_50 kM_7_73 (by decide) (tw_c (by decide)) cat0 (c_isFull (N := h 109) (by decide) i1.1.1 h8 (fun q6 => ?_) (fun q6 => ?_))
            · refine yr_if_eq (pq := 56) (t := 62) rfl dX7_street_53 rfl (by decide) (fun q9 => absurd q9 (by decide)) (fun _ => ?_)
              refine yr_aload_n (pq := 57) rfl dX7_street_56 rfl ?_
              refine yr_iconst (pq := 58) rfl dX7_street_57 ?_
              refine yr_vI1 (pq := 61) rfl dX7_street_58 kM_7_66 (by decide) (by decide) cat0 (c_finding (by decide) ?_)
              refine yr_iret dX7_street_61 rfl ?_
              exact r_street (rb_u hI (by decide) (by decide)) i2 hk ha hb hl (fun q9 => absurd gd q9) (fun _ _ e hf => fd_end hI (by decide) (by decide) hf) (fun _ q9 => absurd q9 (by omega))
            · refine yr_if_eq (pq := 56) (t := 62) rfl dX7_street_53 rfl (by decide) (fun _ => ?_) (fun q9 => absurd (by decide) q9)
              refine yr_aload_n (pq := 63) rfl dX7_street_62 rfl ?_
              refine yr_getR (pq := 66) (b := 1) 0 rfl dX7_street_63 kF_7_10 (by decide) rfl ?_
              refine yr_getR (pq := 69) (b := 2) 0 rfl dX7_street_66 kF_7_70 (by decide) rfl ?_
              refine yr_iload_n (pq := 70) rfl dX7_street_69 rfl ?_
              refine yr_iload_n (pq := 71) rfl dX7_street_70 rfl ?_
              refine yr_iload_n (pq := 72) rfl dX7_street_71 rfl ?_
              refine yr_iload (pq := 74) rfl dX7_street_72 rfl ?_
              refine yr_iconst (pq := 75) rfl dX7_street_74 ?_
              refine yr_vI5 (pq := 78) rfl dX7_street_75 kM_7_77 (by decide) (tw_c (by decide)) cat0 (c_add (N := h 109) (by decide) i1.1 i2 q6 (fun f f0 f1 => ?_))
              have e9 : f 109 = h 109 := f0 109 (by decide) (by omega)
              have e8 : f 108 = h 108 := f0 108 (by decide) (by omega)
              refine yr_iret dX7_street_78 rfl ?_
              refine r_street (N := h 109) ⟨e9, by rw [e8]; exact i11⟩ i2 hk ha hb hl (fun q9 => absurd gd q9) (fun _ q9 => absurd q9 (by omega)) (fun _ _ e e0 e1 => ⟨rfl, ?_⟩)
              have lo : ∀ j, j < 53 → j ≠ 8 → addN (h 109) kd a b l 0 j = h 109 j := fun j q1 q2 => addN_lo h8.1 q1 q2
              obtain ⟨r0, r1, r2, r3, r4, r5, r6, r7, r8⟩ := i1
              have o' := addN_ok (u := 0) i2 q6 q1 q2 q3 q4 q5 (by decide)
              refine Inv_row hI ?_ (by rw [e1]; exact o') (by rw [e1]; exact addN_S h8.1 i3) (by rw [e1, lo 50 (by decide) (by decide)]; exact i3') (fun c c1 c2 c3 => ?_) ?_ ?_ ?_
              · rw [e1]
                have f2 : ∀ c, c ≠ 109 → c ≠ 2 → (c < 8 ∨ 22 ≤ c) → e c = h c := fun c c1 c2 c3 => by rw [e0 c c1, f0 c c2 (by omega)]
                refine ⟨RT_cong f1 o' (fun j j0 j1 j2 => e0 _ (by omega)), ?_, ?_, ?_, ?_, ?_, ?_, fun s s0 s1 => ?_, ?_⟩
                · rw [f2 23 (by decide) (by decide) (by decide), lo 45 (by decide) (by decide), lo 46 (by decide) (by decide), lo 47 (by decide) (by decide), lo 48 (by decide) (by decide)]; exact r1
                · rw [f2 22 (by decide) (by decide) (by decide), lo 44 (by decide) (by decide)]; exact r2
                · rw [f2 22 (by decide) (by decide) (by decide), lo 49 (by decide) (by decide)]; exact r3
                · rw [f2 22 (by decide) (by decide) (by decide), lo 50 (by decide) (by decide)]; exact r4
                · rw [f2 22 (by decide) (by decide) (by decide), lo 51 (by decide) (by decide)]; exact r5
                · rw [f2 22 (by decide) (by decide) (by decide), lo 52 (by decide) (by decide)]; exact r6
                · rw [f2 24 (by decide) (by decide) (by decide), lo _ (by omega) (by omega)]; exact r7 s s0 s1
                · rw [f2 1 (by decide) (by decide) (by decide), lo 9 (by decide) (by decide)]; exact r8
              · rw [e0 c c3, f0 c (by omega) (by omega)]
              · rw [e0 108 (by decide), e8]
              · rw [e0 108 (by decide), e8]
              · rw [e0 108 (by decide), e8]
          · refine yr_if_ne (pq := 37) (t := 43) rfl dX7_street_34 rfl (by decide) (fun q9 => absurd (by decide) q9) (fun _ => ?_)
            exact bad (by omega)
      · refine yr_if_eq (pq := 21) (t := 37) rfl dX7_street_18 rfl (by decide) (fun _ => ?_) (fun q9 => absurd (by decide) q9)
        exact bad (by omega)
    · refine yr_if_eq (pq := 14) (t := 37) rfl dX7_street_11 rfl (by decide) (fun _ => ?_) (fun q9 => absurd (by decide) q9)
      exact bad (by omega)
  · refine yr_if_eq (pq := 7) (t := 37) rfl dX7_street_4 rfl (by decide) (fun _ => ?_) (fun q9 => absurd (by decide) q9)
    exact bad (by omega)
end S16
