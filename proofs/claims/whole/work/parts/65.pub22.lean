/-! load, count -/
/-- how many from k on are weather -/
def ldF (r : Int → Int) (k : Int) : Nat → Int
  | 0 => k
  | n + 1 => if 0 ≤ r k ∧ r k ≤ 9 then ldF r (k + 1) n else k
theorem ldF_b (r : Int → Int) : ∀ (n : Nat) (k : Int), k ≤ ldF r k n ∧ ldF r k n ≤ k + n := by
  intro n
  induction n with
  | zero => intro k; rw [ldF]; omega
  | succ n ih =>
    intro k
    rw [ldF]
    have := ih (k + 1)
    split <;> omega
theorem ldF_cong {r q : Int → Int} : ∀ (n : Nat) (k : Int), (∀ j, k ≤ j → j < k + n → r j = q j) → ldF r k n = ldF q k n := by
  intro n
  induction n with
  | zero => intro k _; rfl
  | succ n ih =>
    intro k h
    rw [ldF, ldF, h k (by omega) (by omega), ih (k + 1) (fun j j0 j1 => h j (by omega) (by omega))]
theorem ldF_in (r : Int → Int) : ∀ (n : Nat) (k j : Int), k ≤ j → j < ldF r k n → 0 ≤ r j ∧ r j ≤ 9 := by
  intro n
  induction n with
  | zero => intro k j h1 h2; rw [ldF] at h2; omega
  | succ n ih =>
    intro k j h1 h2
    rw [ldF] at h2
    split at h2
    · rename_i q
      by_cases e : j = k
      · subst e; exact q
      · exact ih (k + 1) j (by omega) h2
    · omega
section S22
variable {d : Nat} {h : hT} {K : Int → hT → Prop}
/-- a row of which the first n numbers are others -/
def LD (a b : Int → Int) (r : Int → Int) (o n : Int) : Prop := (∀ j, o ≤ j → j < o + n → b j = r (j - o)) ∧ ∀ j, (j < o ∨ o + n ≤ j) → b j = a j
theorem LD_s {a b r : Int → Int} {o n : Int} (h : LD a b r o n) (hn : 0 ≤ n) : LD a (ur b (o + n) (r n)) r o (n + 1) := by
  refine ⟨fun j j0 j1 => ?_, fun j hj => ?_⟩
  · by_cases e : j = o + n
    · subst e; rw [ur_s, show o + n - o = n by omega]
    · rw [ur_o e]; exact h.1 j j0 (by omega)
  · rw [ur_o (by omega)]; exact h.2 j (by omega)
theorem r_load {s w z : Int} (hs : -2147483648 ≤ s ∧ s ≤ 2147483647) (ew : (0 ≤ s ∧ s ≤ 3) → h 119 s = w) (ez : (0 ≤ s ∧ s ≤ 3) → h 120 s = z) (hw : -2147483648 ≤ w ∧ w ≤ 2147483647) (hz : 0 ≤ z ∧ z ≤ 40) (hr : (0 ≤ s ∧ s ≤ 3) → ∀ i, 0 ≤ i → i < z → -2147483648 ≤ h 121 (40 * s + i) ∧ h 121 (40 * s + i) ≤ 2147483647) (k0 : ¬ (0 ≤ s ∧ s ≤ 3) → ∀ e, FD (-1000001) h e → K (-1000001) e) (k1 : (0 ≤ s ∧ s ≤ 3) → w = 0 → ∀ e, FD (-1000006) h e → K (-1000006) e)
    (k2 : (0 ≤ s ∧ s ≤ 3) → w ≠ 0 → ∀ e n, n = ldF (fun i => h 121 (40 * s + i)) 0 (min z 12).toNat → (∀ a, a ≠ 109 → e a = h a) → LD (h 109) (e 109) (fun i => h 121 (40 * s + i)) 20 n → K n e) : ClI (d + 3) mX8_load [vr 108, vi s] h K := by
  refine cl_in (al := [vr 108, vi s, .null]) rfl (Nat.le_of_ble_eq_true rfl) (by simp [vi_cat, vr_cat, vs_cat]) ?_
  refine yr_iload_n (pq := 1) rfl dX8_load_0 rfl ?_
  refine yr_sI1 (pq := 4) rfl dX8_load_1 kM_8_341 (by decide) cat0 (m_isSheet hs (fun q1 => ?_) (fun q1 => ?_))
  · have hr := hr q1
    refine yr_if_ne (pq := 7) (t := 14) rfl dX8_load_4 rfl (by decide) (fun _ => ?_) (fun q9 => absurd q9 (by decide))
    refine yr_aload_n (pq := 15) rfl dX8_load_14 rfl ?_
    refine yr_getR (pq := 18) (b := 119) 27 rfl dX8_load_15 kF_8_61 (by decide) rfl ?_
    refine yr_iload_n (pq := 19) rfl dX8_load_18 rfl ?_
    refine yr_iald (pq := 20) rfl dX8_load_19 rfl (by decide) (by omega) ?_
    rw [ew q1]
    refine yr_if_ne (pq := 23) (t := 31) rfl dX8_load_20 rfl (by omega) (fun q2 => ?_) (fun q2 => ?_)
    · have key : ∀ (n : Nat) (i : Int) (g : hT), 0 ≤ i → i + n = min z 12 → ldF (fun i => h 121 (40 * s + i)) i n = ldF (fun i => h 121 (40 * s + i)) 0 (min z 12).toNat → (∀ a, a ≠ 109 → g a = h a) → LD (h 109) (g 109) (fun i => h 121 (40 * s + i)) 20 i → Yr (d + 2) mX8_load 33 [vr 108, vi s, vi i] [] g (rI K) := by
        intro n
        induction n with
        | zero =>
          intro i g hi hn hl g0 g1
          rw [ldF] at hl
          refine yr_iload_n (pq := 34) rfl dX8_load_33 rfl ?_
          refine yr_aload_n (pq := 35) rfl dX8_load_34 rfl ?_
          refine yr_getR (pq := 38) (b := 120) 28 rfl dX8_load_35 kF_8_64 (by decide) rfl ?_
          refine yr_iload_n (pq := 39) rfl dX8_load_38 rfl ?_
          refine yr_iald (pq := 40) rfl dX8_load_39 rfl (by decide) (by omega) ?_
          rw [g0 120 (by decide), ez q1]
          refine yr_ic_ge (pq := 43) (t := 95) rfl dX8_load_40 rfl (by omega) (by omega) (fun q3 => ?_) (fun q3 => ?_)
          · refine yr_iload_n (pq := 96) rfl dX8_load_95 rfl ?_
            exact yr_iret dX8_load_96 rfl (k2 q1 q2 g i hl g0 g1)
          · refine yr_iload_n (pq := 44) rfl dX8_load_43 rfl ?_
            refine yr_bipush (pq := 46) rfl dX8_load_44 rfl ?_
            refine yr_ic_ge (pq := 49) (t := 95) rfl dX8_load_46 rfl (by omega) (by omega) (fun _ => ?_) (fun q9 => absurd (by omega) q9)
            refine yr_iload_n (pq := 96) rfl dX8_load_95 rfl ?_
            exact yr_iret dX8_load_96 rfl (k2 q1 q2 g i hl g0 g1)
        | succ n ih =>
          intro i g hi hn hl g0 g1
          have hri := hr i hi (by omega)
          rw [ldF] at hl
          refine yr_iload_n (pq := 34) rfl dX8_load_33 rfl ?_
          refine yr_aload_n (pq := 35) rfl dX8_load_34 rfl ?_
          refine yr_getR (pq := 38) (b := 120) 28 rfl dX8_load_35 kF_8_64 (by decide) rfl ?_
          refine yr_iload_n (pq := 39) rfl dX8_load_38 rfl ?_
          refine yr_iald (pq := 40) rfl dX8_load_39 rfl (by decide) (by omega) ?_
          rw [g0 120 (by decide), ez q1]
          refine yr_ic_ge (pq := 43) (t := 95) rfl dX8_load_40 rfl (by omega) (by omega) (fun q9 => absurd q9 (by omega)) (fun _ => ?_)
          refine yr_iload_n (pq := 44) rfl dX8_load_43 rfl ?_
          refine yr_bipush (pq := 46) rfl dX8_load_44 rfl ?_
          refine yr_ic_ge (pq := 49) (t := 95) rfl dX8_load_46 rfl (by omega) (by omega) (fun q9 => absurd q9 (by omega)) (fun _ => ?_)
          refine yr_aload_n (pq := 50) rfl dX8_load_49 rfl ?_
          refine yr_getR (pq := 53) (b := 121) 29 rfl dX8_load_50 kF_8_67 (by decide) rfl ?_
          refine yr_bipush (pq := 55) rfl dX8_load_53 rfl ?_
          refine yr_iload_n (pq := 56) rfl dX8_load_55 rfl ?_
          refine yr_imul (pq := 57) rfl dX8_load_56 ?_
          refine yr_iload_n (pq := 58) rfl dX8_load_57 rfl ?_
          refine yr_iadd (pq := 59) rfl dX8_load_58 ?_
          refine yr_iald (pq := 60) rfl dX8_load_59 rfl (by decide) (by omega) ?_
          refine yr_iconst (pq := 61) rfl dX8_load_60 ?_
          refine yr_bipush (pq := 63) rfl dX8_load_61 rfl ?_
          rw [g0 121 (by decide)]
          refine yr_sI3 (pq := 66) rfl dX8_load_63 kM_8_78 (by decide) cat0 (m_within hri (by decide) (by decide) (fun q3 => ?_) (fun q3 => ?_))
          · rw [if_pos q3] at hl
            refine yr_if_eq (pq := 69) (t := 95) rfl dX8_load_66 rfl (by decide) (fun q9 => absurd q9 (by decide)) (fun _ => ?_)
            refine yr_aload_n (pq := 70) rfl dX8_load_69 rfl ?_
            refine yr_getR (pq := 73) (b := 109) 0 rfl dX8_load_70 kF_8_9 (by decide) rfl ?_
            refine yr_bipush (pq := 75) rfl dX8_load_73 rfl ?_
            refine yr_iload_n (pq := 76) rfl dX8_load_75 rfl ?_
            refine yr_iadd (pq := 77) rfl dX8_load_76 ?_
            refine yr_aload_n (pq := 78) rfl dX8_load_77 rfl ?_
            refine yr_getR (pq := 81) (b := 121) 29 rfl dX8_load_78 kF_8_67 (by decide) rfl ?_
            refine yr_bipush (pq := 83) rfl dX8_load_81 rfl ?_
            refine yr_iload_n (pq := 84) rfl dX8_load_83 rfl ?_
            refine yr_imul (pq := 85) rfl dX8_load_84 ?_
            refine yr_iload_n (pq := 86) rfl dX8_load_85 rfl ?_
            refine yr_iadd (pq := 87) rfl dX8_load_86 ?_
            refine yr_iald (pq := 88) rfl dX8_load_87 rfl (by decide) (by omega) ?_
            refine yr_iast (pq := 89) rfl dX8_load_88 rfl (by decide) (by omega) ?_
            refine yr_iinc2 (pq := 92) rfl dX8_load_89 ?_
            refine yr_goto (t := 33) dX8_load_92 rfl ?_
            rw [g0 121 (by decide)]
            refine ih _ _ (by omega) (by omega) hl (fun a ha => by rw [up_ne ha]; exact g0 a ha) ?_
            rw [up_row]
            exact LD_s g1 hi
          · rw [if_neg q3] at hl
            refine yr_if_eq (pq := 69) (t := 95) rfl dX8_load_66 rfl (by decide) (fun _ => ?_) (fun q9 => absurd (by decide) q9)
            refine yr_iload_n (pq := 96) rfl dX8_load_95 rfl ?_
            exact yr_iret dX8_load_96 rfl (k2 q1 q2 g i hl g0 g1)
      refine yr_iconst (pq := 32) rfl dX8_load_31 ?_
      refine yr_istore2 (pq := 33) rfl dX8_load_32 ?_
      exact key (min z 12).toNat 0 h (by omega) (by omega) rfl (fun _ _ => rfl) ⟨fun j j0 j1 => by omega, fun _ _ => rfl⟩
    · refine yr_aload_n (pq := 24) rfl dX8_load_23 rfl ?_
      refine yr_ldc_w (pq := 27) rfl dX8_load_24 kN_8_339 ?_
      refine yr_vI1 (pq := 30) rfl dX8_load_27 kM_8_101 (by decide) (by decide) cat0 (r_fnd (by decide) (fun e hf => ?_))
      exact yr_iret dX8_load_30 rfl (k1 q1 q2 e hf)
  · refine yr_if_ne (pq := 7) (t := 14) rfl dX8_load_4 rfl (by decide) (fun q9 => absurd (by decide) q9) (fun _ => ?_)
    refine yr_aload_n (pq := 8) rfl dX8_load_7 rfl ?_
    refine yr_ldc (pq := 10) rfl dX8_load_8 kN_8_73 ?_
    refine yr_vI1 (pq := 13) rfl dX8_load_10 kM_8_101 (by decide) (by decide) cat0 (r_fnd (by decide) (fun e hf => ?_))
    exact yr_iret dX8_load_13 rfl (k0 q1 e hf)
theorem s_load {s : Int} (hI : Inv h) (hs : -2147483648 ≤ s ∧ s ≤ 2147483647) : Sm (d + 30) mX7_load mX8_load [vi s] h := by
  show ClI (d + 30) mX7_load [vr 0, vi s] h (SKn (d + 30) mX8_load [vr 108, vi s])
  refine cl_in (al := [vr 0, vi s, .null]) rfl (Nat.le_of_ble_eq_true rfl) (by simp [vi_cat, vr_cat, vs_cat]) ?_
  refine yr_iload_n (pq := 1) rfl dX7_load_0 rfl ?_
  refine yr_sI1 (pq := 4) rfl dX7_load_1 kM_7_269 (by decide) cat0 (c_isSheet hs (fun q1 => ?_) (fun q1 => ?_))
  · obtain ⟨o1, o2, o3, o4, o5⟩ := Inv_s hI q1.1 (by omega)
    refine yr_if_ne (pq := 7) (t := 13) rfl dX7_load_4 rfl (by decide) (fun _ => ?_) (fun q9 => absurd q9 (by decide))
    refine yr_aload_n (pq := 14) rfl dX7_load_13 rfl ?_
    refine yr_getR (pq := 17) (b := 98) 6 rfl dX7_load_14 kF_7_46 (by decide) rfl ?_
    refine yr_iload_n (pq := 18) rfl dX7_load_17 rfl ?_
    refine yr_aald (pq := 19) rfl dX7_load_18 (a := 98) (L := 4) rfl (by decide) (by omega) (sq_b (by omega) (by omega)).2 ?_
    refine yr_vI0 (pq := 22) rfl dX7_load_19 kM_7_275 (by decide) (sq_c (sq_b (by omega) (by omega)).1) cat0 (c_isMissing (sq_b (by omega) (by omega)).1 (by omega) (fun q2 => ?_) (fun q2 => ?_))
    · refine yr_if_eq (pq := 25) (t := 31) rfl dX7_load_22 rfl (by decide) (fun q9 => absurd q9 (by decide)) (fun _ => ?_)
      refine yr_aload_n (pq := 26) rfl dX7_load_25 rfl ?_
      refine yr_iconst (pq := 27) rfl dX7_load_26 ?_
      refine yr_vI1 (pq := 30) rfl dX7_load_27 kM_7_66 (by decide) (by decide) cat0 (c_finding (by decide) ?_)
      exact yr_iret dX7_load_30 rfl (r_load (w := h 119 s) (z := h 120 s) hs (fun _ => by rw [up_ne (by decide)]) (fun _ => by rw [up_ne (by decide)]) (by omega) o4 (fun _ i i0 i1 => by rw [up_ne (by decide)]; exact (o5 i i0 i1).2) (fun q9 => absurd q1 q9) (fun _ _ e hf => fd_end hI (by decide) (by decide) hf) (fun _ q9 => absurd (by omega) q9))
    · have fin : ∀ (i : Int) (g : hT), i = ldF (fun i => h (100 + 2 * s + 1) i) 0 (min (h 120 s) 12).toNat → (∀ a, a ≠ 5 → g a = h a) → LD (h 5) (g 5) (fun i => h (100 + 2 * s + 1) i) 0 i → SKn (d + 30) mX8_load [vr 108, vi s] i g := by
        intro i g hi g0 g1
        have hc : ∀ j, 0 ≤ j → j < 0 + ((min (h 120 s) 12).toNat : Int) → h (100 + 2 * s + 1) j = h 121 (40 * s + j) := fun j j0 j1 => (o5 j j0 (by omega)).1
        rw [ldF_cong _ _ hc] at hi
        have hb := ldF_b (fun i => h 121 (40 * s + i)) (min (h 120 s) 12).toNat 0
        have hin := ldF_in (fun i => h 121 (40 * s + i)) (min (h 120 s) 12).toNat 0
        rw [← hi] at hb hin
        refine r_load (w := h 119 s) (z := h 120 s) hs (fun _ => by rw [g0 119 (by decide)]) (fun _ => by rw [g0 120 (by decide)]) (by omega) o4 (fun _ i i0 i1 => by rw [g0 121 (by decide)]; exact (o5 i i0 i1).2) (fun q9 => absurd q1 q9) (fun _ q9 => absurd q9 (by omega)) (fun _ _ e n hn e0 e1 => ?_)
        rw [g0 121 (by decide), ← hi] at hn
        rw [g0 121 (by decide), g0 109 (by decide)] at e1
        subst hn
        refine ⟨rfl, ?_⟩
        have hI0 := hI
        obtain ⟨⟨i1, i2, i3, i3'⟩, -, -, -, -, -, i11⟩ := hI0
        have lo : ∀ j, (j < 20 ∨ 32 ≤ j) → e 109 j = h 109 j := fun j hj => e1.2 j (by omega)
        have w : ∀ a, a ≠ 5 → a ≠ 109 → e a = h a := fun a q1 q2 => by rw [e0 a q2, g0 a q1]
        have hO : okT (e 109) := by
          obtain ⟨u1, u2, u3, u4, u5⟩ := i2
          unfold okT
          rw [lo 8 (by decide)]
          refine ⟨u1, fun c c0 c1 => by rw [lo c (by omega)]; exact u2 c c0 c1, fun j j0 j1 => ?_, fun j j0 j1 => by rw [lo _ (by omega)]; exact u4 j j0 j1, fun t t0 t1 => by rw [lo _ (by omega), lo _ (by omega), lo _ (by omega), lo _ (by omega), lo _ (by omega)]; exact u5 t t0 t1⟩
          by_cases q : j < n
          · rw [e1.1 (20 + j) (by omega) (by omega), show 20 + j - 20 = j by omega]
            exact hin j (by omega) q
          · rw [e1.2 (20 + j) (by omega)]; exact u3 j j0 j1
        obtain ⟨⟨t1, t2, t3, t4, t5⟩, r1, r2, r3, r4, r5, r6, r7, r8⟩ := i1
        refine Inv_row hI ?_ hO (okS_lo i3 (fun j hj => lo j (by omega))) (by rw [lo 50 (by decide)]; exact i3') (fun a q1 q2 q3 => w a (by omega) q3) (by rw [w 108 (by decide) (by decide)]) (by rw [w 108 (by decide) (by decide)]) (by rw [w 108 (by decide) (by decide)])
        · refine ⟨⟨?_, fun c c0 c1 => ?_, fun j j0 j1 => ?_, fun j j0 j1 => ?_, fun t t0 t1 => ?_⟩, ?_, ?_, ?_, ?_, ?_, ?_, fun t t0 t1 => ?_, ?_⟩
          · rw [w 2 (by decide) (by decide), lo 8 (by decide)]; exact t1
          · rw [w (2 + 2) (by decide) (by decide), lo c (by omega)]; exact t2 c c0 c1
          · show e 5 j = e 109 (20 + j)
            rw [e0 5 (by decide)]
            by_cases q : j < n
            · rw [e1.1 (20 + j) (by omega) (by omega), g1.1 j (by omega) (by omega), show 20 + j - 20 = j by omega, show j - 0 = j by omega]
              exact (o5 j j0 (by omega)).1
            · rw [e1.2 (20 + j) (by omega), g1.2 j (by omega)]; exact t3 j j0 j1
          · rw [w (2 + 4) (by decide) (by decide), lo _ (by omega)]; exact t4 j j0 j1
          · rw [lo 8 (by decide)] at t1
            have h8 := i2.1
            rw [w (2 + 6 + t) (by omega) (by omega), lo _ (by omega), lo _ (by omega), lo _ (by omega), lo _ (by omega), lo _ (by omega)]; exact t5 t t0 t1
          · rw [w 23 (by decide) (by decide), lo 45 (by decide), lo 46 (by decide), lo 47 (by decide), lo 48 (by decide)]; exact r1
          · rw [w 22 (by decide) (by decide), lo 44 (by decide)]; exact r2
          · rw [w 22 (by decide) (by decide), lo 49 (by decide)]; exact r3
          · rw [w 22 (by decide) (by decide), lo 50 (by decide)]; exact r4
          · rw [w 22 (by decide) (by decide), lo 51 (by decide)]; exact r5
          · rw [w 22 (by decide) (by decide), lo 52 (by decide)]; exact r6
          · rw [w 24 (by decide) (by decide), lo _ (by omega)]; exact r7 t t0 t1
          · rw [w 1 (by decide) (by decide), lo 9 (by decide)]; exact r8
      have key : ∀ (n : Nat) (i : Int) (g : hT), 0 ≤ i → i + n = min (h 120 s) 12 → ldF (fun i => h (100 + 2 * s + 1) i) i n = ldF (fun i => h (100 + 2 * s + 1) i) 0 (min (h 120 s) 12).toNat → (∀ a, a ≠ 5 → g a = h a) → LD (h 5) (g 5) (fun i => h (100 + 2 * s + 1) i) 0 i → Yr (d + 29) mX7_load 33 [vr 0, vi s, vi i] [] g (rI (SKn (d + 30) mX8_load [vr 108, vi s])) := by
        intro n
        induction n with
        | zero =>
          intro i g hi hn hl g0 g1
          rw [ldF] at hl
          refine yr_iload_n (pq := 34) rfl dX7_load_33 rfl ?_
          refine yr_aload_n (pq := 35) rfl dX7_load_34 rfl ?_
          refine yr_getR (pq := 38) (b := 98) 6 rfl dX7_load_35 kF_7_46 (by decide) rfl ?_
          refine yr_iload_n (pq := 39) rfl dX7_load_38 rfl ?_
          refine yr_aald (pq := 40) rfl dX7_load_39 (a := 98) (L := 4) rfl (by decide) (by omega) (sq_b (by omega) (by omega)).2 ?_
          refine yr_getI (pq := 43) 1 rfl dX7_load_40 kF_7_274 (by decide) rfl (sq_c (sq_b (by omega) (by omega)).1) ?_
          rw [g0 (100 + 2 * s) (by omega), o3]
          refine yr_ic_ge (pq := 46) (t := 101) rfl dX7_load_43 rfl (by omega) (by omega) (fun q3 => ?_) (fun q3 => ?_)
          · refine yr_iload_n (pq := 102) rfl dX7_load_101 rfl ?_
            exact yr_iret dX7_load_102 rfl (fin i g hl g0 g1)
          · refine yr_iload_n (pq := 47) rfl dX7_load_46 rfl ?_
            refine yr_bipush (pq := 49) rfl dX7_load_47 rfl ?_
            refine yr_ic_ge (pq := 52) (t := 101) rfl dX7_load_49 rfl (by omega) (by omega) (fun _ => ?_) (fun q9 => absurd (by omega) q9)
            refine yr_iload_n (pq := 102) rfl dX7_load_101 rfl ?_
            exact yr_iret dX7_load_102 rfl (fin i g hl g0 g1)
        | succ n ih =>
          intro i g hi hn hl g0 g1
          obtain ⟨v1, v2⟩ := o5 i hi (by omega)
          rw [ldF] at hl
          refine yr_iload_n (pq := 34) rfl dX7_load_33 rfl ?_
          refine yr_aload_n (pq := 35) rfl dX7_load_34 rfl ?_
          refine yr_getR (pq := 38) (b := 98) 6 rfl dX7_load_35 kF_7_46 (by decide) rfl ?_
          refine yr_iload_n (pq := 39) rfl dX7_load_38 rfl ?_
          refine yr_aald (pq := 40) rfl dX7_load_39 (a := 98) (L := 4) rfl (by decide) (by omega) (sq_b (by omega) (by omega)).2 ?_
          refine yr_getI (pq := 43) 1 rfl dX7_load_40 kF_7_274 (by decide) rfl (sq_c (sq_b (by omega) (by omega)).1) ?_
          rw [g0 (100 + 2 * s) (by omega), o3]
          refine yr_ic_ge (pq := 46) (t := 101) rfl dX7_load_43 rfl (by omega) (by omega) (fun q9 => absurd q9 (by omega)) (fun _ => ?_)
          refine yr_iload_n (pq := 47) rfl dX7_load_46 rfl ?_
          refine yr_bipush (pq := 49) rfl dX7_load_47 rfl ?_
          refine yr_ic_ge (pq := 52) (t := 101) rfl dX7_load_49 rfl (by omega) (by omega) (fun q9 => absurd q9 (by omega)) (fun _ => ?_)
          refine yr_aload_n (pq := 53) rfl dX7_load_52 rfl ?_
          refine yr_getR (pq := 56) (b := 98) 6 rfl dX7_load_53 kF_7_46 (by decide) rfl ?_
          refine yr_iload_n (pq := 57) rfl dX7_load_56 rfl ?_
          refine yr_aald (pq := 58) rfl dX7_load_57 (a := 98) (L := 4) rfl (by decide) (by omega) (sq_b (by omega) (by omega)).2 ?_
          refine yr_getR (pq := 61) 2 rfl dX7_load_58 kF_7_287 (sq_c (sq_b (by omega) (by omega)).1) (fr_4_2 (sq_b (by omega) (by omega)).1) ?_
          refine yr_iload_n (pq := 62) rfl dX7_load_61 rfl ?_
          refine yr_iald (pq := 63) rfl dX7_load_62 (sq_k1 (sq_b (by omega) (by omega)).1) (sq_n (sq_b (by omega) (by omega)).1 1 (by decide)) (by omega) ?_
          refine yr_iconst (pq := 64) rfl dX7_load_63 ?_
          refine yr_bipush (pq := 66) rfl dX7_load_64 rfl ?_
          rw [g0 (100 + 2 * s + 1) (by omega)]
          refine yr_sI3 (pq := 69) rfl dX7_load_66 kM_7_62 (by decide) cat0 (c_isIn (by rw [v1]; exact v2) (by decide) (by decide) (fun q3 => ?_) (fun q3 => ?_))
          · rw [if_pos q3] at hl
            refine yr_if_eq (pq := 72) (t := 101) rfl dX7_load_69 rfl (by decide) (fun q9 => absurd q9 (by decide)) (fun _ => ?_)
            refine yr_aload_n (pq := 73) rfl dX7_load_72 rfl ?_
            refine yr_getR (pq := 76) (b := 1) 0 rfl dX7_load_73 kF_7_10 (by decide) rfl ?_
            refine yr_getR (pq := 79) (b := 2) 0 rfl dX7_load_76 kF_7_70 (by decide) rfl ?_
            refine yr_getR (pq := 82) 3 rfl dX7_load_79 kF_7_129 (tw_c (by decide)) (fr_6_3 (by decide)) ?_
            refine yr_iload_n (pq := 83) rfl dX7_load_82 rfl ?_
            refine yr_aload_n (pq := 84) rfl dX7_load_83 rfl ?_
            refine yr_getR (pq := 87) (b := 98) 6 rfl dX7_load_84 kF_7_46 (by decide) rfl ?_
            refine yr_iload_n (pq := 88) rfl dX7_load_87 rfl ?_
            refine yr_aald (pq := 89) rfl dX7_load_88 (a := 98) (L := 4) rfl (by decide) (by omega) (sq_b (by omega) (by omega)).2 ?_
            refine yr_getR (pq := 92) 2 rfl dX7_load_89 kF_7_287 (sq_c (sq_b (by omega) (by omega)).1) (fr_4_2 (sq_b (by omega) (by omega)).1) ?_
            refine yr_iload_n (pq := 93) rfl dX7_load_92 rfl ?_
            refine yr_iald (pq := 94) rfl dX7_load_93 (sq_k1 (sq_b (by omega) (by omega)).1) (sq_n (sq_b (by omega) (by omega)).1 1 (by decide)) (by omega) ?_
            refine yr_iast (pq := 95) rfl dX7_load_94 (tw_k3 (by decide)) (tw_n (by decide) 3 (by decide)) (by omega) ?_
            refine yr_iinc2 (pq := 98) rfl dX7_load_95 ?_
            refine yr_goto (t := 33) dX7_load_98 rfl ?_
            rw [g0 (100 + 2 * s + 1) (by omega), show (2 : Int) + 3 = 5 from rfl]
            refine ih _ _ (by omega) (by omega) hl (fun a ha => by rw [up_ne ha]; exact g0 a ha) ?_
            rw [up_row]
            have := LD_s g1 hi
            rw [Int.zero_add] at this
            exact this
          · rw [if_neg q3] at hl
            refine yr_if_eq (pq := 72) (t := 101) rfl dX7_load_69 rfl (by decide) (fun _ => ?_) (fun q9 => absurd (by decide) q9)
            refine yr_iload_n (pq := 102) rfl dX7_load_101 rfl ?_
            exact yr_iret dX7_load_102 rfl (fin i g hl g0 g1)
      refine yr_if_eq (pq := 25) (t := 31) rfl dX7_load_22 rfl (by decide) (fun _ => ?_) (fun q9 => absurd (by decide) q9)
      refine yr_iconst (pq := 32) rfl dX7_load_31 ?_
      refine yr_istore2 (pq := 33) rfl dX7_load_32 ?_
      exact key (min (h 120 s) 12).toNat 0 h (by omega) (by omega) rfl (fun _ _ => rfl) ⟨fun j j0 j1 => by omega, fun _ _ => rfl⟩
  · refine yr_if_ne (pq := 7) (t := 13) rfl dX7_load_4 rfl (by decide) (fun q9 => absurd (by decide) q9) (fun _ => ?_)
    refine yr_aload_n (pq := 8) rfl dX7_load_7 rfl ?_
    refine yr_iconst (pq := 9) rfl dX7_load_8 ?_
    refine yr_vI1 (pq := 12) rfl dX7_load_9 kM_7_66 (by decide) (by decide) cat0 (c_finding (by decide) ?_)
    exact yr_iret dX7_load_12 rfl (r_load (w := 0) (z := 0) hs (fun q9 => absurd q9 q1) (fun q9 => absurd q9 q1) (by decide) (by decide) (fun q9 => absurd q9 q1) (fun _ e hf => fd_end hI (by decide) (by decide) hf) (fun q9 => absurd q9 q1) (fun q9 => absurd q9 q1))
theorem s_count {k : Int} (hI : Inv h) (hk : -2147483648 ≤ k ∧ k ≤ 2147483647) : Sm (d + 30) mX7_count mX8_count [vi k] h := by
  have hI0 := hI
  obtain ⟨⟨i1, i2, i3, i3'⟩, -, -, -, i9, -, i11⟩ := hI0
  have h8 := i2.1
  have p58 : ∀ (m : Nat) (i acc z : Int), 0 ≤ i → i + m = h 109 8 → sumA (takesF (h 109)) acc i m = z → Yr (d + 29) mX8_count 58 [vr 108, vi k, vi acc, vi i] [] h (rI (fun r2 h2 => r2 = z ∧ Inv h2)) := by
    intro m
    induction m with
    | zero =>
      intro i acc z hi hm hz
      rw [sumA] at hz
      refine yr_iload_n (pq := 59) rfl dX8_count_58 rfl ?_
      refine yr_aload_n (pq := 60) rfl dX8_count_59 rfl ?_
      refine yr_getR (pq := 63) (b := 109) 0 rfl dX8_count_60 kF_8_9 (by decide) rfl ?_
      refine yr_bipush (pq := 65) rfl dX8_count_63 rfl ?_
      refine yr_iald (pq := 66) rfl dX8_count_65 rfl (by decide) (by omega) ?_
      refine yr_ic_ge (pq := 69) (t := 83) rfl dX8_count_66 rfl (by omega) (by omega) (fun _ => ?_) (fun q9 => absurd (by omega) q9)
      refine yr_iload_n (pq := 84) rfl dX8_count_83 rfl ?_
      exact yr_iret dX8_count_84 rfl (⟨hz, hI⟩)
    | succ m ih =>
      intro i acc z hi hm hz
      rw [sumA] at hz
      refine yr_iload_n (pq := 59) rfl dX8_count_58 rfl ?_
      refine yr_aload_n (pq := 60) rfl dX8_count_59 rfl ?_
      refine yr_getR (pq := 63) (b := 109) 0 rfl dX8_count_60 kF_8_9 (by decide) rfl ?_
      refine yr_bipush (pq := 65) rfl dX8_count_63 rfl ?_
      refine yr_iald (pq := 66) rfl dX8_count_65 rfl (by decide) (by omega) ?_
      refine yr_ic_ge (pq := 69) (t := 83) rfl dX8_count_66 rfl (by omega) (by omega) (fun q9 => absurd q9 (by omega)) (fun _ => ?_)
      refine yr_iload_n (pq := 70) rfl dX8_count_69 rfl ?_
      refine yr_aload_n (pq := 71) rfl dX8_count_70 rfl ?_
      refine yr_iload_n (pq := 72) rfl dX8_count_71 rfl ?_
      refine yr_vI1 (pq := 75) rfl dX8_count_72 kM_8_126 (by decide) (by decide) (Nat.le_of_ble_eq_true rfl) (m_takes i2 hi (by omega) ?_)
      refine yr_iadd (pq := 76) rfl dX8_count_75 ?_
      refine yr_istore2 (pq := 77) rfl dX8_count_76 ?_
      refine yr_iinc3 (pq := 80) rfl dX8_count_77 ?_
      refine yr_goto (t := 58) dX8_count_80 rfl ?_
      exact ih _ _ z (by omega) (by omega) hz
  have p87 : ∀ (m : Nat) (i acc z : Int), 0 ≤ i → i + m = h 109 8 → sumA (fun s => h 109 (53 + 5 * s + 4)) acc i m = z → Yr (d + 29) mX8_count 87 [vr 108, vi k, vi acc, vi i] [] h (rI (fun r2 h2 => r2 = z ∧ Inv h2)) := by
    intro m
    induction m with
    | zero =>
      intro i acc z hi hm hz
      rw [sumA] at hz
      refine yr_iload_n (pq := 88) rfl dX8_count_87 rfl ?_
      refine yr_aload_n (pq := 89) rfl dX8_count_88 rfl ?_
      refine yr_getR (pq := 92) (b := 109) 0 rfl dX8_count_89 kF_8_9 (by decide) rfl ?_
      refine yr_bipush (pq := 94) rfl dX8_count_92 rfl ?_
      refine yr_iald (pq := 95) rfl dX8_count_94 rfl (by decide) (by omega) ?_
      refine yr_ic_ge (pq := 98) (t := 113) rfl dX8_count_95 rfl (by omega) (by omega) (fun _ => ?_) (fun q9 => absurd (by omega) q9)
      refine yr_iload_n (pq := 114) rfl dX8_count_113 rfl ?_
      exact yr_iret dX8_count_114 rfl (⟨hz, hI⟩)
    | succ m ih =>
      intro i acc z hi hm hz
      rw [sumA] at hz
      refine yr_iload_n (pq := 88) rfl dX8_count_87 rfl ?_
      refine yr_aload_n (pq := 89) rfl dX8_count_88 rfl ?_
      refine yr_getR (pq := 92) (b := 109) 0 rfl dX8_count_89 kF_8_9 (by decide) rfl ?_
      refine yr_bipush (pq := 94) rfl dX8_count_92 rfl ?_
      refine yr_iald (pq := 95) rfl dX8_count_94 rfl (by decide) (by omega) ?_
      refine yr_ic_ge (pq := 98) (t := 113) rfl dX8_count_95 rfl (by omega) (by omega) (fun q9 => absurd q9 (by omega)) (fun _ => ?_)
      refine yr_iload_n (pq := 99) rfl dX8_count_98 rfl ?_
      refine yr_aload_n (pq := 100) rfl dX8_count_99 rfl ?_
      refine yr_iload_n (pq := 101) rfl dX8_count_100 rfl ?_
      refine yr_iconst (pq := 102) rfl dX8_count_101 ?_
      refine yr_vI2 (pq := 105) rfl dX8_count_102 kM_8_113 (by decide) (by decide) (Nat.le_of_ble_eq_true rfl) (m_streetIs (by omega) (by decide) ?_)
      refine yr_iadd (pq := 106) rfl dX8_count_105 ?_
      refine yr_istore2 (pq := 107) rfl dX8_count_106 ?_
      refine yr_iinc3 (pq := 110) rfl dX8_count_107 ?_
      refine yr_goto (t := 87) dX8_count_110 rfl ?_
      exact ih _ _ z (by omega) (by omega) hz
  have p148 : ∀ (m : Nat) (i acc z : Int), 0 ≤ i → i + m = 10 → sumA (fun s => if h 109 (10 + s) < 0 then 0 else 1) acc i m = z → Yr (d + 29) mX8_count 148 [vr 108, vi k, vi acc, vi i] [] h (rI (fun r2 h2 => r2 = z ∧ Inv h2)) := by
    intro m
    induction m with
    | zero =>
      intro i acc z hi hm hz
      rw [sumA] at hz
      refine yr_iload_n (pq := 149) rfl dX8_count_148 rfl ?_
      refine yr_bipush (pq := 151) rfl dX8_count_149 rfl ?_
      refine yr_ic_ge (pq := 154) (t := 180) rfl dX8_count_151 rfl (by omega) (by omega) (fun _ => ?_) (fun q9 => absurd (by omega) q9)
      refine yr_iload_n (pq := 181) rfl dX8_count_180 rfl ?_
      exact yr_iret dX8_count_181 rfl (⟨hz, hI⟩)
    | succ m ih =>
      intro i acc z hi hm hz
      have a6 := i3.2.2.2.2.2 i hi (by omega)
      rw [sumA] at hz
      refine yr_iload_n (pq := 149) rfl dX8_count_148 rfl ?_
      refine yr_bipush (pq := 151) rfl dX8_count_149 rfl ?_
      refine yr_ic_ge (pq := 154) (t := 180) rfl dX8_count_151 rfl (by omega) (by omega) (fun q9 => absurd q9 (by omega)) (fun _ => ?_)
      refine yr_iload_n (pq := 155) rfl dX8_count_154 rfl ?_
      refine yr_aload_n (pq := 156) rfl dX8_count_155 rfl ?_
      refine yr_getR (pq := 159) (b := 109) 0 rfl dX8_count_156 kF_8_9 (by decide) rfl ?_
      refine yr_bipush (pq := 161) rfl dX8_count_159 rfl ?_
      refine yr_iload_n (pq := 162) rfl dX8_count_161 rfl ?_
      refine yr_iadd (pq := 163) rfl dX8_count_162 ?_
      refine yr_iald (pq := 164) rfl dX8_count_163 rfl (by decide) (by omega) ?_
      refine yr_if_ge (pq := 167) (t := 171) rfl dX8_count_164 rfl (by omega) (fun q => ?_) (fun q => ?_)
      · rw [if_neg (by omega)] at hz
        refine yr_iconst (pq := 172) rfl dX8_count_171 ?_
        refine yr_iadd (pq := 173) rfl dX8_count_172 ?_
        refine yr_istore2 (pq := 174) rfl dX8_count_173 ?_
        refine yr_iinc3 (pq := 177) rfl dX8_count_174 ?_
        refine yr_goto (t := 148) dX8_count_177 rfl ?_
        exact ih _ _ z (by omega) (by omega) hz
      · rw [if_pos (by omega)] at hz
        refine yr_iconst (pq := 168) rfl dX8_count_167 ?_
        refine yr_goto (t := 172) dX8_count_168 rfl ?_
        refine yr_iadd (pq := 173) rfl dX8_count_172 ?_
        refine yr_istore2 (pq := 174) rfl dX8_count_173 ?_
        refine yr_iinc3 (pq := 177) rfl dX8_count_174 ?_
        refine yr_goto (t := 148) dX8_count_177 rfl ?_
        exact ih _ _ z (by omega) (by omega) hz
  show ClI (d + 30) mX7_count [vr 0, vi k] h (SKn (d + 30) mX8_count [vr 108, vi k])
  refine cl_in (al := [vr 0, vi k]) rfl (Nat.le_of_ble_eq_true rfl) (by simp [vi_cat, vr_cat, vs_cat]) ?_
  refine yr_iload_n (pq := 1) rfl dX7_count_0 rfl ?_
  have h10 : k = 0 ∨ k = 1 ∨ k = 2 ∨ k = 3 ∨ k = 4 ∨ k = 5 ∨ k = 6 ∨ k = 7 ∨ ¬ (0 ≤ k ∧ k ≤ 7) := by omega
  rcases h10 with e | e | e | e | e | e | e | e | e
  · subst e
    refine yr_tab (t := 48) dX7_count_1 (by omega) (by omega) (by omega) rfl rfl ?_
    refine yr_aload_n (pq := 49) rfl dX7_count_48 rfl ?_
    refine yr_getR (pq := 52) (b := 1) 0 rfl dX7_count_49 kF_7_10 (by decide) rfl ?_
    refine yr_getR (pq := 55) (b := 2) 0 rfl dX7_count_52 kF_7_70 (by decide) rfl ?_
    refine yr_getI (pq := 58) 1 rfl dX7_count_55 kF_7_231 (by decide) rfl (tw_c (by decide)) ?_
    refine yr_iret dX7_count_58 rfl ?_
    show ClI (d + 30) mX8_count [vr 108, vi 0] _ _
    refine cl_in (al := [vr 108, vi 0, .null, .null]) rfl (Nat.le_of_ble_eq_true rfl) (by simp [vi_cat, vr_cat, vs_cat]) ?_
    refine yr_iconst (pq := 1) rfl dX8_count_0 ?_
    refine yr_istore2 (pq := 2) rfl dX8_count_1 ?_
    refine yr_iload_n (pq := 3) rfl dX8_count_2 rfl ?_
    refine yr_tab (t := 48) dX8_count_3 (by omega) (by omega) (by omega) rfl rfl ?_
    refine yr_aload_n (pq := 49) rfl dX8_count_48 rfl ?_
    refine yr_getR (pq := 52) (b := 109) 0 rfl dX8_count_49 kF_8_9 (by decide) rfl ?_
    refine yr_bipush (pq := 54) rfl dX8_count_52 rfl ?_
    refine yr_iald (pq := 55) rfl dX8_count_54 rfl (by decide) (by omega) ?_
    exact yr_iret dX8_count_55 rfl (⟨i1.1.1.symm, hI⟩)
  · subst e
    refine yr_tab (t := 59) dX7_count_1 (by omega) (by omega) (by omega) rfl rfl ?_
    refine yr_aload_n (pq := 60) rfl dX7_count_59 rfl ?_
    refine yr_getR (pq := 63) (b := 1) 0 rfl dX7_count_60 kF_7_10 (by decide) rfl ?_
    refine yr_getR (pq := 66) (b := 2) 0 rfl dX7_count_63 kF_7_70 (by decide) rfl ?_
    refine yr_vI0 (pq := 69) rfl dX7_count_66 kM_7_302 (by decide) (tw_c (by decide)) cat0 (c_takesOfAll (N := h 109) (by decide) i1.1 i2 ?_)
    refine yr_iret dX7_count_69 rfl ?_
    show ClI (d + 30) mX8_count [vr 108, vi 1] _ _
    refine cl_in (al := [vr 108, vi 1, .null, .null]) rfl (Nat.le_of_ble_eq_true rfl) (by simp [vi_cat, vr_cat, vs_cat]) ?_
    refine yr_iconst (pq := 1) rfl dX8_count_0 ?_
    refine yr_istore2 (pq := 2) rfl dX8_count_1 ?_
    refine yr_iload_n (pq := 3) rfl dX8_count_2 rfl ?_
    refine yr_tab (t := 56) dX8_count_3 (by omega) (by omega) (by omega) rfl rfl ?_
    refine yr_iconst (pq := 57) rfl dX8_count_56 ?_
    refine yr_istore3 (pq := 58) rfl dX8_count_57 ?_
    exact p58 (h 109 8).toNat 0 0 _ (by omega) (by omega) rfl
  · subst e
    refine yr_tab (t := 70) dX7_count_1 (by omega) (by omega) (by omega) rfl rfl ?_
    refine yr_aload_n (pq := 71) rfl dX7_count_70 rfl ?_
    refine yr_getR (pq := 74) (b := 1) 0 rfl dX7_count_71 kF_7_10 (by decide) rfl ?_
    refine yr_getR (pq := 77) (b := 2) 0 rfl dX7_count_74 kF_7_70 (by decide) rfl ?_
    refine yr_vI0 (pq := 80) rfl dX7_count_77 kM_7_305 (by decide) (tw_c (by decide)) cat0 (c_umbrellas (N := h 109) (by decide) i1.1 i2 ?_)
    refine yr_iret dX7_count_80 rfl ?_
    show ClI (d + 30) mX8_count [vr 108, vi 2] _ _
    refine cl_in (al := [vr 108, vi 2, .null, .null]) rfl (Nat.le_of_ble_eq_true rfl) (by simp [vi_cat, vr_cat, vs_cat]) ?_
    refine yr_iconst (pq := 1) rfl dX8_count_0 ?_
    refine yr_istore2 (pq := 2) rfl dX8_count_1 ?_
    refine yr_iload_n (pq := 3) rfl dX8_count_2 rfl ?_
    refine yr_tab (t := 85) dX8_count_3 (by omega) (by omega) (by omega) rfl rfl ?_
    refine yr_iconst (pq := 86) rfl dX8_count_85 ?_
    refine yr_istore3 (pq := 87) rfl dX8_count_86 ?_
    exact p87 (h 109 8).toNat 0 0 _ (by omega) (by omega) rfl
  · subst e
    refine yr_tab (t := 81) dX7_count_1 (by omega) (by omega) (by omega) rfl rfl ?_
    refine yr_aload_n (pq := 82) rfl dX7_count_81 rfl ?_
    refine yr_getR (pq := 85) (b := 1) 0 rfl dX7_count_82 kF_7_10 (by decide) rfl ?_
    refine yr_getR (pq := 88) (b := 2) 0 rfl dX7_count_85 kF_7_70 (by decide) rfl ?_
    refine yr_getR (pq := 91) 3 rfl dX7_count_88 kF_7_129 (tw_c (by decide)) (fr_6_3 (by decide)) ?_
    refine yr_sI1 (pq := 94) rfl dX7_count_91 kM_7_241 (by decide) cat0 (c_sumOf (L := 12) rfl (by decide) (by decide) ?_)
    refine yr_iret dX7_count_94 rfl ?_
    show ClI (d + 30) mX8_count [vr 108, vi 3] _ _
    refine cl_in (al := [vr 108, vi 3, .null, .null]) rfl (Nat.le_of_ble_eq_true rfl) (by simp [vi_cat, vr_cat, vs_cat]) ?_
    refine yr_iconst (pq := 1) rfl dX8_count_0 ?_
    refine yr_istore2 (pq := 2) rfl dX8_count_1 ?_
    refine yr_iload_n (pq := 3) rfl dX8_count_2 rfl ?_
    refine yr_tab (t := 115) dX8_count_3 (by omega) (by omega) (by omega) rfl rfl ?_
    refine yr_aload_n (pq := 116) rfl dX8_count_115 rfl ?_
    refine yr_bipush (pq := 118) rfl dX8_count_116 rfl ?_
    refine yr_bipush (pq := 120) rfl dX8_count_118 rfl ?_
    refine yr_vI2 (pq := 123) rfl dX8_count_120 kM_8_246 (by decide) (by decide) cat0 (m_sum (by decide) (by decide) (by decide) ?_)
    exact yr_iret dX8_count_123 rfl (⟨sumA_cong _ _ _ (fun j j0 j1 => (i1.1.2.2.1 j j0 (by omega)).symm), hI⟩)
  · subst e
    refine yr_tab (t := 95) dX7_count_1 (by omega) (by omega) (by omega) rfl rfl ?_
    refine yr_aload_n (pq := 96) rfl dX7_count_95 rfl ?_
    refine yr_getR (pq := 99) (b := 1) 0 rfl dX7_count_96 kF_7_10 (by decide) rfl ?_
    refine yr_getR (pq := 102) (b := 2) 0 rfl dX7_count_99 kF_7_70 (by decide) rfl ?_
    refine yr_getR (pq := 105) 4 rfl dX7_count_102 kF_7_132 (tw_c (by decide)) (fr_6_4 (by decide)) ?_
    refine yr_sI1 (pq := 108) rfl dX7_count_105 kM_7_241 (by decide) cat0 (c_sumOf (L := 12) rfl (by decide) (by decide) ?_)
    refine yr_iret dX7_count_108 rfl ?_
    show ClI (d + 30) mX8_count [vr 108, vi 4] _ _
    refine cl_in (al := [vr 108, vi 4, .null, .null]) rfl (Nat.le_of_ble_eq_true rfl) (by simp [vi_cat, vr_cat, vs_cat]) ?_
    refine yr_iconst (pq := 1) rfl dX8_count_0 ?_
    refine yr_istore2 (pq := 2) rfl dX8_count_1 ?_
    refine yr_iload_n (pq := 3) rfl dX8_count_2 rfl ?_
    refine yr_tab (t := 124) dX8_count_3 (by omega) (by omega) (by omega) rfl rfl ?_
    refine yr_aload_n (pq := 125) rfl dX8_count_124 rfl ?_
    refine yr_bipush (pq := 127) rfl dX8_count_125 rfl ?_
    refine yr_bipush (pq := 129) rfl dX8_count_127 rfl ?_
    refine yr_vI2 (pq := 132) rfl dX8_count_129 kM_8_246 (by decide) (by decide) cat0 (m_sum (by decide) (by decide) (by decide) ?_)
    exact yr_iret dX8_count_132 rfl (⟨sumA_cong _ _ _ (fun j j0 j1 => (i1.1.2.2.2.1 j j0 (by omega)).symm), hI⟩)
  · subst e
    refine yr_tab (t := 109) dX7_count_1 (by omega) (by omega) (by omega) rfl rfl ?_
    refine yr_aload_n (pq := 110) rfl dX7_count_109 rfl ?_
    refine yr_getR (pq := 113) (b := 76) 5 rfl dX7_count_110 kF_7_40 (by decide) rfl ?_
    refine yr_getI (pq := 116) 1 rfl dX7_count_113 kF_7_254 (by decide) rfl (by decide) ?_
    refine yr_iret dX7_count_116 rfl ?_
    show ClI (d + 30) mX8_count [vr 108, vi 5] _ _
    refine cl_in (al := [vr 108, vi 5, .null, .null]) rfl (Nat.le_of_ble_eq_true rfl) (by simp [vi_cat, vr_cat, vs_cat]) ?_
    refine yr_iconst (pq := 1) rfl dX8_count_0 ?_
    refine yr_istore2 (pq := 2) rfl dX8_count_1 ?_
    refine yr_iload_n (pq := 3) rfl dX8_count_2 rfl ?_
    refine yr_tab (t := 133) dX8_count_3 (by omega) (by omega) (by omega) rfl rfl ?_
    refine yr_aload_n (pq := 134) rfl dX8_count_133 rfl ?_
    refine yr_getI (pq := 137) 16 rfl dX8_count_134 kF_8_252 (by decide) rfl (by decide) ?_
    exact yr_iret dX8_count_137 rfl (⟨i9.1.symm, hI⟩)
  · subst e
    refine yr_tab (t := 117) dX7_count_1 (by omega) (by omega) (by omega) rfl rfl ?_
    refine yr_aload_n (pq := 118) rfl dX7_count_117 rfl ?_
    refine yr_getR (pq := 121) (b := 1) 0 rfl dX7_count_118 kF_7_10 (by decide) rfl ?_
    refine yr_getI (pq := 124) 3 rfl dX7_count_121 kF_7_251 (by decide) rfl (by decide) ?_
    refine yr_iret dX7_count_124 rfl ?_
    show ClI (d + 30) mX8_count [vr 108, vi 6] _ _
    refine cl_in (al := [vr 108, vi 6, .null, .null]) rfl (Nat.le_of_ble_eq_true rfl) (by simp [vi_cat, vr_cat, vs_cat]) ?_
    refine yr_iconst (pq := 1) rfl dX8_count_0 ?_
    refine yr_istore2 (pq := 2) rfl dX8_count_1 ?_
    refine yr_iload_n (pq := 3) rfl dX8_count_2 rfl ?_
    refine yr_tab (t := 138) dX8_count_3 (by omega) (by omega) (by omega) rfl rfl ?_
    refine yr_aload_n (pq := 139) rfl dX8_count_138 rfl ?_
    refine yr_getR (pq := 142) (b := 109) 0 rfl dX8_count_139 kF_8_9 (by decide) rfl ?_
    refine yr_bipush (pq := 144) rfl dX8_count_142 rfl ?_
    refine yr_iald (pq := 145) rfl dX8_count_144 rfl (by decide) (by omega) ?_
    exact yr_iret dX8_count_145 rfl (⟨i1.2.2.2.2.2.2.2.2.symm, hI⟩)
  · subst e
    refine yr_tab (t := 125) dX7_count_1 (by omega) (by omega) (by omega) rfl rfl ?_
    refine yr_aload_n (pq := 126) rfl dX7_count_125 rfl ?_
    refine yr_getR (pq := 129) (b := 1) 0 rfl dX7_count_126 kF_7_10 (by decide) rfl ?_
    refine yr_vI0 (pq := 132) rfl dX7_count_129 kM_7_308 (by decide) (by decide) cat0 (c_spotsHeld (N := h 109) i1.2.2.2.2.2.2.2.1 (fun s s0 s1 => by have := i3.2.2.2.2.2 s s0 s1; omega) ?_)
    refine yr_iret dX7_count_132 rfl ?_
    show ClI (d + 30) mX8_count [vr 108, vi 7] _ _
    refine cl_in (al := [vr 108, vi 7, .null, .null]) rfl (Nat.le_of_ble_eq_true rfl) (by simp [vi_cat, vr_cat, vs_cat]) ?_
    refine yr_iconst (pq := 1) rfl dX8_count_0 ?_
    refine yr_istore2 (pq := 2) rfl dX8_count_1 ?_
    refine yr_iload_n (pq := 3) rfl dX8_count_2 rfl ?_
    refine yr_tab (t := 146) dX8_count_3 (by omega) (by omega) (by omega) rfl rfl ?_
    refine yr_iconst (pq := 147) rfl dX8_count_146 ?_
    refine yr_istore3 (pq := 148) rfl dX8_count_147 ?_
    exact p148 10 0 0 _ (by omega) (by omega) rfl
  · refine yr_tabO (t := 133) dX7_count_1 (by omega) (by omega) rfl ?_
    refine yr_aload_n (pq := 134) rfl dX7_count_133 rfl ?_
    refine yr_iconst (pq := 135) rfl dX7_count_134 ?_
    refine yr_vI1 (pq := 138) rfl dX7_count_135 kM_7_66 (by decide) (by decide) cat0 (c_finding (by decide) ?_)
    refine yr_iret dX7_count_138 rfl ?_
    show ClI (d + 30) mX8_count [vr 108, vi k] _ _
    refine cl_in (al := [vr 108, vi k, .null, .null]) rfl (Nat.le_of_ble_eq_true rfl) (by simp [vi_cat, vr_cat, vs_cat]) ?_
    refine yr_iconst (pq := 1) rfl dX8_count_0 ?_
    refine yr_istore2 (pq := 2) rfl dX8_count_1 ?_
    refine yr_iload_n (pq := 3) rfl dX8_count_2 rfl ?_
    refine yr_tabO (t := 182) dX8_count_3 (by omega) (by omega) rfl ?_
    refine yr_aload_n (pq := 183) rfl dX8_count_182 rfl ?_
    refine yr_ldc (pq := 185) rfl dX8_count_183 kN_8_73 ?_
    refine yr_vI1 (pq := 188) rfl dX8_count_185 kM_8_101 (by decide) (by decide) cat0 (r_fnd (by decide) (fun e hf => ?_))
    exact yr_iret dX8_count_188 rfl (fd_end hI (by decide) (by decide) hf)
end S22
