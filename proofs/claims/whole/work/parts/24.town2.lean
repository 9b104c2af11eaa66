/-! the class's town, further -/
def ur (f : Int → Int) (k z : Int) : Int → Int := fun j => if j = k then z else f j
theorem ur_s (f : Int → Int) (k z : Int) : ur f k z k = z := by simp [ur]
theorem ur_o {f : Int → Int} {k z j : Int} (q : j ≠ k) : ur f k z j = f j := by simp [ur, q]
theorem up_row (h : hT) (a k z : Int) : up h a k z a = ur (h a) k z := by
  funext j
  simp [up, ur]
theorem up_ne {h : hT} {a k z b : Int} (q : b ≠ a) : up h a k z b = h b := by
  funext j
  simp [up, q]
theorem st_ne {T s a : Int} {L : Nat} (hT : tw T) (h0 : 0 ≤ s) (h1 : s < 14) (hA : am_kd a.toNat = (0, L)) : T + 6 + s ≠ a := by
  intro e
  have := (st_c hT h0 h1).2.2
  rw [e, hA] at this
  exact absurd this (by simp only; omega)
theorem tw_ne {T a : Int} {L : Nat} (hT : tw T) (hA : am_kd a.toNat = (0, L)) : T ≠ a := by
  intro e
  have := (tw_c hT).2.2
  rw [e, hA] at this
  exact absurd this (by simp only; omega)
section CU
variable {d : Nat} {h : hT} {K : Int → hT → Prop} {KV : hT → Prop} {T : Int} {N : Int → Int}
theorem c_sumAlong {a pl m n : Int} {L : Nat} (hA : am_kd a.toNat = (0, L)) (h0 : 0 ≤ a) (hp : 0 ≤ pl ∧ pl + 12 ≤ (L : Int)) (hm : 0 ≤ m ∧ m ≤ 10000) (hn : 0 ≤ n ∧ n ≤ 1000) (k : K (sumM (fun i => h a (pl + i)) m n.toNat) h) : ClI (d + 2) mX6_sumAlong [vr a, vi pl, vi m, vi n] h K := by
  have key : ∀ (c : Nat) (sp x acc : Int), 0 ≤ sp → sp + c = 12 → 0 ≤ x → x ≤ m + n → (x < m + n → sp ≤ 11 ∧ 20 * sp ≤ x ∧ (sp < 11 → x < 20 * sp + 20)) → K (acc + sumM (fun i => h a (pl + i)) x (m + n - x).toNat) h → ∀ w, Yr (d + 1) mX6_sumAlong 22 [vr a, vi pl, vi m, vi n, vi (m + n), vi x, vi acc, vi sp, w] [] h (rI K) := by
    intro c
    induction c with
    | zero =>
      intro sp x acc h1 h2 h3 h4 h5 kk w
      have hx : m + n - x = 0 := by omega
      rw [hx] at kk
      refine yr_iload (pq := 24) rfl dX6_sumAlong_22 rfl ?_
      refine yr_bipush (pq := 26) rfl dX6_sumAlong_24 rfl ?_
      refine yr_ic_ge (pq := 29) (t := 89) rfl dX6_sumAlong_26 rfl (by omega) (by omega) (fun _ => ?_) (fun q9 => absurd (by omega) q9)
      refine yr_iload (pq := 91) rfl dX6_sumAlong_89 rfl ?_
      have e : acc = acc + sumM (fun i => h a (pl + i)) x (0 : Int).toNat := by simp [sumM]
      rw [e]
      exact yr_iret dX6_sumAlong_91 rfl (kk)
    | succ c ih =>
      intro sp x acc h1 h2 h3 h4 h5 kk w
      refine yr_iload (pq := 24) rfl dX6_sumAlong_22 rfl ?_
      refine yr_bipush (pq := 26) rfl dX6_sumAlong_24 rfl ?_
      refine yr_ic_ge (pq := 29) (t := 89) rfl dX6_sumAlong_26 rfl (by omega) (by omega) (fun q9 => absurd q9 (by omega)) (fun _ => ?_)
      refine yr_iload (pq := 31) rfl dX6_sumAlong_29 rfl ?_
      refine yr_iload (pq := 33) rfl dX6_sumAlong_31 rfl ?_
      refine yr_ic_ge (pq := 36) (t := 89) rfl dX6_sumAlong_33 rfl (by omega) (by omega) (fun q => ?_) (fun q => ?_)
      · have hx : m + n - x = 0 := by omega
        rw [hx] at kk
        refine yr_iload (pq := 91) rfl dX6_sumAlong_89 rfl ?_
        have e : acc = acc + sumM (fun i => h a (pl + i)) x (0 : Int).toNat := by simp [sumM]
        rw [e]
        exact yr_iret dX6_sumAlong_91 rfl (kk)
      · have h5 := h5 (by omega)
        refine yr_iload (pq := 38) rfl dX6_sumAlong_36 rfl ?_
        refine yr_bipush (pq := 40) rfl dX6_sumAlong_38 rfl ?_
        refine yr_ic_ge (pq := 43) (t := 58) rfl dX6_sumAlong_40 rfl (by omega) (by omega) (fun q2 => ?_) (fun q2 => ?_)
        · refine yr_iload (pq := 60) rfl dX6_sumAlong_58 rfl ?_
          refine yr_istore8 (pq := 62) rfl dX6_sumAlong_60 ?_
          refine yr_iload (pq := 64) rfl dX6_sumAlong_62 rfl ?_
          refine yr_iload (pq := 66) rfl dX6_sumAlong_64 rfl ?_
          refine yr_iload (pq := 68) rfl dX6_sumAlong_66 rfl ?_
          refine yr_isub (pq := 69) rfl dX6_sumAlong_68 ?_
          refine yr_aload_n (pq := 70) rfl dX6_sumAlong_69 rfl ?_
          refine yr_iload_n (pq := 71) rfl dX6_sumAlong_70 rfl ?_
          refine yr_iload (pq := 73) rfl dX6_sumAlong_71 rfl ?_
          refine yr_iadd (pq := 74) rfl dX6_sumAlong_73 ?_
          refine yr_iald (pq := 75) rfl dX6_sumAlong_74 hA h0 (by omega) ?_
          refine yr_imul (pq := 76) rfl dX6_sumAlong_75 ?_
          refine yr_iadd (pq := 77) rfl dX6_sumAlong_76 ?_
          refine yr_istore6 (pq := 79) rfl dX6_sumAlong_77 ?_
          refine yr_iload (pq := 81) rfl dX6_sumAlong_79 rfl ?_
          refine yr_istore5 (pq := 83) rfl dX6_sumAlong_81 ?_
          refine yr_iinc7 (pq := 86) rfl dX6_sumAlong_83 ?_
          refine yr_goto (t := 22) dX6_sumAlong_86 rfl ?_
          refine ih _ _ _ (by omega) (by omega) (by omega) (by omega) (by omega) ?_ _
          have e1 : sumM (fun i => h a (pl + i)) x (m + n - x).toNat = (m + n - x) * h a (pl + sp) := by
            rw [sumM_same (x := sp) _ _ (fun j j1 j2 => by unfold spellF; omega)]
            rw [Int.toNat_of_nonneg (by omega)]
          have e2 : m + n - (m + n) = 0 := by omega
          rw [e1] at kk
          rw [e2]
          simp only [Int.toNat_zero, sumM, Int.add_zero]
          exact kk
        · refine yr_iload (pq := 45) rfl dX6_sumAlong_43 rfl ?_
          refine yr_iload (pq := 47) rfl dX6_sumAlong_45 rfl ?_
          refine yr_iconst (pq := 48) rfl dX6_sumAlong_47 ?_
          refine yr_iadd (pq := 49) rfl dX6_sumAlong_48 ?_
          refine yr_bipush (pq := 51) rfl dX6_sumAlong_49 rfl ?_
          refine yr_imul (pq := 52) rfl dX6_sumAlong_51 ?_
          refine yr_sI2 (pq := 55) rfl dX6_sumAlong_52 kM_6_88 (by decide) cat0 (j_min (by omega) (by omega) ?_)
          refine yr_goto (t := 60) dX6_sumAlong_55 rfl ?_
          refine yr_istore8 (pq := 62) rfl dX6_sumAlong_60 ?_
          refine yr_iload (pq := 64) rfl dX6_sumAlong_62 rfl ?_
          refine yr_iload (pq := 66) rfl dX6_sumAlong_64 rfl ?_
          refine yr_iload (pq := 68) rfl dX6_sumAlong_66 rfl ?_
          refine yr_isub (pq := 69) rfl dX6_sumAlong_68 ?_
          refine yr_aload_n (pq := 70) rfl dX6_sumAlong_69 rfl ?_
          refine yr_iload_n (pq := 71) rfl dX6_sumAlong_70 rfl ?_
          refine yr_iload (pq := 73) rfl dX6_sumAlong_71 rfl ?_
          refine yr_iadd (pq := 74) rfl dX6_sumAlong_73 ?_
          refine yr_iald (pq := 75) rfl dX6_sumAlong_74 hA h0 (by omega) ?_
          refine yr_imul (pq := 76) rfl dX6_sumAlong_75 ?_
          refine yr_iadd (pq := 77) rfl dX6_sumAlong_76 ?_
          refine yr_istore6 (pq := 79) rfl dX6_sumAlong_77 ?_
          refine yr_iload (pq := 81) rfl dX6_sumAlong_79 rfl ?_
          refine yr_istore5 (pq := 83) rfl dX6_sumAlong_81 ?_
          refine yr_iinc7 (pq := 86) rfl dX6_sumAlong_83 ?_
          refine yr_goto (t := 22) dX6_sumAlong_86 rfl ?_
          refine ih _ _ _ (by omega) (by omega) (by omega) (by omega) (by omega) ?_ _
          generalize hst : min (m + n) ((sp + 1) * 20) = st at *
          have e1 : sumM (fun i => h a (pl + i)) x (m + n - x).toNat = (st - x) * h a (pl + sp) + sumM (fun i => h a (pl + i)) st (m + n - st).toNat := by
            rw [show (m + n - x).toNat = (st - x).toNat + (m + n - st).toNat by omega, sumM_add, sumM_same (x := sp) _ _ (fun j j1 j2 => by unfold spellF; omega)]
            rw [Int.toNat_of_nonneg (show 0 ≤ st - x by omega), show x + (st - x) = st by omega]
          rw [e1, ← Int.add_assoc] at kk
          exact kk
  refine cl_in (al := [vr a, vi pl, vi m, vi n, .null, .null, .null, .null, .null]) rfl (Nat.le_of_ble_eq_true rfl) (by simp [vi_cat, vr_cat, vs_cat]) ?_
  refine yr_iload_n (pq := 1) rfl dX6_sumAlong_0 rfl ?_
  refine yr_iload_n (pq := 2) rfl dX6_sumAlong_1 rfl ?_
  refine yr_iadd (pq := 3) rfl dX6_sumAlong_2 ?_
  refine yr_istore4 (pq := 5) rfl dX6_sumAlong_3 ?_
  refine yr_iload_n (pq := 6) rfl dX6_sumAlong_5 rfl ?_
  refine yr_istore5 (pq := 8) rfl dX6_sumAlong_6 ?_
  refine yr_iconst (pq := 9) rfl dX6_sumAlong_8 ?_
  refine yr_istore6 (pq := 11) rfl dX6_sumAlong_9 ?_
  refine yr_iload_n (pq := 12) rfl dX6_sumAlong_11 rfl ?_
  refine yr_bipush (pq := 14) rfl dX6_sumAlong_12 rfl ?_
  refine yr_idiv (pq := 15) rfl dX6_sumAlong_14 (by omega) (by omega) ?_
  refine yr_bipush (pq := 17) rfl dX6_sumAlong_15 rfl ?_
  refine yr_sI2 (pq := 20) rfl dX6_sumAlong_17 kM_6_88 (by decide) cat0 (j_min (by omega) (by omega) ?_)
  refine yr_istore7 (pq := 22) rfl dX6_sumAlong_20 ?_
  refine key (12 - (min (m / 20) 11)).toNat _ _ _ (by omega) (by omega) (by omega) (by omega) (by omega) ?_ _
  rw [show m + n - m = n by omega, Int.zero_add]
  exact k
theorem rt_okst (hR : RT h T N) (hO : okT N) {s : Int} (h0 : 0 ≤ s) (h1 : s < N 8) : (0 ≤ h (T + 6 + s) 0 ∧ h (T + 6 + s) 0 ≤ 6) ∧ (1 ≤ h (T + 6 + s) 3 ∧ h (T + 6 + s) 3 ≤ 20) ∧ (0 ≤ h (T + 6 + s) 4 ∧ h (T + 6 + s) 4 ≤ 1) ∧ takesK (h (T + 6 + s) 0) (h (T + 6 + s) 3) = takesF N s := by
  obtain ⟨e0, -, -, e3, e4⟩ := hR.2.2.2.2 s h0 h1
  obtain ⟨o0, -, o3, o4⟩ := hO.2.2.2.2 s h0 h1
  refine ⟨by omega, by omega, by omega, ?_⟩
  unfold takesF
  rw [e0, e3]
theorem takesF_b (hO : okT N) {s : Int} (h0 : 0 ≤ s) (h1 : s < N 8) : 1 ≤ takesF N s ∧ takesF N s ≤ 30 := takesK_b (hO.2.2.2.2 s h0 h1).2.2.1
theorem lossF_b (hO : okT N) {salt s i : Int} (h0 : 0 ≤ i) (h1 : i < 12) : 0 ≤ lossF N salt s i ∧ lossF N salt s i ≤ 117 := lossK_b (hO.2.2.1 i h0 h1) (hO.2.2.2.1 i h0 h1)
theorem c_tellLosses {s salt a pl : Int} {L : Nat} (hT : tw T) (hR : RT h T N) (hO : okT N) (hs : 0 ≤ s ∧ s < N 8) (hl : 0 ≤ salt ∧ salt ≤ 1) (hA : am_kd a.toNat = (0, L)) (h0 : 0 ≤ a) (hL : L ≤ 1200) (hp : 0 ≤ pl ∧ pl + 12 ≤ (L : Int)) (n3 : a ≠ T + 3) (n4 : a ≠ T + 4)
    (k : ∀ h', (∀ b, b ≠ a → h' b = h b) → (∀ j, 0 ≤ j → j < 12 → h' a (pl + j) = lossF N salt s j) → (∀ j, (j < pl ∨ pl + 12 ≤ j) → h' a j = h a j) → KV h') : ClV (d + 4) mX6_tellLosses [vr T, vi s, vi salt, vr a, vi pl] h KV := by
  have h8 := hO.1
  have n6 : ∀ j, 0 ≤ j → j < 14 → T + 6 + j ≠ a := fun j q1 q2 => st_ne hT q1 q2 hA
  have key : ∀ (c : Nat) (i : Int) (g : Int → Int → Int), 0 ≤ i → i + c = 12 → (∀ b, b ≠ a → g b = h b) → (∀ j, 0 ≤ j → j < i → g a (pl + j) = lossF N salt s j) → (∀ j, (j < pl ∨ pl + i ≤ j) → g a j = h a j) → Yr (d + 3) mX6_tellLosses 27 [vr T, vi s, vi salt, vr a, vi pl, vr (T + 6 + s), vi i] [] g (rV KV) := by
    intro c
    induction c with
    | zero =>
      intro i g h1 h2 g1 g2 g3
      have hi : i = 12 := by omega
      subst hi
      refine yr_iload (pq := 29) rfl dX6_tellLosses_27 rfl ?_
      refine yr_bipush (pq := 31) rfl dX6_tellLosses_29 rfl ?_
      refine yr_ic_ge (pq := 34) (t := 67) rfl dX6_tellLosses_31 rfl (by omega) (by omega) (fun _ => ?_) (fun q9 => absurd (by omega) q9)
      exact yr_vret dX6_tellLosses_67 rfl (k g g1 g2 g3)
    | succ c ih =>
      intro i g h1 h2 g1 g2 g3
      refine yr_iload (pq := 29) rfl dX6_tellLosses_27 rfl ?_
      refine yr_bipush (pq := 31) rfl dX6_tellLosses_29 rfl ?_
      refine yr_ic_ge (pq := 34) (t := 67) rfl dX6_tellLosses_31 rfl (by omega) (by omega) (fun q9 => absurd q9 (by omega)) (fun _ => ?_)
      refine yr_aload_n (pq := 35) rfl dX6_tellLosses_34 rfl ?_
      refine yr_iload (pq := 37) rfl dX6_tellLosses_35 rfl ?_
      refine yr_iload (pq := 39) rfl dX6_tellLosses_37 rfl ?_
      refine yr_iadd (pq := 40) rfl dX6_tellLosses_39 ?_
      refine yr_aload (pq := 42) rfl dX6_tellLosses_40 rfl ?_
      refine yr_aload_n (pq := 43) rfl dX6_tellLosses_42 rfl ?_
      refine yr_getR (pq := 46) 3 rfl dX6_tellLosses_43 kF_6_25 (tw_c hT) (fr_6_3 hT) ?_
      refine yr_iload (pq := 48) rfl dX6_tellLosses_46 rfl ?_
      refine yr_iald (pq := 49) rfl dX6_tellLosses_48 (tw_k3 hT) (tw_n hT 3 (by decide)) (by omega) ?_
      refine yr_aload_n (pq := 50) rfl dX6_tellLosses_49 rfl ?_
      refine yr_getR (pq := 53) 4 rfl dX6_tellLosses_50 kF_6_28 (tw_c hT) (fr_6_4 hT) ?_
      refine yr_iload (pq := 55) rfl dX6_tellLosses_53 rfl ?_
      refine yr_iald (pq := 56) rfl dX6_tellLosses_55 (tw_k4 hT) (tw_n hT 4 (by decide)) (by omega) ?_
      refine yr_iload_n (pq := 57) rfl dX6_tellLosses_56 rfl ?_
      have es : g (T + 6 + s) = h (T + 6 + s) := g1 _ (n6 s hs.1 (by omega))
      have e3 : g (T + 3) i = N (20 + i) := by rw [g1 _ (fun q => n3 q.symm)]; exact hR.2.2.1 i h1 (by omega)
      have e4 : g (T + 4) i = N (32 + i) := by rw [g1 _ (fun q => n4 q.symm)]; exact hR.2.2.2.1 i h1 (by omega)
      obtain ⟨o0, o3, o4, -⟩ := rt_okst hR hO hs.1 hs.2
      obtain ⟨q0, -, -, -, q4⟩ := hR.2.2.2.2 s hs.1 hs.2
      rw [e3, e4]
      refine yr_vI3 (pq := 60) rfl dX6_tellLosses_57 kM_6_72 (by decide) (st_c hT hs.1 (by omega)) (Nat.le_of_ble_eq_true rfl) (c_lossBy (st_c hT hs.1 (by omega)) (by rw [es]; exact o0) (by rw [es]; exact o4) (hO.2.2.1 i h1 (by omega)) (hO.2.2.2.1 i h1 (by omega)) hl ?_)
      refine yr_iast (pq := 61) rfl dX6_tellLosses_60 hA h0 (by omega) ?_
      refine yr_iinc6 (pq := 64) rfl dX6_tellLosses_61 ?_
      refine yr_goto (t := 27) dX6_tellLosses_64 rfl ?_
      rw [es, q0, q4]
      refine ih _ _ (by omega) (by omega) (fun b hb => ?_) (fun j j1 j2 => ?_) (fun j hj => ?_)
      · rw [up_ne hb]; exact g1 b hb
      · rw [up_row]
        by_cases e : j = i
        · subst e
          rw [ur_s]
          rfl
        · rw [ur_o (by omega)]
          exact g2 j j1 (by omega)
      · rw [up_row, ur_o (by omega)]
        exact g3 j (by omega)
  refine cl_in (al := [vr T, vi s, vi salt, vr a, vi pl, .null, .null]) rfl (Nat.le_of_ble_eq_true rfl) (by simp [vi_cat, vr_cat, vs_cat]) ?_
  refine yr_iload (pq := 2) rfl dX6_tellLosses_0 rfl ?_
  refine yr_if_lt (pq := 5) (t := 15) rfl dX6_tellLosses_2 rfl (by omega) (fun q9 => absurd q9 (by omega)) (fun _ => ?_)
  refine yr_iload (pq := 7) rfl dX6_tellLosses_5 rfl ?_
  refine yr_aload_n (pq := 8) rfl dX6_tellLosses_7 rfl ?_
  refine yr_alen (pq := 9) rfl dX6_tellLosses_8 hA (by decide) ?_
  refine yr_bipush (pq := 11) rfl dX6_tellLosses_9 rfl ?_
  refine yr_isub (pq := 12) rfl dX6_tellLosses_11 ?_
  refine yr_ic_le (pq := 15) (t := 16) rfl dX6_tellLosses_12 rfl (by omega) (by omega) (fun _ => ?_) (fun q9 => absurd (by omega) q9)
  refine yr_aload_n (pq := 17) rfl dX6_tellLosses_16 rfl ?_
  refine yr_getR (pq := 20) 0 rfl dX6_tellLosses_17 kF_6_11 (tw_c hT) (fr_6_0 hT) ?_
  refine yr_iload_n (pq := 21) rfl dX6_tellLosses_20 rfl ?_
  refine yr_aald (pq := 22) rfl dX6_tellLosses_21 (tw_k1 hT) (by decide) (by omega) (st_q hT (by omega) (by omega)) ?_
  refine yr_astore5 (pq := 24) rfl dX6_tellLosses_22 ?_
  refine yr_iconst (pq := 25) rfl dX6_tellLosses_24 ?_
  refine yr_istore6 (pq := 27) rfl dX6_tellLosses_25 ?_
  exact key 12 0 h (by omega) (by omega) (fun _ _ => rfl) (fun j j1 j2 => by omega) (fun _ _ => rfl)
theorem c_lossAlong {s m salt : Int} (hT : tw T) (hR : RT h T N) (hO : okT N) (hs : 0 ≤ s ∧ s < N 8) (hm : 0 ≤ m ∧ m ≤ 10000) (hl : 0 ≤ salt ∧ salt ≤ 1)
    (k : ∀ h', (∀ b, b ≠ T + 5 → h' b = h b) → K (sumM (lossF N salt s) m (takesF N s).toNat) h') : ClI (d + 5) mX6_lossAlong [vr T, vi s, vi m, vi salt] h K := by
  have h8 := hO.1
  have hst := takesF_b hO hs.1 hs.2
  refine cl_in (al := [vr T, vi s, vi m, vi salt]) rfl (Nat.le_of_ble_eq_true rfl) (by simp [vi_cat, vr_cat, vs_cat]) ?_
  refine yr_aload_n (pq := 1) rfl dX6_lossAlong_0 rfl ?_
  refine yr_iload_n (pq := 2) rfl dX6_lossAlong_1 rfl ?_
  refine yr_iload_n (pq := 3) rfl dX6_lossAlong_2 rfl ?_
  refine yr_aload_n (pq := 4) rfl dX6_lossAlong_3 rfl ?_
  refine yr_getR (pq := 7) 5 rfl dX6_lossAlong_4 kF_6_31 (tw_c hT) (fr_6_5 hT) ?_
  refine yr_iconst (pq := 8) rfl dX6_lossAlong_7 ?_
  refine yr_vV4 (pq := 11) rfl dX6_lossAlong_8 kM_6_76 (by decide) (tw_c hT) cat0 (c_tellLosses hT hR hO hs hl (tw_k5 hT) (tw_n hT 5 (by decide)) (by decide) (by decide) (by omega) (by omega) (fun g g1 g2 g3 => ?_))
  have es : g (T + 6 + s) = h (T + 6 + s) := g1 _ (by omega)
  obtain ⟨o0, o3, o4, o5⟩ := rt_okst hR hO hs.1 hs.2
  refine yr_aload_n (pq := 12) rfl dX6_lossAlong_11 rfl ?_
  refine yr_getR (pq := 15) 5 rfl dX6_lossAlong_12 kF_6_31 (tw_c hT) (fr_6_5 hT) ?_
  refine yr_iconst (pq := 16) rfl dX6_lossAlong_15 ?_
  refine yr_iload_n (pq := 17) rfl dX6_lossAlong_16 rfl ?_
  refine yr_aload_n (pq := 18) rfl dX6_lossAlong_17 rfl ?_
  refine yr_getR (pq := 21) 0 rfl dX6_lossAlong_18 kF_6_11 (tw_c hT) (fr_6_0 hT) ?_
  refine yr_iload_n (pq := 22) rfl dX6_lossAlong_21 rfl ?_
  refine yr_aald (pq := 23) rfl dX6_lossAlong_22 (tw_k1 hT) (by decide) (by omega) (st_q hT (by omega) (by omega)) ?_
  refine yr_vI0 (pq := 26) rfl dX6_lossAlong_23 kM_6_80 (by decide) (st_c hT (by omega) (by omega)) (Nat.le_of_ble_eq_true rfl) (c_takes (st_c hT hs.1 (by omega)) (by rw [es]; exact o0) (by rw [es]; exact o3) ?_)
  rw [es, o5]
  refine yr_sI4 (pq := 29) rfl dX6_lossAlong_26 kM_6_84 (by decide) cat0 (c_sumAlong (tw_k5 hT) (tw_n hT 5 (by decide)) (by decide) hm (by omega) ?_)
  rw [sumM_cong (g := lossF N salt s) (fun i i1 i2 => g2 i i1 i2) _ _ hm.1]
  exact yr_iret dX6_lossAlong_29 rfl (k g g1)
theorem c_takesOfAll (hT : tw T) (hR : RT h T N) (hO : okT N) (k : K (sumA (takesF N) 0 0 (N 8).toNat) h) : ClI (d + 2) mX6_takesOfAll [vr T] h K := by
  have h8 := hO.1
  have key : ∀ (n : Nat) (i acc : Int), 0 ≤ i → i + n = N 8 → K (sumA (takesF N) acc i n) h → Yr (d + 1) mX6_takesOfAll 4 [vr T, vi acc, vi i] [] h (rI K) := by
    intro n
    induction n with
    | zero =>
      intro i acc hi hn kk
      refine yr_iload_n (pq := 5) rfl dX6_takesOfAll_4 rfl ?_
      refine yr_aload_n (pq := 6) rfl dX6_takesOfAll_5 rfl ?_
      refine yr_getI (pq := 9) 1 rfl dX6_takesOfAll_6 kF_6_17 (by decide) rfl (tw_c hT) ?_
      rw [hR.1]
      refine yr_ic_ge (pq := 12) (t := 30) rfl dX6_takesOfAll_9 rfl (by omega) (by omega) (fun _ => ?_) (fun q9 => absurd (by omega) q9)
      refine yr_iload_n (pq := 31) rfl dX6_takesOfAll_30 rfl ?_
      exact yr_iret dX6_takesOfAll_31 rfl (kk)
    | succ n ih =>
      intro i acc hi hn kk
      obtain ⟨o0, o3, o4, o5⟩ := rt_okst hR hO hi (by omega)
      refine yr_iload_n (pq := 5) rfl dX6_takesOfAll_4 rfl ?_
      refine yr_aload_n (pq := 6) rfl dX6_takesOfAll_5 rfl ?_
      refine yr_getI (pq := 9) 1 rfl dX6_takesOfAll_6 kF_6_17 (by decide) rfl (tw_c hT) ?_
      rw [hR.1]
      refine yr_ic_ge (pq := 12) (t := 30) rfl dX6_takesOfAll_9 rfl (by omega) (by omega) (fun q9 => absurd q9 (by omega)) (fun _ => ?_)
      refine yr_iload_n (pq := 13) rfl dX6_takesOfAll_12 rfl ?_
      refine yr_aload_n (pq := 14) rfl dX6_takesOfAll_13 rfl ?_
      refine yr_getR (pq := 17) 0 rfl dX6_takesOfAll_14 kF_6_11 (tw_c hT) (fr_6_0 hT) ?_
      refine yr_iload_n (pq := 18) rfl dX6_takesOfAll_17 rfl ?_
      refine yr_aald (pq := 19) rfl dX6_takesOfAll_18 (tw_k1 hT) (by decide) (by omega) (st_q hT (by omega) (by omega)) ?_
      refine yr_vI0 (pq := 22) rfl dX6_takesOfAll_19 kM_6_80 (by decide) (st_c hT (by omega) (by omega)) (Nat.le_of_ble_eq_true rfl) (c_takes (st_c hT hi (by omega)) o0 o3 ?_)
      refine yr_iadd (pq := 23) rfl dX6_takesOfAll_22 ?_
      refine yr_istore1 (pq := 24) rfl dX6_takesOfAll_23 ?_
      refine yr_iinc2 (pq := 27) rfl dX6_takesOfAll_24 ?_
      refine yr_goto (t := 4) dX6_takesOfAll_27 rfl ?_
      rw [o5]
      exact ih _ _ (by omega) (by omega) kk
  refine cl_in (al := [vr T, .null, .null]) rfl (Nat.le_of_ble_eq_true rfl) (by simp [vi_cat, vr_cat, vs_cat]) ?_
  refine yr_iconst (pq := 1) rfl dX6_takesOfAll_0 ?_
  refine yr_istore1 (pq := 2) rfl dX6_takesOfAll_1 ?_
  refine yr_iconst (pq := 3) rfl dX6_takesOfAll_2 ?_
  refine yr_istore2 (pq := 4) rfl dX6_takesOfAll_3 ?_
  exact key (N 8).toNat 0 0 (by omega) (by omega) k
theorem c_umbrellas (hT : tw T) (hR : RT h T N) (hO : okT N) (k : K (sumA (fun s => N (53 + 5 * s + 4)) 0 0 (N 8).toNat) h) : ClI (d + 1) mX6_umbrellas [vr T] h K := by
  have h8 := hO.1
  have key : ∀ (n : Nat) (i acc : Int), 0 ≤ i → i + n = N 8 → K (sumA (fun s => N (53 + 5 * s + 4)) acc i n) h → Yr d mX6_umbrellas 4 [vr T, vi acc, vi i] [] h (rI K) := by
    intro n
    induction n with
    | zero =>
      intro i acc hi hn kk
      refine yr_iload_n (pq := 5) rfl dX6_umbrellas_4 rfl ?_
      refine yr_aload_n (pq := 6) rfl dX6_umbrellas_5 rfl ?_
      refine yr_getI (pq := 9) 1 rfl dX6_umbrellas_6 kF_6_17 (by decide) rfl (tw_c hT) ?_
      rw [hR.1]
      refine yr_ic_ge (pq := 12) (t := 30) rfl dX6_umbrellas_9 rfl (by omega) (by omega) (fun _ => ?_) (fun q9 => absurd (by omega) q9)
      refine yr_iload_n (pq := 31) rfl dX6_umbrellas_30 rfl ?_
      exact yr_iret dX6_umbrellas_31 rfl (kk)
    | succ n ih =>
      intro i acc hi hn kk
      obtain ⟨q0, -, -, -, q4⟩ := hR.2.2.2.2 i hi (by omega)
      refine yr_iload_n (pq := 5) rfl dX6_umbrellas_4 rfl ?_
      refine yr_aload_n (pq := 6) rfl dX6_umbrellas_5 rfl ?_
      refine yr_getI (pq := 9) 1 rfl dX6_umbrellas_6 kF_6_17 (by decide) rfl (tw_c hT) ?_
      rw [hR.1]
      refine yr_ic_ge (pq := 12) (t := 30) rfl dX6_umbrellas_9 rfl (by omega) (by omega) (fun q9 => absurd q9 (by omega)) (fun _ => ?_)
      refine yr_iload_n (pq := 13) rfl dX6_umbrellas_12 rfl ?_
      refine yr_aload_n (pq := 14) rfl dX6_umbrellas_13 rfl ?_
      refine yr_getR (pq := 17) 0 rfl dX6_umbrellas_14 kF_6_11 (tw_c hT) (fr_6_0 hT) ?_
      refine yr_iload_n (pq := 18) rfl dX6_umbrellas_17 rfl ?_
      refine yr_aald (pq := 19) rfl dX6_umbrellas_18 (tw_k1 hT) (by decide) (by omega) (st_q hT (by omega) (by omega)) ?_
      refine yr_getI (pq := 22) 4 rfl dX6_umbrellas_19 kF_6_65 (by decide) rfl (st_c hT (by omega) (by omega)) ?_
      refine yr_iadd (pq := 23) rfl dX6_umbrellas_22 ?_
      refine yr_istore1 (pq := 24) rfl dX6_umbrellas_23 ?_
      refine yr_iinc2 (pq := 27) rfl dX6_umbrellas_24 ?_
      refine yr_goto (t := 4) dX6_umbrellas_27 rfl ?_
      rw [q4]
      exact ih _ _ (by omega) (by omega) kk
  refine cl_in (al := [vr T, .null, .null]) rfl (Nat.le_of_ble_eq_true rfl) (by simp [vi_cat, vr_cat, vs_cat]) ?_
  refine yr_iconst (pq := 1) rfl dX6_umbrellas_0 ?_
  refine yr_istore1 (pq := 2) rfl dX6_umbrellas_1 ?_
  refine yr_iconst (pq := 3) rfl dX6_umbrellas_2 ?_
  refine yr_istore2 (pq := 4) rfl dX6_umbrellas_3 ?_
  exact key (N 8).toNat 0 0 (by omega) (by omega) k
/-- what quarters the streets' corners have: by bits -/
def dueF (N : Int → Int) (acc k : Int) : Nat → Int
  | 0 => acc
  | n + 1 => dueF N (io acc (io (il 1 (N (N (53 + 5 * k + 1)))) (il 1 (N (N (53 + 5 * k + 2)))))) (k + 1) n
theorem c_quartersOnStreets (hT : tw T) (hR : RT h T N) (hO : okT N) (k : K (dueF N 0 0 (N 8).toNat) h) : ClI (d + 1) mX6_quartersOnStreets [vr T] h K := by
  have h8 := hO.1
  have key : ∀ (n : Nat) (i acc : Int), 0 ≤ i → i + n = N 8 → K (dueF N acc i n) h → Yr d mX6_quartersOnStreets 4 [vr T, vi acc, vi i] [] h (rI K) := by
    intro n
    induction n with
    | zero =>
      intro i acc hi hn kk
      refine yr_iload_n (pq := 5) rfl dX6_quartersOnStreets_4 rfl ?_
      refine yr_aload_n (pq := 6) rfl dX6_quartersOnStreets_5 rfl ?_
      refine yr_getI (pq := 9) 1 rfl dX6_quartersOnStreets_6 kF_6_17 (by decide) rfl (tw_c hT) ?_
      rw [hR.1]
      refine yr_ic_ge (pq := 12) (t := 54) rfl dX6_quartersOnStreets_9 rfl (by omega) (by omega) (fun _ => ?_) (fun q9 => absurd (by omega) q9)
      refine yr_iload_n (pq := 55) rfl dX6_quartersOnStreets_54 rfl ?_
      exact yr_iret dX6_quartersOnStreets_55 rfl (kk)
    | succ n ih =>
      intro i acc hi hn kk
      obtain ⟨-, q1, q2, -, -⟩ := hR.2.2.2.2 i hi (by omega)
      obtain ⟨b1, b2, b3⟩ := rt_ends hR hO hi (by omega)
      refine yr_iload_n (pq := 5) rfl dX6_quartersOnStreets_4 rfl ?_
      refine yr_aload_n (pq := 6) rfl dX6_quartersOnStreets_5 rfl ?_
      refine yr_getI (pq := 9) 1 rfl dX6_quartersOnStreets_6 kF_6_17 (by decide) rfl (tw_c hT) ?_
      rw [hR.1]
      refine yr_ic_ge (pq := 12) (t := 54) rfl dX6_quartersOnStreets_9 rfl (by omega) (by omega) (fun q9 => absurd q9 (by omega)) (fun _ => ?_)
      refine yr_iload_n (pq := 13) rfl dX6_quartersOnStreets_12 rfl ?_
      refine yr_iconst (pq := 14) rfl dX6_quartersOnStreets_13 ?_
      refine yr_aload_n (pq := 15) rfl dX6_quartersOnStreets_14 rfl ?_
      refine yr_getR (pq := 18) 2 rfl dX6_quartersOnStreets_15 kF_6_21 (tw_c hT) (fr_6_2 hT) ?_
      refine yr_aload_n (pq := 19) rfl dX6_quartersOnStreets_18 rfl ?_
      refine yr_getR (pq := 22) 0 rfl dX6_quartersOnStreets_19 kF_6_11 (tw_c hT) (fr_6_0 hT) ?_
      refine yr_iload_n (pq := 23) rfl dX6_quartersOnStreets_22 rfl ?_
      refine yr_aald (pq := 24) rfl dX6_quartersOnStreets_23 (tw_k1 hT) (by decide) (by omega) (st_q hT (by omega) (by omega)) ?_
      refine yr_getI (pq := 27) 1 rfl dX6_quartersOnStreets_24 kF_6_56 (by decide) rfl (st_c hT (by omega) (by omega)) ?_
      refine yr_iald (pq := 28) rfl dX6_quartersOnStreets_27 (tw_k2 hT) (tw_n hT 2 (by decide)) (by omega) ?_
      refine yr_ishl (pq := 29) rfl dX6_quartersOnStreets_28 ?_
      refine yr_iconst (pq := 30) rfl dX6_quartersOnStreets_29 ?_
      refine yr_aload_n (pq := 31) rfl dX6_quartersOnStreets_30 rfl ?_
      refine yr_getR (pq := 34) 2 rfl dX6_quartersOnStreets_31 kF_6_21 (tw_c hT) (fr_6_2 hT) ?_
      refine yr_aload_n (pq := 35) rfl dX6_quartersOnStreets_34 rfl ?_
      refine yr_getR (pq := 38) 0 rfl dX6_quartersOnStreets_35 kF_6_11 (tw_c hT) (fr_6_0 hT) ?_
      refine yr_iload_n (pq := 39) rfl dX6_quartersOnStreets_38 rfl ?_
      refine yr_aald (pq := 40) rfl dX6_quartersOnStreets_39 (tw_k1 hT) (by decide) (by omega) (st_q hT (by omega) (by omega)) ?_
      refine yr_getI (pq := 43) 2 rfl dX6_quartersOnStreets_40 kF_6_59 (by decide) rfl (st_c hT (by omega) (by omega)) ?_
      refine yr_iald (pq := 44) rfl dX6_quartersOnStreets_43 (tw_k2 hT) (tw_n hT 2 (by decide)) (by omega) ?_
      refine yr_ishl (pq := 45) rfl dX6_quartersOnStreets_44 ?_
      refine yr_ior (pq := 46) rfl dX6_quartersOnStreets_45 ?_
      refine yr_ior (pq := 47) rfl dX6_quartersOnStreets_46 ?_
      refine yr_istore1 (pq := 48) rfl dX6_quartersOnStreets_47 ?_
      refine yr_iinc2 (pq := 51) rfl dX6_quartersOnStreets_48 ?_
      refine yr_goto (t := 4) dX6_quartersOnStreets_51 rfl ?_
      refine ih _ _ (by omega) (by omega) ?_
      rw [hR.2.1 _ b1.1 (by omega), hR.2.1 _ b2.1 (by omega)]
      rw [dueF, ← q1, ← q2] at kk
      rcases Int.le_total (h (T + 6 + i) 1) (h (T + 6 + i) 2) with q | q
      · rw [Int.min_eq_left q, Int.max_eq_right q] at kk
        exact kk
      · rw [Int.min_eq_right q, Int.max_eq_left q, io_comm (il 1 _) (il 1 _)] at kk
        exact kk
  refine cl_in (al := [vr T, .null, .null]) rfl (Nat.le_of_ble_eq_true rfl) (by simp [vi_cat, vr_cat, vs_cat]) ?_
  refine yr_iconst (pq := 1) rfl dX6_quartersOnStreets_0 ?_
  refine yr_istore1 (pq := 2) rfl dX6_quartersOnStreets_1 ?_
  refine yr_iconst (pq := 3) rfl dX6_quartersOnStreets_2 ?_
  refine yr_istore2 (pq := 4) rfl dX6_quartersOnStreets_3 ?_
  exact key (N 8).toNat 0 0 (by omega) (by omega) k
end CU
