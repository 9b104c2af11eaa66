/-! the best of several tries -/
theorem ur_ur (N : Int → Int) (k a b : Int) : ur (ur N k a) k b = ur N k b := by
  funext j
  by_cases q : j = k
  · subst q; rw [ur_s, ur_s]
  · rw [ur_o q, ur_o q, ur_o q]
theorem ur_id (N : Int → Int) (k : Int) : ur N k (N k) = N := by
  funext j
  by_cases q : j = k
  · subst q; rw [ur_s]
  · rw [ur_o q]
/-- of f over so many from k on, those that sk passes over left out: the first that is most, and how much -/
def bsF (sk : Int → Bool) (f : Int → Int) (k : Int) : Nat → Int × Int → Int × Int
  | 0, p => p
  | n + 1, p => bsF sk f (k + 1) n (if sk k = true then p else if p.2 < f k then (k, f k) else p)
def nosk : Int → Bool := fun _ => false
/-- what the reference's tries leave -/
def RF (h e : hT) : Prop := (∀ a, a ≠ 108 → a ≠ 113 → a ≠ 114 → a ≠ 115 → e a = h a) ∧ ∀ j, (j < 9 ∨ 14 < j) → e 108 j = h 108 j
theorem Inv_rf {h f e : hT} (hI : Inv h) (f0 : ∀ a, CR a → f a = h a) (f8 : f 108 = h 108) (r : RF f e) : Inv e := by
  refine Inv_fr hI (fun a ha => ?_) ?_ ?_ ?_
  · rw [r.1 a (by unfold CR at ha; omega) (by unfold CR at ha; omega) (by unfold CR at ha; omega) (by unfold CR at ha; omega), f0 a ha]
  · rw [r.2 3 (by decide), f8]
  · rw [r.2 5 (by decide), f8]
  · rw [r.2 16 (by decide), f8]
theorem rf_find {h f e e' : hT} {k w : Int} (hI : Inv h) (hk : 0 ≤ k ∧ k ≤ 6) (hw : w = -1000001 - k) (f0 : ∀ a, CR a → f a = h a) (f8 : f 108 = h 108) (r : RF (up f 99 k (f 99 k + 1)) e) (hf : FD w e e') : w = -1000001 - k ∧ Inv e' := by
  refine ⟨hw, find2 (k := k) hI hk (by omega) (fun a q1 q2 => ?_) ?_ (fun j hj => ?_) hf.1 hf.2⟩
  · rw [r.1 a (by unfold CR at q1; omega) (by unfold CR at q1; omega) (by unfold CR at q1; omega) (by unfold CR at q1; omega), up_ne q2, f0 a q1]
  · rw [r.1 99 (by decide) (by decide) (by decide) (by decide), up_row, f0 99 (by unfold CR; omega)]
  · rw [r.2 j (by omega), up_ne (by decide), f8]
theorem cr_lo {a : Int} (ha : CR a) : a < 49 ∨ 75 < a := by unfold CR at ha; omega
section BT
variable {d : Nat} {h : hT} {K : Int → hT → Prop} {KV : hT → Prop}
theorem m_nothing (k : ∀ e, (∀ a, a ≠ 108 → e a = h a) → (∀ j, j ≠ 13 → j ≠ 14 → e 108 j = h 108 j) → e 108 13 = -1 → e 108 14 = -1 → KV e) : ClV (d + 1) mX8_nothingTried [vr 108] h KV := by
  refine cl_in (al := [vr 108]) rfl (Nat.le_of_ble_eq_true rfl) (by simp [vi_cat, vr_cat, vs_cat]) ?_
  refine yr_aload_n (pq := 1) rfl dX8_nothingTried_0 rfl ?_
  refine yr_iconst (pq := 2) rfl dX8_nothingTried_1 ?_
  refine yr_putI (pq := 5) 13 rfl dX8_nothingTried_2 kF_8_226 (by decide) rfl rfl (by decide) ?_
  refine yr_aload_n (pq := 6) rfl dX8_nothingTried_5 rfl ?_
  refine yr_iconst (pq := 7) rfl dX8_nothingTried_6 ?_
  refine yr_putI (pq := 10) 14 rfl dX8_nothingTried_7 kF_8_223 (by decide) rfl rfl (by decide) ?_
  exact yr_vret dX8_nothingTried_10 rfl (k _ (fun a ha => by rw [up_ne ha, up_ne ha]) (fun j j1 j2 => by rw [up_k j2, up_k j1]) (by rw [up_k (by decide), up_s]) (by rw [up_s]))
theorem m_tried {w l : Int} {p : Int × Int} (e1 : h 108 13 = p.1) (e2 : h 108 14 = p.2) (hp : -1 ≤ p.2 ∧ p.2 ≤ 99999) (hl : -1 ≤ l ∧ l ≤ 99999) (k : ∀ e, (∀ a, a ≠ 108 → e a = h a) → (∀ j, j ≠ 13 → j ≠ 14 → e 108 j = h 108 j) → e 108 13 = (if p.2 < l then (w, l) else p).1 → e 108 14 = (if p.2 < l then (w, l) else p).2 → KV e) : ClV (d + 1) mX8_tried [vr 108, vi w, vi l] h KV := by
  refine cl_in (al := [vr 108, vi w, vi l]) rfl (Nat.le_of_ble_eq_true rfl) (by simp [vi_cat, vr_cat, vs_cat]) ?_
  refine yr_iload_n (pq := 1) rfl dX8_tried_0 rfl ?_
  refine yr_aload_n (pq := 2) rfl dX8_tried_1 rfl ?_
  refine yr_getI (pq := 5) 14 rfl dX8_tried_2 kF_8_223 (by decide) rfl (by decide) ?_
  rw [e2]
  refine yr_ic_le (pq := 8) (t := 18) rfl dX8_tried_5 rfl (by omega) (by omega) (fun q => ?_) (fun q => ?_)
  · rw [if_neg (by omega)] at k
    exact yr_vret dX8_tried_18 rfl (k h (fun _ _ => rfl) (fun _ _ _ => rfl) e1 e2)
  · rw [if_pos (by omega)] at k
    refine yr_aload_n (pq := 9) rfl dX8_tried_8 rfl ?_
    refine yr_iload_n (pq := 10) rfl dX8_tried_9 rfl ?_
    refine yr_putI (pq := 13) 13 rfl dX8_tried_10 kF_8_226 (by decide) rfl rfl (by decide) ?_
    refine yr_aload_n (pq := 14) rfl dX8_tried_13 rfl ?_
    refine yr_iload_n (pq := 15) rfl dX8_tried_14 rfl ?_
    refine yr_putI (pq := 18) 14 rfl dX8_tried_15 kF_8_223 (by decide) rfl rfl (by decide) ?_
    exact yr_vret dX8_tried_18 rfl (k _ (fun a ha => by rw [up_ne ha, up_ne ha]) (fun j j1 j2 => by rw [up_k j2, up_k j1]) (by rw [up_k (by decide), up_s]) (by rw [up_s]))
theorem m_bestTried (hb : -1 ≤ h 108 13 ∧ h 108 13 ≤ 1000) (k0 : h 108 13 < 0 → ∀ e, FD (-1000004) h e → K (-1000004) e) (k1 : 0 ≤ h 108 13 → K (h 108 13) h) : ClI (d + 2) mX8_bestTried [vr 108] h K := by
  refine cl_in (al := [vr 108]) rfl (Nat.le_of_ble_eq_true rfl) (by simp [vi_cat, vr_cat, vs_cat]) ?_
  refine yr_aload_n (pq := 1) rfl dX8_bestTried_0 rfl ?_
  refine yr_getI (pq := 4) 13 rfl dX8_bestTried_1 kF_8_226 (by decide) rfl (by decide) ?_
  refine yr_if_ge (pq := 7) (t := 16) rfl dX8_bestTried_4 rfl (by omega) (fun q => ?_) (fun q => ?_)
  · refine yr_aload_n (pq := 17) rfl dX8_bestTried_16 rfl ?_
    refine yr_getI (pq := 20) 13 rfl dX8_bestTried_17 kF_8_226 (by decide) rfl (by decide) ?_
    exact yr_iret dX8_bestTried_20 rfl (k1 (by omega))
  · refine yr_aload_n (pq := 8) rfl dX8_bestTried_7 rfl ?_
    refine yr_ldc (pq := 10) rfl dX8_bestTried_8 kN_8_144 ?_
    refine yr_vI1 (pq := 13) rfl dX8_bestTried_10 kM_8_101 (by decide) (by decide) cat0 (r_fnd (by decide) (fun e hf => ?_))
    refine yr_goto (t := 20) dX8_bestTried_13 rfl ?_
    exact yr_iret dX8_bestTried_20 rfl (k0 (by omega) e hf)
end BT
theorem pr_b {sk : Int → Bool} {p : Int × Int} {k l B : Int} (hp : (-1 ≤ p.1 ∧ p.1 ≤ B) ∧ (-1 ≤ p.2 ∧ p.2 ≤ 99999)) (hk : 0 ≤ k ∧ k ≤ B) (hl : -1 ≤ l ∧ l ≤ 99999) : (-1 ≤ (if sk k = true then p else if p.2 < l then (k, l) else p).1 ∧ (if sk k = true then p else if p.2 < l then (k, l) else p).1 ≤ B) ∧ (-1 ≤ (if sk k = true then p else if p.2 < l then (k, l) else p).2 ∧ (if sk k = true then p else if p.2 < l then (k, l) else p).2 ≤ 99999) := by
  split
  · exact hp
  · split
    · exact ⟨by simp only; omega, by simp only; omega⟩
    · exact hp
theorem fnd_ok {g w : Int} {N : Int → Int} (hA : okA (fndF g w N)) : -1 ≤ (fndF g w N).2.1 ∧ (fndF g w N).2.1 ≤ 99999 := hA.1
/-! start, better -/
theorem dueF_row {N M : Int → Int} (hO : okT N) (e : ∀ j, (0 ≤ j ∧ j ≤ 7) ∨ 53 ≤ j → M j = N j) : ∀ (n : Nat) (acc k : Int), 0 ≤ k → k + n ≤ N 8 → dueF M acc k n = dueF N acc k n := by
  intro n
  induction n with
  | zero => intro acc k _ _; rfl
  | succ n ih =>
    intro acc k hk hn
    obtain ⟨-, o1, -⟩ := hO.2.2.2.2 k hk (by omega)
    rw [dueF, dueF, e (53 + 5 * k + 1) (by omega), e (53 + 5 * k + 2) (by omega), e (N (53 + 5 * k + 1)) (by omega), e (N (53 + 5 * k + 2)) (by omega)]
    exact ih _ _ (by omega) (by omega)
theorem okS_50 {N : Int → Int} {y : Int} (hS : okS N) (hy : 0 ≤ y ∧ y ≤ 2000) : okS (ur N 50 y) := by
  refine okS_u hS (ur_o (by omega)) (fun s s0 s1 => ur_o (by omega)) ?_ ?_ ?_ ?_ ?_
  · rw [ur_o (by omega)]; exact hS.1
  · rw [ur_o (by omega)]; exact hS.2.1
  · rw [ur_s]; exact hy
  · rw [ur_o (by omega)]; exact hS.2.2.2.1
  · rw [ur_o (by omega), ur_o (by omega), ur_o (by omega), ur_o (by omega)]; exact hS.2.2.2.2.1
theorem okS_44 {N : Int → Int} {y : Int} (hS : okS N) (hy : 0 ≤ y ∧ y ≤ 1) : okS (ur N 44 y) := by
  refine okS_u hS (ur_o (by omega)) (fun s s0 s1 => ur_o (by omega)) ?_ ?_ ?_ ?_ ?_
  · rw [ur_s]; exact hy
  · rw [ur_o (by omega)]; exact hS.2.1
  · rw [ur_o (by omega)]; exact hS.2.2.1
  · rw [ur_o (by omega)]; exact hS.2.2.2.1
  · rw [ur_o (by omega), ur_o (by omega), ur_o (by omega), ur_o (by omega)]; exact hS.2.2.2.2.1
def stF (N : Int → Int) : Int → Int := fun n => (fndF (-1) (-1) (ur N 50 (N 50 + n))).2.1
def btF (N : Int → Int) : Int → Int := fun v => (fndF (-1) (-1) (ur N 44 v)).2.1
section S26
variable {d : Nat} {h : hT} {K : Int → hT → Prop}
theorem r_start {N : Int → Int} (hB : RB h N) (hO : okT N) (hS : okS N) (hl : N 50 ≤ 999) (k0 : 700 < N 50 → ∀ e, FD (-1000005) h e → K (-1000005) e)
    (k1 : N 50 ≤ 700 → (bsF nosk (stF N) 0 61 (-1, -1)).1 < 0 → ∀ e e', RF h e → FD (-1000004) e e' → K (-1000004) e') (k2 : N 50 ≤ 700 → 0 ≤ (bsF nosk (stF N) 0 61 (-1, -1)).1 → ∀ e, RF h e → K (bsF nosk (stF N) 0 61 (-1, -1)).1 e) : ClI (d + 8 + 9) mX8_start [vr 108] h K := by
  obtain ⟨e9, h5⟩ := hB
  subst e9
  have a3 := hS.2.2.1
  refine cl_in (al := [vr 108, .null, .null]) rfl (Nat.le_of_ble_eq_true rfl) (by simp [vi_cat, vr_cat, vs_cat]) ?_
  refine yr_aload_n (pq := 1) rfl dX8_start_0 rfl ?_
  refine yr_vI0 (pq := 4) rfl dX8_start_1 kM_8_201 (by decide) (by decide) cat0 (m_isLate (by omega) (fun q1 => ?_) (fun q1 => ?_))
  · refine yr_if_eq (pq := 7) (t := 14) rfl dX8_start_4 rfl (by decide) (fun q9 => absurd q9 (by decide)) (fun _ => ?_)
    refine yr_aload_n (pq := 8) rfl dX8_start_7 rfl ?_
    refine yr_ldc (pq := 10) rfl dX8_start_8 kN_8_159 ?_
    refine yr_vI1 (pq := 13) rfl dX8_start_10 kM_8_101 (by decide) (by decide) cat0 (r_fnd (by decide) (fun e hf => ?_))
    exact yr_iret dX8_start_13 rfl (k0 q1 e hf)
  · have key : ∀ (c : Nat) (n x : Int) (p : Int × Int) (g : hT), 0 ≤ n → n + c = 61 → (∀ a, a ≠ 108 → a ≠ 109 → a ≠ 113 → a ≠ 114 → a ≠ 115 → g a = h a) → (∀ j, (j < 9 ∨ 14 < j) → g 108 j = h 108 j) → g 109 = ur (h 109) 50 x → g 108 13 = p.1 → g 108 14 = p.2 → ((-1 ≤ p.1 ∧ p.1 ≤ 60) ∧ (-1 ≤ p.2 ∧ p.2 ≤ 99999)) → bsF nosk (stF (h 109)) n c p = bsF nosk (stF (h 109)) 0 61 (-1, -1) → Yr (d + 8 + 8) mX8_start 28 [vr 108, vi (h 109 50), vi n] [] g (rI K) := by
      intro c
      induction c with
      | zero =>
        intro n x p g hn hc g0 g1 g2 g3 g4 hp hb
        have hb' : p = bsF nosk (stF (h 109)) 0 61 (-1, -1) := hb
        have rf : RF h (up g 109 50 (h 109 50)) := by
          refine ⟨fun a q1 q2 q3 q4 => ?_, fun j hj => by rw [up_ne (by decide)]; exact g1 j hj⟩
          by_cases q : a = 109
          · subst q; rw [up_row, g2, ur_ur, ur_id]
          · rw [up_ne q]; exact g0 a q1 q q2 q3 q4
        have e13 : up g 109 50 (h 109 50) 108 13 = p.1 := by rw [up_ne (by decide)]; exact g3
        refine yr_iload_n (pq := 29) rfl dX8_start_28 rfl ?_
        refine yr_bipush (pq := 31) rfl dX8_start_29 rfl ?_
        refine yr_ic_gt (pq := 34) (t := 59) rfl dX8_start_31 rfl (by omega) (by omega) (fun _ => ?_) (fun q9 => absurd (by omega) q9)
        refine yr_aload_n (pq := 60) rfl dX8_start_59 rfl ?_
        refine yr_getR (pq := 63) (b := 109) 0 rfl dX8_start_60 kF_8_9 (by decide) rfl ?_
        refine yr_bipush (pq := 65) rfl dX8_start_63 rfl ?_
        refine yr_iload_n (pq := 66) rfl dX8_start_65 rfl ?_
        refine yr_iast (pq := 67) rfl dX8_start_66 rfl (by decide) (by omega) ?_
        refine yr_aload_n (pq := 68) rfl dX8_start_67 rfl ?_
        refine yr_vI0 (pq := 71) rfl dX8_start_68 kM_8_235 (by decide) (by decide) cat0 (m_bestTried (by rw [e13]; omega) (fun q2 e hf => ?_) (fun q2 => ?_))
        · rw [e13, hb'] at q2
          exact yr_iret dX8_start_71 rfl (k1 q1 q2 _ e rf hf)
        · rw [e13, hb'] at q2
          rw [e13, hb']
          exact yr_iret dX8_start_71 rfl (k2 q1 q2 _ rf)
      | succ c ih =>
        intro n x p g hn hc g0 g1 g2 g3 g4 hp hb
        have f9 : up g 109 50 (h 109 50 + n) 109 = ur (h 109) 50 (h 109 50 + n) := by rw [up_row, g2, ur_ur]
        refine yr_iload_n (pq := 29) rfl dX8_start_28 rfl ?_
        refine yr_bipush (pq := 31) rfl dX8_start_29 rfl ?_
        refine yr_ic_gt (pq := 34) (t := 59) rfl dX8_start_31 rfl (by omega) (by omega) (fun q9 => absurd q9 (by omega)) (fun _ => ?_)
        refine yr_aload_n (pq := 35) rfl dX8_start_34 rfl ?_
        refine yr_getR (pq := 38) (b := 109) 0 rfl dX8_start_35 kF_8_9 (by decide) rfl ?_
        refine yr_bipush (pq := 40) rfl dX8_start_38 rfl ?_
        refine yr_iload_n (pq := 41) rfl dX8_start_40 rfl ?_
        refine yr_iload_n (pq := 42) rfl dX8_start_41 rfl ?_
        refine yr_iadd (pq := 43) rfl dX8_start_42 ?_
        refine yr_iast (pq := 44) rfl dX8_start_43 rfl (by decide) (by omega) ?_
        refine yr_aload_n (pq := 45) rfl dX8_start_44 rfl ?_
        refine yr_iload_n (pq := 46) rfl dX8_start_45 rfl ?_
        refine yr_aload_n (pq := 47) rfl dX8_start_46 rfl ?_
        refine yr_vI0 (pq := 50) rfl dX8_start_47 kM_8_220 (by decide) (by decide) (Nat.le_of_ble_eq_true rfl) (m_bestRound (w := -1) (by rw [f9]; exact okT_mid hO (by omega)) (by rw [f9]; exact okS_50 hS (by omega)) (by rw [up_ne (by decide), g1 5 (by decide)]; exact h5) (by decide) (by rw [f9, ur_s]; omega) (fun f r0 r1 => ?_))
        rw [f9] at r1 ⊢
        have lb := fnd_ok r1.2.2.2.2.2
        have f13 : f 108 13 = p.1 := by rw [r0.2.2.1 13 (by decide) (by decide) (by decide) (by decide), up_ne (by decide)]; exact g3
        have f14 : f 108 14 = p.2 := by rw [r0.2.2.1 14 (by decide) (by decide) (by decide) (by decide), up_ne (by decide)]; exact g4
        refine yr_vV2 (pq := 53) rfl dX8_start_50 kM_8_232 (by decide) (by decide) cat0 (m_tried (p := p) f13 f14 hp.2 lb (fun e e0 e1 e2 e3 => ?_))
        refine yr_iinc2 (pq := 56) rfl dX8_start_53 ?_
        refine yr_goto (t := 28) dX8_start_56 rfl ?_
        refine ih _ (h 109 50 + n) _ e (by omega) (by omega) (fun a q1 q2 q3 q4 q5 => ?_) (fun j hj => ?_) ?_ e2 e3 (pr_b (sk := nosk) hp (by omega) lb) hb
        · rw [e0 a q1, r0.1 a q1 q2 q3 q4 q5, up_ne q2]; exact g0 a q1 q2 q3 q4 q5
        · rw [e1 j (by omega) (by omega), r0.2.2.1 j (by omega) (by omega) (by omega) (by omega), up_ne (by decide)]; exact g1 j hj
        · rw [e0 109 (by decide), r0.2.1, f9]
    refine yr_if_eq (pq := 7) (t := 14) rfl dX8_start_4 rfl (by decide) (fun _ => ?_) (fun q9 => absurd (by decide) q9)
    refine yr_aload_n (pq := 15) rfl dX8_start_14 rfl ?_
    refine yr_vV0 (pq := 18) rfl dX8_start_15 kM_8_229 (by decide) (by decide) cat0 (m_nothing (fun e e0 e1 e2 e3 => ?_))
    refine yr_aload_n (pq := 19) rfl dX8_start_18 rfl ?_
    refine yr_getR (pq := 22) (b := 109) 0 rfl dX8_start_19 kF_8_9 (by decide) rfl ?_
    refine yr_bipush (pq := 24) rfl dX8_start_22 rfl ?_
    refine yr_iald (pq := 25) rfl dX8_start_24 rfl (by decide) (by omega) ?_
    refine yr_istore1 (pq := 26) rfl dX8_start_25 ?_
    refine yr_iconst (pq := 27) rfl dX8_start_26 ?_
    refine yr_istore2 (pq := 28) rfl dX8_start_27 ?_
    rw [e0 109 (by decide)]
    exact key 61 0 (h 109 50) (-1, -1) e (by omega) (by omega) (fun a q1 _ _ _ _ => e0 a q1) (fun j hj => e1 j (by omega) (by omega)) (by rw [e0 109 (by decide), ur_id]) e2 e3 (by decide) rfl
theorem s_start (hI : Inv h) : Sm (d + 30) mX7_start mX8_start [] h := by
  have hI0 := hI
  obtain ⟨⟨i1, i2, i3, i3'⟩, -, -, -, -, -, i11⟩ := hI0
  have h8 := i2.1
  have hm := i3.2.2.1
  show ClI (d + 30) mX7_start [vr 0] h (SKn (d + 30) mX8_start [vr 108])
  refine cl_in (al := [vr 0, .null, .null, .null]) rfl (Nat.le_of_ble_eq_true rfl) (by simp [vi_cat, vr_cat, vs_cat]) ?_
  refine yr_aload_n (pq := 1) rfl dX7_start_0 rfl ?_
  refine yr_vI0 (pq := 4) rfl dX7_start_1 kM_7_212 (by decide) (by decide) cat0 (c_isPast i1 i3 (fun q1 => ?_) (fun q1 => ?_))
  · refine yr_if_eq (pq := 7) (t := 13) rfl dX7_start_4 rfl (by decide) (fun q9 => absurd q9 (by decide)) (fun _ => ?_)
    refine yr_aload_n (pq := 8) rfl dX7_start_7 rfl ?_
    refine yr_iconst (pq := 9) rfl dX7_start_8 ?_
    refine yr_vI1 (pq := 12) rfl dX7_start_9 kM_7_66 (by decide) (by decide) cat0 (c_finding (by decide) ?_)
    exact yr_iret dX7_start_12 rfl (r_start (rb_u hI (by decide) (by decide)) i2 i3 i3' (fun _ e hf => fd_end hI (by decide) (by decide) hf) (fun q9 => absurd q9 (by omega)) (fun q9 => absurd q9 (by omega)))
  · have fin : ∀ (p : Int × Int) (g : hT), (∀ a, a < 69 ∨ 75 < a → g a = h a) → p = bsF nosk (stF (h 109)) 0 61 (-1, -1) → ((-1 ≤ p.1 ∧ p.1 ≤ 60) ∧ (-1 ≤ p.2 ∧ p.2 ≤ 99999)) → ∀ x, Yr (d + 29) mX7_start 104 [vr 0, vi p.1, vi p.2, x] [] g (rI (SKn (d + 30) mX8_start [vr 108])) := by
      intro p g g0 hb hp x
      refine yr_iload_n (pq := 105) rfl dX7_start_104 rfl ?_
      refine yr_if_ge (pq := 108) (t := 116) rfl dX7_start_105 rfl (by omega) (fun q2 => ?_) (fun q2 => ?_)
      · refine yr_iload_n (pq := 117) rfl dX7_start_116 rfl ?_
        refine yr_iret dX7_start_117 rfl ?_
        exact r_start (N := h 109) ⟨g0 109 (by decide), by rw [g0 108 (by decide)]; exact i11⟩ i2 i3 i3' (fun q9 => absurd q9 (by omega)) (fun _ q9 => absurd q9 (by rw [← hb]; omega)) (fun _ _ e rf => ⟨by rw [hb], Inv_rf hI (fun a ha => g0 a (by have := cr_lo ha; omega)) (g0 108 (by decide)) rf⟩)
      · refine yr_aload_n (pq := 109) rfl dX7_start_108 rfl ?_
        refine yr_iconst (pq := 110) rfl dX7_start_109 ?_
        refine yr_vI1 (pq := 113) rfl dX7_start_110 kM_7_66 (by decide) (by decide) cat0 (c_finding (by decide) ?_)
        refine yr_goto (t := 117) dX7_start_113 rfl ?_
        refine yr_iret dX7_start_117 rfl ?_
        exact r_start (N := h 109) ⟨by rw [up_ne (by decide)]; exact g0 109 (by decide), by rw [up_ne (by decide), g0 108 (by decide)]; exact i11⟩ i2 i3 i3' (fun q9 => absurd q9 (by omega)) (fun _ _ e e' rf hf => rf_find hI (by decide) (by decide) (fun a ha => g0 a (by have := cr_lo ha; omega)) (g0 108 (by decide)) rf hf) (fun _ q9 => absurd q9 (by rw [← hb]; omega))
    have key : ∀ (c : Nat) (n : Int) (p : Int × Int) (g : hT), 0 ≤ n → n + c = 61 → (∀ a, a < 69 ∨ 75 < a → g a = h a) → SK g (h 109) (-1) → g 69 4 = dueF (h 109) 0 0 (h 109 8).toNat → g 69 5 = h 109 49 → g 69 6 = totF (h 109) → g 69 7 = flF (h 109) → g 69 8 = h 109 51 → ((-1 ≤ p.1 ∧ p.1 ≤ 60) ∧ (-1 ≤ p.2 ∧ p.2 ≤ 99999)) → bsF nosk (stF (h 109)) n c p = bsF nosk (stF (h 109)) 0 61 (-1, -1) → Yr (d + 29) mX7_start 51 [vr 0, vi p.1, vi p.2, vi n] [] g (rI (SKn (d + 30) mX8_start [vr 108])) := by
      intro c
      induction c with
      | zero =>
        intro n p g hn hc g0 g1 g4 g5 g6 g7 g8 hp hb
        refine yr_iload_n (pq := 52) rfl dX7_start_51 rfl ?_
        refine yr_bipush (pq := 54) rfl dX7_start_52 rfl ?_
        refine yr_ic_gt (pq := 57) (t := 104) rfl dX7_start_54 rfl (by omega) (by omega) (fun _ => ?_) (fun q9 => absurd (by omega) q9)
        exact fin p g g0 hb hp _
      | succ c ih =>
        intro n p g hn hc g0 g1 g4 g5 g6 g7 g8 hp hb
        have eo : ∀ j, j ≠ 50 → ur (h 109) 50 (h 109 50 + n) j = h 109 j := fun j q => ur_o q
        have ed : dueF (ur (h 109) 50 (h 109 50 + n)) 0 0 (ur (h 109) 50 (h 109 50 + n) 8).toNat = dueF (h 109) 0 0 (h 109 8).toNat := by
          rw [eo 8 (by decide)]
          exact dueF_row i2 (fun j hj => eo j (by omega)) _ _ _ (by omega) (by omega)
        have et : totF (ur (h 109) 50 (h 109 50 + n)) = totF (h 109) := by unfold totF; rw [eo 45 (by decide), eo 46 (by decide), eo 47 (by decide), eo 48 (by decide)]
        have el : flF (ur (h 109) 50 (h 109 50 + n)) = flF (h 109) := by unfold flF; rw [eo 45 (by decide), eo 46 (by decide), eo 47 (by decide)]
        have ef : fndF (-1) (-1) (ur (h 109) 50 (h 109 50 + n)) = dfsF (-1) (-1) (ur (h 109) 50 (h 109 50 + n) 49) (dueF (ur (h 109) 50 (h 109 50 + n)) 0 0 (ur (h 109) 50 (h 109 50 + n) 8).toNat) (h 109 50 + n) 8 (ur (h 109) 50 (h 109 50 + n)) (2 ^ (ur (h 109) 50 (h 109 50 + n) 49).toNat) 0 p0F (0, -1, 0, 999, p0F) := by
          unfold fndF
          rw [ur_s]
        refine yr_iload_n (pq := 52) rfl dX7_start_51 rfl ?_
        refine yr_bipush (pq := 54) rfl dX7_start_52 rfl ?_
        refine yr_ic_gt (pq := 57) (t := 104) rfl dX7_start_54 rfl (by omega) (by omega) (fun q9 => absurd q9 (by omega)) (fun _ => ?_)
        refine yr_aload_n (pq := 58) rfl dX7_start_57 rfl ?_
        refine yr_getR (pq := 61) (b := 69) 4 rfl dX7_start_58 kF_7_33 (by decide) rfl ?_
        refine yr_iconst (pq := 62) rfl dX7_start_61 ?_
        refine yr_aload_n (pq := 63) rfl dX7_start_62 rfl ?_
        refine yr_getR (pq := 66) (b := 1) 0 rfl dX7_start_63 kF_7_10 (by decide) rfl ?_
        refine yr_getR (pq := 69) (b := 22) 1 rfl dX7_start_66 kF_7_135 (by decide) rfl ?_
        refine yr_getI (pq := 72) 3 rfl dX7_start_69 kF_7_163 (by decide) rfl (by decide) ?_
        refine yr_iload_n (pq := 73) rfl dX7_start_72 rfl ?_
        refine yr_iadd (pq := 74) rfl dX7_start_73 ?_
        rw [g0 22 (by decide), i1.2.2.2.2.1]
        refine yr_vV2 (pq := 77) rfl dX7_start_74 kM_7_223 (by decide) (by decide) cat0 (c_seek (N := ur (h 109) 50 (h 109 50 + n)) (w := -1) (p := p0F) (due := dueF (ur (h 109) 50 (h 109 50 + n)) 0 0 (ur (h 109) 50 (h 109 50 + n) 8).toNat) (okT_mid i2 (by omega)) (okS_50 i3 (by omega)) (SK_row g1 (fun _ _ _ => rfl) (fun j hj => eo j (by omega))) (by rw [ed]; exact g4) (by rw [eo 49 (by decide)]; exact g5) (by rw [et]; exact g6) (by rw [el]; exact g7) (by rw [eo 51 (by decide)]; exact g8) (by decide) (ur_s _ _ _) (by omega) (fun f f0 f1 f2 => ?_))
        rw [← ef] at f2
        have lb := fnd_ok f2.2.2.2.2.2.2.1
        have fl : f 69 13 = stF (h 109) n := f2.2.1
        have fs : ∀ a, a < 69 ∨ 75 < a → f a = h a := fun a ha => by rw [f0 a (by omega) (by omega) (by omega)]; exact g0 a ha
        have nx := ih (n + 1) (if nosk n = true then p else if p.2 < stF (h 109) n then (n, stF (h 109) n) else p) f (by omega) (by omega) fs (SK_row g1 (fun a q1 q2 => f0 a (by omega) (by omega) (by omega)) (fun _ _ => rfl)) (by rw [f1 4 (by decide)]; exact g4) (by rw [f1 5 (by decide)]; exact g5) (by rw [f1 6 (by decide)]; exact g6) (by rw [f1 7 (by decide)]; exact g7) (by rw [f1 8 (by decide)]; exact g8) (pr_b hp (by omega) lb) hb
        rw [if_neg (show ¬ nosk n = true from Bool.false_ne_true)] at nx
        have lb' : -1 ≤ stF (h 109) n ∧ stF (h 109) n ≤ 99999 := lb
        refine yr_aload_n (pq := 78) rfl dX7_start_77 rfl ?_
        refine yr_getR (pq := 81) (b := 69) 4 rfl dX7_start_78 kF_7_33 (by decide) rfl ?_
        refine yr_getI (pq := 84) 13 rfl dX7_start_81 kF_7_193 (by decide) rfl (by decide) ?_
        refine yr_iload_n (pq := 85) rfl dX7_start_84 rfl ?_
        rw [fl]
        refine yr_ic_le (pq := 88) (t := 98) rfl dX7_start_85 rfl (by omega) (by omega) (fun q3 => ?_) (fun q3 => ?_)
        · rw [if_neg (by omega)] at nx
          refine yr_iinc3 (pq := 101) rfl dX7_start_98 ?_
          refine yr_goto (t := 51) dX7_start_101 rfl ?_
          exact nx
        · rw [if_pos (by omega)] at nx
          refine yr_aload_n (pq := 89) rfl dX7_start_88 rfl ?_
          refine yr_getR (pq := 92) (b := 69) 4 rfl dX7_start_89 kF_7_33 (by decide) rfl ?_
          refine yr_getI (pq := 95) 13 rfl dX7_start_92 kF_7_193 (by decide) rfl (by decide) ?_
          refine yr_istore2 (pq := 96) rfl dX7_start_95 ?_
          refine yr_iload_n (pq := 97) rfl dX7_start_96 rfl ?_
          refine yr_istore1 (pq := 98) rfl dX7_start_97 ?_
          refine yr_iinc3 (pq := 101) rfl dX7_start_98 ?_
          refine yr_goto (t := 51) dX7_start_101 rfl ?_
          rw [fl]
          exact nx
    refine yr_if_eq (pq := 7) (t := 13) rfl dX7_start_4 rfl (by decide) (fun _ => ?_) (fun q9 => absurd (by decide) q9)
    refine yr_iconst (pq := 14) rfl dX7_start_13 ?_
    refine yr_istore1 (pq := 15) rfl dX7_start_14 ?_
    refine yr_iconst (pq := 16) rfl dX7_start_15 ?_
    refine yr_istore2 (pq := 17) rfl dX7_start_16 ?_
    refine yr_aload_n (pq := 18) rfl dX7_start_17 rfl ?_
    refine yr_getR (pq := 21) (b := 69) 4 rfl dX7_start_18 kF_7_33 (by decide) rfl ?_
    refine yr_aload_n (pq := 22) rfl dX7_start_21 rfl ?_
    refine yr_getR (pq := 25) (b := 1) 0 rfl dX7_start_22 kF_7_10 (by decide) rfl ?_
    refine yr_getR (pq := 28) (b := 2) 0 rfl dX7_start_25 kF_7_70 (by decide) rfl ?_
    refine yr_aload_n (pq := 29) rfl dX7_start_28 rfl ?_
    refine yr_getR (pq := 32) (b := 1) 0 rfl dX7_start_29 kF_7_10 (by decide) rfl ?_
    refine yr_getR (pq := 35) (b := 22) 1 rfl dX7_start_32 kF_7_135 (by decide) rfl ?_
    refine yr_aload_n (pq := 36) rfl dX7_start_35 rfl ?_
    refine yr_getR (pq := 39) (b := 1) 0 rfl dX7_start_36 kF_7_10 (by decide) rfl ?_
    refine yr_getR (pq := 42) (b := 22) 1 rfl dX7_start_39 kF_7_135 (by decide) rfl ?_
    refine yr_getI (pq := 45) 1 rfl dX7_start_42 kF_7_139 (by decide) rfl (by decide) ?_
    refine yr_iconst (pq := 46) rfl dX7_start_45 ?_
    rw [i1.2.2.1]
    refine yr_vV4 (pq := 49) rfl dX7_start_46 kM_7_219 (by decide) (by decide) cat0 (c_prepare (N := h 109) (T := 2) (w := -1) (by decide) i1.1 i2 rfl i3.1 i1.2.1 (by have := i3.2.2.2.2.1; omega) i1.2.2.2.1 i1.2.2.2.2.2.1 (by decide) (fun f f0 f1 f2 f3 f4 f5 f6 => ?_))
    refine yr_iconst (pq := 50) rfl dX7_start_49 ?_
    refine yr_istore3 (pq := 51) rfl dX7_start_50 ?_
    exact key 61 0 (-1, -1) f (by omega) (by omega) (fun a ha => f0 a (by omega)) f1 f2 f3 f4 f5 f6 (by decide) rfl
end S26
