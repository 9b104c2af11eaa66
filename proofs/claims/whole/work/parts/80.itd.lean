/-! the class reads an item -/
/-- what the class's reading leaves -/
def AW (h g : hT) : Prop := (∀ a, a ≠ 76 → (a < 78 ∨ 97 < a) → g a = h a) ∧ ∀ j, j < 3 → g 76 j = h 76 j
theorem AW_r (h : hT) : AW h h := ⟨fun _ _ _ => rfl, fun _ _ => rfl⟩
theorem AW_t {h g f : hT} (a : AW h g) (b : AW g f) : AW h f := ⟨fun x q r => (b.1 x q r).trans (a.1 x q r), fun j q => (b.2 j q).trans (a.2 j q)⟩
theorem AW_v {h g : hT} (a : AV h g) : AW h g := ⟨fun x q _ => a.1 x q, fun j q => a.2 j (by omega)⟩
def CS (t : Int → Int) (sz : Int) (h : hT) (S : tkT) (P : Int → Int) : Prop := TP (h 77) sz t ∧ h 76 1 = sz ∧ TC h S ∧ okK sz 0 S ∧ RT h 78 P ∧ okT P ∧ h 76 3 = P 44 ∧ (0 ≤ P 44 ∧ P 44 ≤ 1)
/-- what an item's reading answers -/
def RA (t : Int → Int) (sz : Int) (h : hT) (A : itT) (K : Int → hT → Prop) : Prop := ∀ g, AW h g → TC g A.2.1 → (A.1 = true → RT g 78 A.2.2 ∧ g 76 3 = A.2.2 44) → K (if A.1 = true then 1 else 0) g
theorem RA_1 {t : Int → Int} {sz : Int} {h g : hT} {S : tkT} {P : Int → Int} {K : Int → hT → Prop} (k : RA t sz h (true, S, P) K) (a : AW h g) (c : TC g S) (r : RT g 78 P) (s : g 76 3 = P 44) : K 1 g := k g a c (fun _ => ⟨r, s⟩)
theorem RA_0 {t : Int → Int} {sz : Int} {h g : hT} {S : tkT} {P : Int → Int} {K : Int → hT → Prop} (k : RA t sz h (false, S, P) K) (a : AW h g) (c : TC g S) : K 0 g := k g a c (fun q => absurd q Bool.false_ne_true)
theorem RA_m {t : Int → Int} {sz : Int} {h g : hT} {A : itT} {K : Int → hT → Prop} (k : RA t sz h A K) (a : AW h g) : RA t sz g A K := fun f b c r => k f (AW_t a b) c r
section TJ
variable {d : Nat} {h : hT} {K : Int → hT → Prop} {KV : hT → Prop} {t : Int → Int} {sz : Int} {S : tkT} {P : Int → Int}
theorem c_adv (H : CS t sz h S P) (k : ∀ g, AW h g → CS t sz g (nx t sz S) P → KV g) : ClV (d + 2) mX0_advance [vr 76] h KV := by
  obtain ⟨a1, a2, a3, a4, a5, a6, a7, a8⟩ := H
  have z := a4.1
  refine c_advance a1 a2 a3.2.1 (by omega) (fun g v c => k g (AW_v v) ⟨?_, ?_, c, okK_m (nx_ok a4) (by omega), RT_cong a5 a6 (fun j j0 j1 j2 => v.1 _ (by omega)), a6, ?_, a8⟩)
  · rw [v.1 77 (by decide)]; exact a1
  · rw [v.2 1 (by decide)]; exact a2
  · rw [v.2 3 (by decide)]; exact a7
theorem c_wrd {w : Int} (hw : 0 ≤ w ∧ w < 15) (H : CS t sz h S P) (k1 : wdF t S w = true → K 1 h) (k0 : ¬ wdF t S w = true → K 0 h) : ClI (d + 2) mX0_isWord [vr 76, vs w] h K := c_isWord hw H.1 H.2.1 H.2.2.1 (Int.le_refl 0) H.2.2.2.1 k1 k0
theorem c_num {lo hi : Int} (H : CS t sz h S P) (hl : -2147483648 ≤ lo ∧ lo ≤ 2147483647) (hh : -2147483648 ≤ hi ∧ hi ≤ 2147483647) (k1 : nmB S lo hi = true → K 1 h) (k0 : ¬ nmB S lo hi = true → K 0 h) : ClI (d + 2) mX0_isNumber [vr 76, vi lo, vi hi] h K := c_isNumber H.2.2.1 H.2.2.2.1 hl hh k1 k0
theorem c_readWeather {w r T i : Int} (hw : 0 ≤ w ∧ w < 15) (hT : (T = 81 ∧ r = 20 + i) ∨ (T = 82 ∧ r = 32 + i)) (hi : 0 ≤ i ∧ i ≤ 11) (H : CS t sz h S P) (k : RA t sz h (weF t sz S w r P) K) : ClI (d + 3) mX0_readWeather [vr 76, vs w, vr T, vi i] h K := by
  have hA : am_kd T.toNat = (0, 12) := by rcases hT with ⟨q, -⟩ | ⟨q, -⟩ <;> rw [q] <;> rfl
  unfold weF at k
  refine cl_in (al := [vr 76, vs w, vr T, vi i]) rfl (Nat.le_of_ble_eq_true rfl) (by simp [vi_cat, vr_cat, vs_cat]) ?_
  refine yr_aload_n (pq := 1) rfl dX0_readWeather_0 rfl ?_
  refine yr_sload_n (pq := 2) rfl dX0_readWeather_1 rfl ?_
  refine yr_vI1 (pq := 5) rfl dX0_readWeather_2 kM_0_77 (by decide) (by decide) cat0 (c_wrd hw H (fun q1 => ?_) (fun q1 => ?_))
  · rw [if_pos q1] at k
    refine yr_if_ne (pq := 8) (t := 10) rfl dX0_readWeather_5 rfl (by decide) (fun _ => ?_) (fun q9 => absurd q9 (by decide))
    refine yr_aload_n (pq := 11) rfl dX0_readWeather_10 rfl ?_
    refine yr_vV0 (pq := 14) rfl dX0_readWeather_11 kM_0_41 (by decide) (by decide) cat0 (c_adv H (fun g g0 g1 => ?_))
    refine yr_aload_n (pq := 15) rfl dX0_readWeather_14 rfl ?_
    refine yr_iconst (pq := 16) rfl dX0_readWeather_15 ?_
    refine yr_bipush (pq := 18) rfl dX0_readWeather_16 rfl ?_
    refine yr_vI2 (pq := 21) rfl dX0_readWeather_18 kM_0_92 (by decide) (by decide) cat0 (c_num g1 (by decide) (by decide) (fun q2 => ?_) (fun q2 => ?_))
    · rw [if_pos q2] at k
      rw [nmB_t] at q2
      obtain ⟨b1, b2, b3, b4, b5, b6, b7, b8⟩ := g1
      refine yr_if_ne (pq := 24) (t := 26) rfl dX0_readWeather_21 rfl (by decide) (fun _ => ?_) (fun q9 => absurd q9 (by decide))
      refine yr_aload_n (pq := 27) rfl dX0_readWeather_26 rfl ?_
      refine yr_iload_n (pq := 28) rfl dX0_readWeather_27 rfl ?_
      refine yr_aload_n (pq := 29) rfl dX0_readWeather_28 rfl ?_
      refine yr_getI (pq := 32) 7 rfl dX0_readWeather_29 kF_0_38 (by decide) rfl (by decide) ?_
      refine yr_iast (pq := 33) rfl dX0_readWeather_32 hA (by omega) (by omega) ?_
      refine yr_aload_n (pq := 34) rfl dX0_readWeather_33 rfl ?_
      rw [b3.2.2.2]
      have H2 : CS t sz (up g T i (nx t sz S).2.2.2) (nx t sz S) (ur P r (nx t sz S).2.2.2) := by
        refine ⟨?_, ?_, ?_, b4, ?_, okT_sky b6 (by omega) q2.2, ?_, ?_⟩
        · rw [up_ne (by omega)]; exact b1
        · rw [up_ne (by omega)]; exact b2
        · unfold TC; rw [up_ne (by omega)]; exact b3
        · obtain ⟨t1, t2, t3, t4, t5⟩ := b5
          have h8 := b6.1
          refine ⟨up_ur t1 (by omega), fun c c0 c1 => up_ur (t2 c c0 c1) (by omega), fun j j0 j1 => up_ur (t3 j j0 j1) (by omega), fun j j0 j1 => up_ur (t4 j j0 j1) (by omega), fun s s0 s1 => ?_⟩
          rw [ur_o (by omega)] at s1
          rw [up_ne (by omega), ur_o (by omega), ur_o (by omega), ur_o (by omega), ur_o (by omega), ur_o (by omega)]
          exact t5 s s0 s1
        · rw [up_ne (by omega), ur_o (by omega)]; exact b7
        · rw [ur_o (by omega)]; exact b8
      have a2 : AW h (up g T i (nx t sz S).2.2.2) := AW_t g0 ⟨fun a q r => by rw [up_ne (by omega)], fun j hj => by rw [up_ne (by omega)]⟩
      refine yr_vV0 (pq := 37) rfl dX0_readWeather_34 kM_0_41 (by decide) (by decide) cat0 (c_adv H2 (fun f f0 f1 => ?_))
      refine yr_iconst (pq := 38) rfl dX0_readWeather_37 ?_
      exact yr_zret dX0_readWeather_38 rfl (by first | decide | omega) (RA_1 k (AW_t a2 f0) f1.2.2.1 f1.2.2.2.2.1 f1.2.2.2.2.2.2.1)
    · rw [if_neg q2] at k
      refine yr_if_ne (pq := 24) (t := 26) rfl dX0_readWeather_21 rfl (by decide) (fun q9 => absurd (by decide) q9) (fun _ => ?_)
      refine yr_iconst (pq := 25) rfl dX0_readWeather_24 ?_
      exact yr_zret dX0_readWeather_25 rfl (by first | decide | omega) (RA_0 k g0 g1.2.2.1)
  · rw [if_neg q1] at k
    refine yr_if_ne (pq := 8) (t := 10) rfl dX0_readWeather_5 rfl (by decide) (fun q9 => absurd (by decide) q9) (fun _ => ?_)
    refine yr_iconst (pq := 9) rfl dX0_readWeather_8 ?_
    exact yr_zret dX0_readWeather_9 rfl (by first | decide | omega) (RA_1 k (AW_r h) H.2.2.1 H.2.2.2.2.1 H.2.2.2.2.2.2.1)
theorem c_readSpell (H : CS t sz h S P) (k : RA t sz h (sp1 t sz (nx t sz S) P) K) : ClI (d + 4) mX0_readSpell [vr 76] h K := by
  unfold sp1 at k
  refine cl_in (al := [vr 76, .null]) rfl (Nat.le_of_ble_eq_true rfl) (by simp [vi_cat, vr_cat, vs_cat]) ?_
  refine yr_aload_n (pq := 1) rfl dX0_readSpell_0 rfl ?_
  refine yr_vV0 (pq := 4) rfl dX0_readSpell_1 kM_0_41 (by decide) (by decide) cat0 (c_adv H (fun g g0 g1 => ?_))
  refine yr_aload_n (pq := 5) rfl dX0_readSpell_4 rfl ?_
  refine yr_iconst (pq := 6) rfl dX0_readSpell_5 ?_
  refine yr_bipush (pq := 8) rfl dX0_readSpell_6 rfl ?_
  refine yr_vI2 (pq := 11) rfl dX0_readSpell_8 kM_0_92 (by decide) (by decide) cat0 (c_num g1 (by decide) (by decide) (fun q1 => ?_) (fun q1 => ?_))
  · rw [if_pos q1] at k
    rw [nmB_t] at q1
    refine yr_if_ne (pq := 14) (t := 16) rfl dX0_readSpell_11 rfl (by decide) (fun _ => ?_) (fun q9 => absurd q9 (by decide))
    refine yr_aload_n (pq := 17) rfl dX0_readSpell_16 rfl ?_
    refine yr_getI (pq := 20) 7 rfl dX0_readSpell_17 kF_0_38 (by decide) rfl (by decide) ?_
    refine yr_istore1 (pq := 21) rfl dX0_readSpell_20 ?_
    refine yr_aload_n (pq := 22) rfl dX0_readSpell_21 rfl ?_
    rw [g1.2.2.1.2.2.2]
    refine yr_vV0 (pq := 25) rfl dX0_readSpell_22 kM_0_41 (by decide) (by decide) cat0 (c_adv g1 (fun f f0 f1 => ?_))
    have w1 := OI_we (t := t) (w := 10) (r := 20 + (nx t sz S).2.2.2) f1.2.2.2.1 f1.2.2.2.2.2.1 f1.2.2.2.2.2.2.2 (by omega)
    refine yr_aload_n (pq := 26) rfl dX0_readSpell_25 rfl ?_
    refine yr_ldcs (pq := 28) (t := 10) rfl dX0_readSpell_26 kT_0_104 kS_0_104 ?_
    refine yr_aload_n (pq := 29) rfl dX0_readSpell_28 rfl ?_
    refine yr_getR (pq := 32) (b := 78) 2 rfl dX0_readSpell_29 kF_0_22 (by decide) rfl ?_
    refine yr_getR (pq := 35) 3 rfl dX0_readSpell_32 kF_0_106 (tw_c (by decide)) (fr_6_3 (by decide)) ?_
    refine yr_iload_n (pq := 36) rfl dX0_readSpell_35 rfl ?_
    refine yr_vI3 (pq := 39) rfl dX0_readSpell_36 kM_0_108 (by decide) (by decide) cat0 (c_readWeather (r := 20 + (nx t sz S).2.2.2) (by decide) (Or.inl ⟨by decide, rfl⟩) q1.2 f1 (fun e e0 e1 e2 => ?_))
    by_cases q2 : (weF t sz (nx t sz (nx t sz S)) 10 (20 + (nx t sz S).2.2.2) P).1 = true
    · rw [if_pos q2] at k ⊢
      obtain ⟨u1, u2, u3, u4⟩ := w1.2 q2
      obtain ⟨r1, r2⟩ := e2 q2
      have H3 : CS t sz e (weF t sz (nx t sz (nx t sz S)) 10 (20 + (nx t sz S).2.2.2) P).2.1 (weF t sz (nx t sz (nx t sz S)) 10 (20 + (nx t sz S).2.2.2) P).2.2 := ⟨by rw [e0.1 77 (by decide) (by decide)]; exact f1.1, by rw [e0.2 1 (by decide)]; exact f1.2.1, e1, w1.1, r1, u1, r2, u3⟩
      refine yr_if_eq (pq := 42) (t := 63) rfl dX0_readSpell_39 rfl (by decide) (fun q9 => absurd q9 (by decide)) (fun _ => ?_)
      refine yr_aload_n (pq := 43) rfl dX0_readSpell_42 rfl ?_
      refine yr_ldcs (pq := 45) (t := 11) rfl dX0_readSpell_43 kT_0_112 kS_0_112 ?_
      refine yr_aload_n (pq := 46) rfl dX0_readSpell_45 rfl ?_
      refine yr_getR (pq := 49) (b := 78) 2 rfl dX0_readSpell_46 kF_0_22 (by decide) rfl ?_
      refine yr_getR (pq := 52) 4 rfl dX0_readSpell_49 kF_0_114 (tw_c (by decide)) (fr_6_4 (by decide)) ?_
      refine yr_iload_n (pq := 53) rfl dX0_readSpell_52 rfl ?_
      refine yr_vI3 (pq := 56) rfl dX0_readSpell_53 kM_0_108 (by decide) (by decide) cat0 (c_readWeather (r := 32 + (nx t sz S).2.2.2) (by decide) (Or.inr ⟨by decide, rfl⟩) q1.2 H3 (fun e3 e4 e5 e6 => ?_))
      by_cases q3 : (weF t sz (weF t sz (nx t sz (nx t sz S)) 10 (20 + (nx t sz S).2.2.2) P).2.1 11 (32 + (nx t sz S).2.2.2) (weF t sz (nx t sz (nx t sz S)) 10 (20 + (nx t sz S).2.2.2) P).2.2).1 = true
      · rw [if_pos q3]
        have kk := k e3 (AW_t g0 (AW_t f0 (AW_t e0 e4))) e5 e6
        rw [if_pos q3] at kk
        refine yr_if_eq (pq := 59) (t := 63) rfl dX0_readSpell_56 rfl (by decide) (fun q9 => absurd q9 (by decide)) (fun _ => ?_)
        refine yr_iconst (pq := 60) rfl dX0_readSpell_59 ?_
        refine yr_goto (t := 64) dX0_readSpell_60 rfl ?_
        exact yr_zret dX0_readSpell_64 rfl (by first | decide | omega) (kk)
      · rw [if_neg q3]
        have kk := k e3 (AW_t g0 (AW_t f0 (AW_t e0 e4))) e5 e6
        rw [if_neg q3] at kk
        refine yr_if_eq (pq := 59) (t := 63) rfl dX0_readSpell_56 rfl (by decide) (fun _ => ?_) (fun q9 => absurd (by decide) q9)
        refine yr_iconst (pq := 64) rfl dX0_readSpell_63 ?_
        exact yr_zret dX0_readSpell_64 rfl (by first | decide | omega) (kk)
    · rw [if_neg q2] at k ⊢
      have kk := k e (AW_t g0 (AW_t f0 e0)) e1 e2
      rw [if_neg q2] at kk
      refine yr_if_eq (pq := 42) (t := 63) rfl dX0_readSpell_39 rfl (by decide) (fun _ => ?_) (fun q9 => absurd (by decide) q9)
      refine yr_iconst (pq := 64) rfl dX0_readSpell_63 ?_
      exact yr_zret dX0_readSpell_64 rfl (by first | decide | omega) (kk)
  · rw [if_neg q1] at k
    refine yr_if_ne (pq := 14) (t := 16) rfl dX0_readSpell_11 rfl (by decide) (fun q9 => absurd (by decide) q9) (fun _ => ?_)
    refine yr_iconst (pq := 15) rfl dX0_readSpell_14 ?_
    exact yr_zret dX0_readSpell_15 rfl (by first | decide | omega) (RA_0 k g0 g1.2.2.1)
theorem c_readQuarter (H : CS t sz h S P) (k : RA t sz h (qu1 t sz (nx t sz S) P) K) : ClI (d + 3) mX0_readQuarter [vr 76] h K := by
  unfold qu1 at k
  refine cl_in (al := [vr 76, .null]) rfl (Nat.le_of_ble_eq_true rfl) (by simp [vi_cat, vr_cat, vs_cat]) ?_
  refine yr_aload_n (pq := 1) rfl dX0_readQuarter_0 rfl ?_
  refine yr_vV0 (pq := 4) rfl dX0_readQuarter_1 kM_0_41 (by decide) (by decide) cat0 (c_adv H (fun g g0 g1 => ?_))
  refine yr_aload_n (pq := 5) rfl dX0_readQuarter_4 rfl ?_
  refine yr_iconst (pq := 6) rfl dX0_readQuarter_5 ?_
  refine yr_bipush (pq := 8) rfl dX0_readQuarter_6 rfl ?_
  refine yr_vI2 (pq := 11) rfl dX0_readQuarter_8 kM_0_92 (by decide) (by decide) cat0 (c_num g1 (by decide) (by decide) (fun q1 => ?_) (fun q1 => ?_))
  · rw [if_pos q1] at k
    rw [nmB_t] at q1
    refine yr_if_ne (pq := 14) (t := 16) rfl dX0_readQuarter_11 rfl (by decide) (fun _ => ?_) (fun q9 => absurd q9 (by decide))
    refine yr_aload_n (pq := 17) rfl dX0_readQuarter_16 rfl ?_
    refine yr_getI (pq := 20) 7 rfl dX0_readQuarter_17 kF_0_38 (by decide) rfl (by decide) ?_
    refine yr_istore1 (pq := 21) rfl dX0_readQuarter_20 ?_
    refine yr_aload_n (pq := 22) rfl dX0_readQuarter_21 rfl ?_
    rw [g1.2.2.1.2.2.2]
    refine yr_vV0 (pq := 25) rfl dX0_readQuarter_22 kM_0_41 (by decide) (by decide) cat0 (c_adv g1 (fun f f0 f1 => ?_))
    refine yr_aload_n (pq := 26) rfl dX0_readQuarter_25 rfl ?_
    refine yr_iconst (pq := 27) rfl dX0_readQuarter_26 ?_
    refine yr_iconst (pq := 28) rfl dX0_readQuarter_27 ?_
    refine yr_vI2 (pq := 31) rfl dX0_readQuarter_28 kM_0_92 (by decide) (by decide) cat0 (c_num f1 (by decide) (by decide) (fun q2 => ?_) (fun q2 => ?_))
    · rw [if_pos q2] at k
      rw [nmB_t] at q2
      obtain ⟨b1, b2, b3, b4, b5, b6, b7, b8⟩ := f1
      refine yr_if_ne (pq := 34) (t := 36) rfl dX0_readQuarter_31 rfl (by decide) (fun _ => ?_) (fun q9 => absurd q9 (by decide))
      refine yr_aload_n (pq := 37) rfl dX0_readQuarter_36 rfl ?_
      refine yr_getR (pq := 40) (b := 78) 2 rfl dX0_readQuarter_37 kF_0_22 (by decide) rfl ?_
      refine yr_getR (pq := 43) 2 rfl dX0_readQuarter_40 kF_0_116 (tw_c (by decide)) (fr_6_2 (by decide)) ?_
      refine yr_iload_n (pq := 44) rfl dX0_readQuarter_43 rfl ?_
      refine yr_aload_n (pq := 45) rfl dX0_readQuarter_44 rfl ?_
      refine yr_getI (pq := 48) 7 rfl dX0_readQuarter_45 kF_0_38 (by decide) rfl (by decide) ?_
      refine yr_iast (pq := 49) rfl dX0_readQuarter_48 (tw_k2 (by decide)) (tw_n (by decide) 2 (by decide)) (by omega) ?_
      refine yr_aload_n (pq := 50) rfl dX0_readQuarter_49 rfl ?_
      rw [b3.2.2.2]
      have H2 : CS t sz (up f (78 + 2) (nx t sz S).2.2.2 (nx t sz (nx t sz S)).2.2.2) (nx t sz (nx t sz S)) (ur P (nx t sz S).2.2.2 (nx t sz (nx t sz S)).2.2.2) := by
        refine ⟨?_, ?_, ?_, b4, ?_, okT_q b6 q1.2 q2.2, ?_, ?_⟩
        · rw [up_ne (by omega)]; exact b1
        · rw [up_ne (by omega)]; exact b2
        · unfold TC; rw [up_ne (by omega)]; exact b3
        · obtain ⟨t1, t2, t3, t4, t5⟩ := b5
          have h8 := b6.1
          refine ⟨up_ur t1 (by omega), fun c c0 c1 => up_ur (t2 c c0 c1) (by omega), fun j j0 j1 => up_ur (t3 j j0 j1) (by omega), fun j j0 j1 => up_ur (t4 j j0 j1) (by omega), fun s s0 s1 => ?_⟩
          rw [ur_o (by omega)] at s1
          rw [up_ne (by omega), ur_o (by omega), ur_o (by omega), ur_o (by omega), ur_o (by omega), ur_o (by omega)]
          exact t5 s s0 s1
        · rw [up_ne (by omega), ur_o (by omega)]; exact b7
        · rw [ur_o (by omega)]; exact b8
      have a2 : AW h (up f (78 + 2) (nx t sz S).2.2.2 (nx t sz (nx t sz S)).2.2.2) := AW_t (AW_t g0 f0) ⟨fun a q r => by rw [up_ne (by omega)], fun j hj => by rw [up_ne (by omega)]⟩
      refine yr_vV0 (pq := 53) rfl dX0_readQuarter_50 kM_0_41 (by decide) (by decide) cat0 (c_adv H2 (fun e e0 e1 => ?_))
      refine yr_iconst (pq := 54) rfl dX0_readQuarter_53 ?_
      exact yr_zret dX0_readQuarter_54 rfl (by first | decide | omega) (RA_1 k (AW_t a2 e0) e1.2.2.1 e1.2.2.2.2.1 e1.2.2.2.2.2.2.1)
    · rw [if_neg q2] at k
      refine yr_if_ne (pq := 34) (t := 36) rfl dX0_readQuarter_31 rfl (by decide) (fun q9 => absurd (by decide) q9) (fun _ => ?_)
      refine yr_iconst (pq := 35) rfl dX0_readQuarter_34 ?_
      exact yr_zret dX0_readQuarter_35 rfl (by first | decide | omega) (RA_0 k (AW_t g0 f0) f1.2.2.1)
  · rw [if_neg q1] at k
    refine yr_if_ne (pq := 14) (t := 16) rfl dX0_readQuarter_11 rfl (by decide) (fun q9 => absurd (by decide) q9) (fun _ => ?_)
    refine yr_iconst (pq := 15) rfl dX0_readQuarter_14 ?_
    exact yr_zret dX0_readQuarter_15 rfl (by first | decide | omega) (RA_0 k g0 g1.2.2.1)
theorem c_readStreet {kd : Int} (hk : 0 ≤ kd ∧ kd ≤ 6) (H : CS t sz h S P) (h14 : P 8 < 14) (k : RA t sz h (st1 t sz (nx t sz S) P kd) K) : ClI (d + 3) mX0_readStreet [vr 76, vi kd] h K := by
  have add : ∀ (g : hT) (Z : tkT) (a b l u : Int), CS t sz g Z P → RA t sz g (true, Z, addN P kd a b l u) K → Yr (d + 2) mX0_readStreet 111 [vr 76, vi kd, vi a, vi b, vi l, vi u] [] g (rI K) := by
    intro g Z a b l u G kk
    have h8 := G.2.2.2.2.2.1.1
    refine yr_aload_n (pq := 112) rfl dX0_readStreet_111 rfl ?_
    refine yr_getR (pq := 115) (b := 78) 2 rfl dX0_readStreet_112 kF_0_22 (by decide) rfl ?_
    refine yr_iload_n (pq := 116) rfl dX0_readStreet_115 rfl ?_
    refine yr_iload_n (pq := 117) rfl dX0_readStreet_116 rfl ?_
    refine yr_iload_n (pq := 118) rfl dX0_readStreet_117 rfl ?_
    refine yr_iload (pq := 120) rfl dX0_readStreet_118 rfl ?_
    refine yr_iload (pq := 122) rfl dX0_readStreet_120 rfl ?_
    refine yr_vI5 (pq := 125) rfl dX0_readStreet_122 kM_0_100 (by decide) (tw_c (by decide)) cat0 (c_add (T := 78) (N := P) (by decide) G.2.2.2.2.1 G.2.2.2.2.2.1 h14 (fun f f0 f1 => ?_))
    refine yr_pop (pq := 126) rfl dX0_readStreet_125 rfl ?_
    refine yr_iconst (pq := 127) rfl dX0_readStreet_126 ?_
    refine yr_zret dX0_readStreet_127 rfl (by first | decide | omega) ?_
    have e76 : f 76 = g 76 := f0 76 (by decide) (by omega)
    refine RA_1 kk ⟨fun x q1 q2 => f0 x (by omega) (by omega), fun j _ => by rw [e76]⟩ ?_ f1 ?_
    · unfold TC; rw [e76]; exact G.2.2.1
    · rw [e76, addN_lo h8.1 (by decide) (by decide)]; exact G.2.2.2.2.2.2.1
  have umb : ∀ (g : hT) (Z : tkT) (a b l : Int), CS t sz g Z P → RA t sz g (umF t sz Z P kd a b l) K → ∀ x, Yr (d + 2) mX0_readStreet 92 [vr 76, vi kd, vi a, vi b, vi l, x] [] g (rI K) := by
    intro g Z a b l G kk x
    unfold umF at kk
    refine yr_iconst (pq := 93) rfl dX0_readStreet_92 ?_
    refine yr_istore5 (pq := 95) rfl dX0_readStreet_93 ?_
    refine yr_aload_n (pq := 96) rfl dX0_readStreet_95 rfl ?_
    refine yr_ldcs (pq := 98) (t := 8) rfl dX0_readStreet_96 kT_0_98 kS_0_98 ?_
    refine yr_vI1 (pq := 101) rfl dX0_readStreet_98 kM_0_77 (by decide) (by decide) cat0 (c_wrd (by decide) G (fun q => ?_) (fun q => ?_))
    · rw [if_pos q] at kk
      refine yr_if_eq (pq := 104) (t := 111) rfl dX0_readStreet_101 rfl (by decide) (fun q9 => absurd q9 (by decide)) (fun _ => ?_)
      refine yr_iconst (pq := 105) rfl dX0_readStreet_104 ?_
      refine yr_istore5 (pq := 107) rfl dX0_readStreet_105 ?_
      refine yr_aload_n (pq := 108) rfl dX0_readStreet_107 rfl ?_
      refine yr_vV0 (pq := 111) rfl dX0_readStreet_108 kM_0_41 (by decide) (by decide) cat0 (c_adv G (fun f f0 f1 => ?_))
      exact add f _ a b l 1 f1 (RA_m kk f0)
    · rw [if_neg q] at kk
      refine yr_if_eq (pq := 104) (t := 111) rfl dX0_readStreet_101 rfl (by decide) (fun _ => ?_) (fun q9 => absurd (by decide) q9)
      exact add g _ a b l 0 G kk
  unfold st1 at k
  refine cl_in (al := [vr 76, vi kd, .null, .null, .null, .null]) rfl (Nat.le_of_ble_eq_true rfl) (by simp [vi_cat, vr_cat, vs_cat]) ?_
  refine yr_aload_n (pq := 1) rfl dX0_readStreet_0 rfl ?_
  refine yr_vV0 (pq := 4) rfl dX0_readStreet_1 kM_0_41 (by decide) (by decide) cat0 (c_adv H (fun g g0 g1 => ?_))
  have k := RA_m k g0
  refine yr_aload_n (pq := 5) rfl dX0_readStreet_4 rfl ?_
  refine yr_iconst (pq := 6) rfl dX0_readStreet_5 ?_
  refine yr_bipush (pq := 8) rfl dX0_readStreet_6 rfl ?_
  refine yr_vI2 (pq := 11) rfl dX0_readStreet_8 kM_0_92 (by decide) (by decide) cat0 (c_num g1 (by decide) (by decide) (fun q1 => ?_) (fun q1 => ?_))
  · rw [if_pos q1] at k
    unfold st2 at k
    have v1 := g1.2.2.2.1.2.2.1
    refine yr_if_ne (pq := 14) (t := 16) rfl dX0_readStreet_11 rfl (by decide) (fun _ => ?_) (fun q9 => absurd q9 (by decide))
    refine yr_aload_n (pq := 17) rfl dX0_readStreet_16 rfl ?_
    refine yr_getI (pq := 20) 7 rfl dX0_readStreet_17 kF_0_38 (by decide) rfl (by decide) ?_
    refine yr_istore2 (pq := 21) rfl dX0_readStreet_20 ?_
    refine yr_aload_n (pq := 22) rfl dX0_readStreet_21 rfl ?_
    rw [g1.2.2.1.2.2.2]
    refine yr_vV0 (pq := 25) rfl dX0_readStreet_22 kM_0_41 (by decide) (by decide) cat0 (c_adv g1 (fun f f0 f1 => ?_))
    have k := RA_m k f0
    have v2 := f1.2.2.2.1.2.2.1
    refine yr_aload_n (pq := 26) rfl dX0_readStreet_25 rfl ?_
    refine yr_iconst (pq := 27) rfl dX0_readStreet_26 ?_
    refine yr_bipush (pq := 29) rfl dX0_readStreet_27 rfl ?_
    refine yr_vI2 (pq := 32) rfl dX0_readStreet_29 kM_0_92 (by decide) (by decide) cat0 (c_num f1 (by decide) (by decide) (fun q2 => ?_) (fun q2 => ?_))
    · refine yr_if_eq (pq := 35) (t := 43) rfl dX0_readStreet_32 rfl (by decide) (fun q9 => absurd q9 (by decide)) (fun _ => ?_)
      refine yr_aload_n (pq := 36) rfl dX0_readStreet_35 rfl ?_
      refine yr_getI (pq := 39) 7 rfl dX0_readStreet_36 kF_0_38 (by decide) rfl (by decide) ?_
      refine yr_iload_n (pq := 40) rfl dX0_readStreet_39 rfl ?_
      rw [f1.2.2.1.2.2.2]
      refine yr_ic_ne (pq := 43) (t := 45) rfl dX0_readStreet_40 rfl (by omega) (by omega) (fun q3 => ?_) (fun q3 => ?_)
      · rw [if_pos ⟨q2, q3⟩] at k
        unfold st3 at k
        refine yr_aload_n (pq := 46) rfl dX0_readStreet_45 rfl ?_
        refine yr_getI (pq := 49) 7 rfl dX0_readStreet_46 kF_0_38 (by decide) rfl (by decide) ?_
        refine yr_istore3 (pq := 50) rfl dX0_readStreet_49 ?_
        refine yr_aload_n (pq := 51) rfl dX0_readStreet_50 rfl ?_
        rw [f1.2.2.1.2.2.2]
        refine yr_vV0 (pq := 54) rfl dX0_readStreet_51 kM_0_41 (by decide) (by decide) cat0 (c_adv f1 (fun e e0 e1 => ?_))
        have k := RA_m k e0
        refine yr_iconst (pq := 55) rfl dX0_readStreet_54 ?_
        refine yr_istore4 (pq := 57) rfl dX0_readStreet_55 ?_
        refine yr_aload_n (pq := 58) rfl dX0_readStreet_57 rfl ?_
        refine yr_ldcs (pq := 60) (t := 7) rfl dX0_readStreet_58 kT_0_96 kS_0_96 ?_
        refine yr_vI1 (pq := 63) rfl dX0_readStreet_60 kM_0_77 (by decide) (by decide) cat0 (c_wrd (by decide) e1 (fun q4 => ?_) (fun q4 => ?_))
        · rw [if_pos q4] at k
          refine yr_if_eq (pq := 66) (t := 92) rfl dX0_readStreet_63 rfl (by decide) (fun q9 => absurd q9 (by decide)) (fun _ => ?_)
          refine yr_aload_n (pq := 67) rfl dX0_readStreet_66 rfl ?_
          refine yr_vV0 (pq := 70) rfl dX0_readStreet_67 kM_0_41 (by decide) (by decide) cat0 (c_adv e1 (fun e2 e3 e4 => ?_))
          have k := RA_m k e3
          refine yr_aload_n (pq := 71) rfl dX0_readStreet_70 rfl ?_
          refine yr_iconst (pq := 72) rfl dX0_readStreet_71 ?_
          refine yr_bipush (pq := 74) rfl dX0_readStreet_72 rfl ?_
          refine yr_vI2 (pq := 77) rfl dX0_readStreet_74 kM_0_92 (by decide) (by decide) cat0 (c_num e4 (by decide) (by decide) (fun q5 => ?_) (fun q5 => ?_))
          · rw [if_pos q5] at k
            refine yr_if_ne (pq := 80) (t := 82) rfl dX0_readStreet_77 rfl (by decide) (fun _ => ?_) (fun q9 => absurd q9 (by decide))
            refine yr_aload_n (pq := 83) rfl dX0_readStreet_82 rfl ?_
            refine yr_getI (pq := 86) 7 rfl dX0_readStreet_83 kF_0_38 (by decide) rfl (by decide) ?_
            refine yr_istore4 (pq := 88) rfl dX0_readStreet_86 ?_
            refine yr_aload_n (pq := 89) rfl dX0_readStreet_88 rfl ?_
            rw [e4.2.2.1.2.2.2]
            refine yr_vV0 (pq := 92) rfl dX0_readStreet_89 kM_0_41 (by decide) (by decide) cat0 (c_adv e4 (fun e5 e6 e7 => ?_))
            exact umb e5 _ _ _ _ e7 (RA_m k e6) _
          · rw [if_neg q5] at k
            refine yr_if_ne (pq := 80) (t := 82) rfl dX0_readStreet_77 rfl (by decide) (fun q9 => absurd (by decide) q9) (fun _ => ?_)
            refine yr_iconst (pq := 81) rfl dX0_readStreet_80 ?_
            exact yr_zret dX0_readStreet_81 rfl (by first | decide | omega) (RA_0 k (AW_r _) e4.2.2.1)
        · rw [if_neg q4] at k
          refine yr_if_eq (pq := 66) (t := 92) rfl dX0_readStreet_63 rfl (by decide) (fun _ => ?_) (fun q9 => absurd (by decide) q9)
          exact umb e _ _ _ _ e1 k _
      · rw [if_neg (fun z => z.2 q3)] at k
        refine yr_iconst (pq := 44) rfl dX0_readStreet_43 ?_
        exact yr_zret dX0_readStreet_44 rfl (by first | decide | omega) (RA_0 k (AW_r _) f1.2.2.1)
    · rw [if_neg (fun z => q2 z.1)] at k
      refine yr_if_eq (pq := 35) (t := 43) rfl dX0_readStreet_32 rfl (by decide) (fun _ => ?_) (fun q9 => absurd (by decide) q9)
      refine yr_iconst (pq := 44) rfl dX0_readStreet_43 ?_
      exact yr_zret dX0_readStreet_44 rfl (by first | decide | omega) (RA_0 k (AW_r _) f1.2.2.1)
  · rw [if_neg q1] at k
    refine yr_if_ne (pq := 14) (t := 16) rfl dX0_readStreet_11 rfl (by decide) (fun q9 => absurd (by decide) q9) (fun _ => ?_)
    refine yr_iconst (pq := 15) rfl dX0_readStreet_14 ?_
    exact yr_zret dX0_readStreet_15 rfl (by first | decide | omega) (RA_0 k (AW_r _) g1.2.2.1)
theorem c_readItem (H : CS t sz h S P) (k : RA t sz h (itF t sz S P) K) : ClI (d + 5) mX0_readItem [vr 76] h K := by
  have kb := kd_b t S
  have h8 := H.2.2.2.2.2.1.1
  unfold itF at k
  have salt : ∀ (z : Int), RA t sz h (true, nx t sz S, ur P 44 z) K → Yr (d + 4) mX0_readItem 97 [vr 76, vi (kdF t S)] [] (up h 76 3 z) (rI K) → True := fun _ _ _ => trivial
  have end1 : ∀ (z : Int), (0 ≤ z ∧ z ≤ 1) → RA t sz h (true, nx t sz S, ur P 44 z) K → Yr (d + 4) mX0_readItem 97 [vr 76, vi (kdF t S)] [] (up h 76 3 z) (rI K) := by
    intro z hz kk
    obtain ⟨b1, b2, b3, b4, b5, b6, b7, b8⟩ := H
    have z4 := b4.1
    refine yr_aload_n (pq := 98) rfl dX0_readItem_97 rfl ?_
    refine yr_vV0 (pq := 101) rfl dX0_readItem_98 kM_0_41 (by decide) (by decide) cat0 (c_advance (h := up h 76 3 z) (t := t) (sz := sz) (e := S.2.1) (by rw [up_ne (by decide)]; exact b1) (by rw [up_k (by decide)]; exact b2) (by rw [up_k (by decide)]; exact b3.2.1) (by omega) (fun g v c => ?_))
    refine yr_iconst (pq := 102) rfl dX0_readItem_101 ?_
    refine yr_zret dX0_readItem_102 rfl (by first | decide | omega) ?_
    refine RA_1 kk ⟨fun a q _ => by rw [v.1 a q, up_ne q], fun j hj => by rw [v.2 j (by omega), up_k (by omega)]⟩ c ?_ (by rw [v.2 3 (by decide), up_s, ur_s])
    exact RT_row (N := P) (RT_cong b5 b6 (fun j j0 j1 j2 => by rw [v.1 _ (by omega), up_ne (by omega)])) (fun j hj => ur_o (by omega))
  refine cl_in (al := [vr 76, .null]) rfl (Nat.le_of_ble_eq_true rfl) (by simp [vi_cat, vr_cat, vs_cat]) ?_
  refine yr_aload_n (pq := 1) rfl dX0_readItem_0 rfl ?_
  refine yr_vI0 (pq := 4) rfl dX0_readItem_1 kM_0_65 (by decide) (by decide) cat0 (c_kindByWord H.1 H.2.1 H.2.2.1 (Int.le_refl 0) H.2.2.2.1 ?_)
  refine yr_istore1 (pq := 5) rfl dX0_readItem_4 ?_
  refine yr_iload_n (pq := 6) rfl dX0_readItem_5 rfl ?_
  refine yr_if_lt (pq := 9) (t := 33) rfl dX0_readItem_6 rfl (by omega) (fun q1 => ?_) (fun q1 => ?_)
  · rw [if_neg (by omega)] at k
    refine yr_aload_n (pq := 34) rfl dX0_readItem_33 rfl ?_
    refine yr_ldcs (pq := 36) (t := 9) rfl dX0_readItem_34 kT_0_75 kS_0_75 ?_
    refine yr_vI1 (pq := 39) rfl dX0_readItem_36 kM_0_77 (by decide) (by decide) cat0 (c_wrd (by decide) H (fun q2 => ?_) (fun q2 => ?_))
    · rw [if_pos q2] at k
      refine yr_if_eq (pq := 42) (t := 47) rfl dX0_readItem_39 rfl (by decide) (fun q9 => absurd q9 (by decide)) (fun _ => ?_)
      refine yr_aload_n (pq := 43) rfl dX0_readItem_42 rfl ?_
      refine yr_vI0 (pq := 46) rfl dX0_readItem_43 kM_0_81 (by decide) (by decide) cat0 (c_readSpell H (fun g g0 g1 g2 => ?_))
      have kk := k g g0 g1 g2
      by_cases z : (sp1 t sz (nx t sz S) P).1 = true
      · rw [if_pos z] at kk ⊢
        exact yr_zret dX0_readItem_46 rfl (by first | decide | omega) (kk)
      · rw [if_neg z] at kk ⊢
        exact yr_zret dX0_readItem_46 rfl (by first | decide | omega) (kk)
    · rw [if_neg q2] at k
      refine yr_if_eq (pq := 42) (t := 47) rfl dX0_readItem_39 rfl (by decide) (fun _ => ?_) (fun q9 => absurd (by decide) q9)
      refine yr_aload_n (pq := 48) rfl dX0_readItem_47 rfl ?_
      refine yr_ldcs (pq := 50) (t := 12) rfl dX0_readItem_48 kT_0_84 kS_0_84 ?_
      refine yr_vI1 (pq := 53) rfl dX0_readItem_50 kM_0_77 (by decide) (by decide) cat0 (c_wrd (by decide) H (fun q3 => ?_) (fun q3 => ?_))
      · rw [if_pos q3] at k
        refine yr_if_eq (pq := 56) (t := 61) rfl dX0_readItem_53 rfl (by decide) (fun q9 => absurd q9 (by decide)) (fun _ => ?_)
        refine yr_aload_n (pq := 57) rfl dX0_readItem_56 rfl ?_
        refine yr_vI0 (pq := 60) rfl dX0_readItem_57 kM_0_86 (by decide) (by decide) cat0 (c_readQuarter H (fun g g0 g1 g2 => ?_))
        have kk := k g g0 g1 g2
        by_cases z : (qu1 t sz (nx t sz S) P).1 = true
        · rw [if_pos z] at kk ⊢
          exact yr_zret dX0_readItem_60 rfl (by first | decide | omega) (kk)
        · rw [if_neg z] at kk ⊢
          exact yr_zret dX0_readItem_60 rfl (by first | decide | omega) (kk)
      · rw [if_neg q3] at k
        refine yr_if_eq (pq := 56) (t := 61) rfl dX0_readItem_53 rfl (by decide) (fun _ => ?_) (fun q9 => absurd (by decide) q9)
        refine yr_aload_n (pq := 62) rfl dX0_readItem_61 rfl ?_
        refine yr_ldcs (pq := 64) (t := 13) rfl dX0_readItem_62 kT_0_89 kS_0_89 ?_
        refine yr_vI1 (pq := 67) rfl dX0_readItem_64 kM_0_77 (by decide) (by decide) cat0 (c_wrd (by decide) H (fun q4 => ?_) (fun q4 => ?_))
        · rw [if_pos q4] at k
          refine yr_if_ne (pq := 70) (t := 79) rfl dX0_readItem_67 rfl (by decide) (fun _ => ?_) (fun q9 => absurd q9 (by decide))
          refine yr_aload_n (pq := 80) rfl dX0_readItem_79 rfl ?_
          refine yr_aload_n (pq := 81) rfl dX0_readItem_80 rfl ?_
          refine yr_ldcs (pq := 83) (t := 13) rfl dX0_readItem_81 kT_0_89 kS_0_89 ?_
          refine yr_vI1 (pq := 86) rfl dX0_readItem_83 kM_0_77 (by decide) (by decide) (Nat.le_of_ble_eq_true rfl) (c_wrd (by decide) H (fun _ => ?_) (fun q9 => absurd q4 q9))
          refine yr_if_eq (pq := 89) (t := 93) rfl dX0_readItem_86 rfl (by decide) (fun q9 => absurd q9 (by decide)) (fun _ => ?_)
          refine yr_iconst (pq := 90) rfl dX0_readItem_89 ?_
          refine yr_goto (t := 94) dX0_readItem_90 rfl ?_
          refine yr_putI (pq := 97) 3 rfl dX0_readItem_94 kF_0_26 (by decide) rfl rfl (by decide) ?_
          exact end1 1 (by decide) k
        · rw [if_neg q4] at k
          refine yr_if_ne (pq := 70) (t := 79) rfl dX0_readItem_67 rfl (by decide) (fun q9 => absurd (by decide) q9) (fun _ => ?_)
          refine yr_aload_n (pq := 71) rfl dX0_readItem_70 rfl ?_
          refine yr_ldcs (pq := 73) (t := 14) rfl dX0_readItem_71 kT_0_90 kS_0_90 ?_
          refine yr_vI1 (pq := 76) rfl dX0_readItem_73 kM_0_77 (by decide) (by decide) cat0 (c_wrd (by decide) H (fun q5 => ?_) (fun q5 => ?_))
          · rw [if_pos q5] at k
            refine yr_if_eq (pq := 79) (t := 103) rfl dX0_readItem_76 rfl (by decide) (fun q9 => absurd q9 (by decide)) (fun _ => ?_)
            refine yr_aload_n (pq := 80) rfl dX0_readItem_79 rfl ?_
            refine yr_aload_n (pq := 81) rfl dX0_readItem_80 rfl ?_
            refine yr_ldcs (pq := 83) (t := 13) rfl dX0_readItem_81 kT_0_89 kS_0_89 ?_
            refine yr_vI1 (pq := 86) rfl dX0_readItem_83 kM_0_77 (by decide) (by decide) (Nat.le_of_ble_eq_true rfl) (c_wrd (by decide) H (fun q9 => absurd q9 q4) (fun _ => ?_))
            refine yr_if_eq (pq := 89) (t := 93) rfl dX0_readItem_86 rfl (by decide) (fun _ => ?_) (fun q9 => absurd (by decide) q9)
            refine yr_iconst (pq := 94) rfl dX0_readItem_93 ?_
            refine yr_putI (pq := 97) 3 rfl dX0_readItem_94 kF_0_26 (by decide) rfl rfl (by decide) ?_
            exact end1 0 (by decide) k
          · rw [if_neg q5] at k
            refine yr_if_eq (pq := 79) (t := 103) rfl dX0_readItem_76 rfl (by decide) (fun _ => ?_) (fun q9 => absurd (by decide) q9)
            refine yr_iconst (pq := 104) rfl dX0_readItem_103 ?_
            exact yr_zret dX0_readItem_104 rfl (by first | decide | omega) (RA_0 k (AW_r _) H.2.2.1)
  · rw [if_pos (by omega)] at k
    refine yr_aload_n (pq := 10) rfl dX0_readItem_9 rfl ?_
    refine yr_getR (pq := 13) (b := 78) 2 rfl dX0_readItem_10 kF_0_22 (by decide) rfl ?_
    refine yr_vI0 (pq := 16) rfl dX0_readItem_13 kM_0_69 (by decide) (tw_c (by decide)) cat0 (c_isFull (N := P) (by decide) H.2.2.2.2.1.1 h8 (fun q2 => ?_) (fun q2 => ?_))
    · rw [if_neg (by omega)] at k
      refine yr_if_ne (pq := 19) (t := 31) rfl dX0_readItem_16 rfl (by decide) (fun _ => ?_) (fun q9 => absurd q9 (by decide))
      refine yr_iconst (pq := 32) rfl dX0_readItem_31 ?_
      exact yr_zret dX0_readItem_32 rfl (by first | decide | omega) (RA_0 k (AW_r _) H.2.2.1)
    · rw [if_pos q2] at k
      refine yr_if_ne (pq := 19) (t := 31) rfl dX0_readItem_16 rfl (by decide) (fun q9 => absurd (by decide) q9) (fun _ => ?_)
      refine yr_aload_n (pq := 20) rfl dX0_readItem_19 rfl ?_
      refine yr_iload_n (pq := 21) rfl dX0_readItem_20 rfl ?_
      refine yr_vI1 (pq := 24) rfl dX0_readItem_21 kM_0_72 (by decide) (by decide) cat0 (c_readStreet (by omega) H q2 (fun g g0 g1 g2 => ?_))
      have kk := k g g0 g1 g2
      by_cases z : (st1 t sz (nx t sz S) P (kdF t S)).1 = true
      · rw [if_pos z] at kk ⊢
        refine yr_if_eq (pq := 27) (t := 31) rfl dX0_readItem_24 rfl (by decide) (fun q9 => absurd q9 (by decide)) (fun _ => ?_)
        refine yr_iconst (pq := 28) rfl dX0_readItem_27 ?_
        refine yr_goto (t := 32) dX0_readItem_28 rfl ?_
        exact yr_zret dX0_readItem_32 rfl (by first | decide | omega) (kk)
      · rw [if_neg z] at kk ⊢
        refine yr_if_eq (pq := 27) (t := 31) rfl dX0_readItem_24 rfl (by decide) (fun _ => ?_) (fun q9 => absurd (by decide) q9)
        refine yr_iconst (pq := 32) rfl dX0_readItem_31 ?_
        exact yr_zret dX0_readItem_32 rfl (by first | decide | omega) (kk)
end TJ
