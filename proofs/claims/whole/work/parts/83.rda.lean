/-! all items -/
theorem it_ind {t : Int → Int} {sz : Int} (Q : tkT → Prop) (hn : ∀ Z, Q Z → Q (nx t sz Z)) {S : tkT} (hS : Q S) (P : Int → Int) : Q (itF t sz S P).2.1 := by
  have um : ∀ Z k a b l, Q Z → Q (umF t sz Z P k a b l).2.1 := by
    intro Z k a b l q
    unfold umF
    split
    · exact hn _ q
    · exact q
  have s3 : ∀ Z k a b, Q Z → Q (st3 t sz Z P k a b).2.1 := by
    intro Z k a b q
    unfold st3
    split
    · split
      · exact um _ _ _ _ _ (hn _ (hn _ q))
      · exact hn _ q
    · exact um _ _ _ _ _ q
  have s2 : ∀ Z k a, Q Z → Q (st2 t sz Z P k a).2.1 := by
    intro Z k a q
    unfold st2
    split
    · exact s3 _ _ _ _ (hn _ q)
    · exact q
  have s1 : ∀ Z k, Q Z → Q (st1 t sz Z P k).2.1 := by
    intro Z k q
    unfold st1
    split
    · exact s2 _ _ _ (hn _ q)
    · exact q
  have we : ∀ Z w r R, Q Z → Q (weF t sz Z w r R).2.1 := by
    intro Z w r R q
    unfold weF
    split
    · split
      · exact hn _ (hn _ q)
      · exact hn _ q
    · exact q
  have sp : ∀ Z, Q Z → Q (sp1 t sz Z P).2.1 := by
    intro Z q
    unfold sp1
    split
    · split
      · exact we _ _ _ _ (we _ _ _ _ (hn _ q))
      · exact we _ _ _ _ (hn _ q)
    · exact q
  have qu : ∀ Z, Q Z → Q (qu1 t sz Z P).2.1 := by
    intro Z q
    unfold qu1
    split
    · split
      · exact hn _ (hn _ q)
      · exact hn _ q
    · exact q
  unfold itF
  split
  · split
    · exact s1 _ _ (hn _ hS)
    · exact hS
  · split
    · exact sp _ (hn _ hS)
    · split
      · exact qu _ (hn _ hS)
      · split
        · exact hn _ hS
        · split
          · exact hn _ hS
          · exact hS
def tkQ (t : Int → Int) (sz : Int) (S : tkT) : Prop := okK sz 0 S ∧ ((S.2.2.1 = 3 ∨ S.2.2.1 = 4) → (S.2.2.1 = 3 ↔ t S.1 = 59))
theorem tkQ_F {t : Int → Int} {sz e : Int} (he : 0 ≤ e ∧ e ≤ sz) : tkQ t sz (tkF t sz e) := ⟨okK_m (tkF_ok he.2) he.1, fun q => (tkF_3 he.2 q).2⟩
theorem tkQ_n {t : Int → Int} {sz : Int} (Z : tkT) (q : tkQ t sz Z) : tkQ t sz (nx t sz Z) := tkQ_F (by have := q.1.1; omega)
/-- how many items, and the row behind them; below 0: where it went wrong -/
def rdF (t : Int → Int) (sz : Int) : Nat → Int → Int → (Int → Int) → Int × (Int → Int)
  | 0, _, _, P => (0, P)
  | n + 1, i, e, P => if (itF t sz (tkF t sz e) P).1 = true then (if (itF t sz (tkF t sz e) P).2.1.2.2.1 = 0 then (i, (itF t sz (tkF t sz e) P).2.2) else if (itF t sz (tkF t sz e) P).2.1.2.2.1 = 3 then rdF t sz n (i + 1) (itF t sz (tkF t sz e) P).2.1.2.1 (itF t sz (tkF t sz e) P).2.2 else (-1 - (itF t sz (tkF t sz e) P).2.1.1, P)) else (-1 - (itF t sz (tkF t sz e) P).2.1.1, P)
theorem rd_ok {t : Int → Int} {sz : Int} : ∀ (n : Nat) (i e : Int) (P : Int → Int), 0 ≤ e → e ≤ sz → okT P → (0 ≤ P 44 ∧ P 44 ≤ 1) → 0 ≤ (rdF t sz n i e P).1 → okT (rdF t sz n i e P).2 ∧ (∀ j, ((9 ≤ j ∧ j < 20) ∨ (45 ≤ j ∧ j < 53)) → (rdF t sz n i e P).2 j = P j) ∧ (0 ≤ (rdF t sz n i e P).2 44 ∧ (rdF t sz n i e P).2 44 ≤ 1) ∧ P 8 ≤ (rdF t sz n i e P).2 8 := by
  intro n
  induction n with
  | zero => intro i e P e0 e1 h1 h2 _; exact ⟨h1, fun _ _ => rfl, h2, Int.le_refl _⟩
  | succ n ih =>
    intro i e P e0 e1 h1 h2
    have k0 := tkF_ok (t := t) e1
    obtain ⟨oi, -⟩ := OI_it (t := t) (P := P) k0 h1 h2
    have hb := oi.1.1
    have kb := k0.1
    rw [rdF]
    split
    · rename_i q
      obtain ⟨u1, u2, u3, u4⟩ := oi.2 q
      split
      · intro _; exact ⟨u1, u2, u3, u4⟩
      · split
        · intro z
          obtain ⟨v1, v2, v3, v4⟩ := ih _ _ _ (by omega) (by omega) u1 u3 z
          exact ⟨v1, fun j hj => (v2 j hj).trans (u2 j hj), v3, Int.le_trans u4 v4⟩
        · intro z; simp only at z; omega
    · intro z; simp only at z; omega
section TA
variable {d : Nat} {h : hT} {K : Int → hT → Prop} {t : Int → Int} {sz : Int}
theorem c_readAll {P : Int → Int} (hTp : TP (h 77) sz t) (e1 : h 76 1 = sz) (hR : RT h 78 P) (hO : okT P) (e3 : h 76 3 = P 44) (h4 : 0 ≤ P 44 ∧ P 44 ≤ 1)
    (k : ∀ g, AW h g → (0 ≤ (rdF t sz 120 1 0 P).1 → RT g 78 (rdF t sz 120 1 0 P).2 ∧ g 76 3 = (rdF t sz 120 1 0 P).2 44) → K (rdF t sz 120 1 0 P).1 g) : ClI (d + 6) mX0_readAll [vr 76] h K := by
  have hz := hTp.1
  have key : ∀ (n : Nat) (i e : Int) (Q : Int → Int) (g : hT), 1 ≤ i → i + n = 121 → 2 * (i - 1) ≤ e → e ≤ sz → AW h g → g 76 6 = e → RT g 78 Q → okT Q → g 76 3 = Q 44 → (0 ≤ Q 44 ∧ Q 44 ≤ 1) → (∀ g', AW h g' → (0 ≤ (rdF t sz n i e Q).1 → RT g' 78 (rdF t sz n i e Q).2 ∧ g' 76 3 = (rdF t sz n i e Q).2 44) → K (rdF t sz n i e Q).1 g') → Yr (d + 5) mX0_readAll 7 [vr 76, vi i] [] g (rI K) := by
    intro n
    induction n with
    | zero => intro i e Q g i1 hn he hs _ _ _ _ _ _ _; omega
    | succ n ih =>
      intro i e Q g i1 hn he hs g0 g6 gR gO g3 q4 kk
      have k0 := tkF_ok (t := t) hs
      obtain ⟨oi, og⟩ := OI_it (t := t) (P := Q) k0 gO q4
      have hb := oi.1.1
      have kb := k0.1
      have gT : TP (g 77) sz t := by rw [g0.1 77 (by decide) (by decide)]; exact hTp
      have gz : g 76 1 = sz := by rw [g0.2 1 (by decide)]; exact e1
      rw [rdF] at kk
      refine yr_iload_n (pq := 8) rfl dX0_readAll_7 rfl ?_
      refine yr_bipush (pq := 10) rfl dX0_readAll_8 rfl ?_
      refine yr_ic_gt (pq := 13) (t := 53) rfl dX0_readAll_10 rfl (by omega) (by omega) (fun q9 => absurd q9 (by omega)) (fun _ => ?_)
      refine yr_aload_n (pq := 14) rfl dX0_readAll_13 rfl ?_
      refine yr_vV0 (pq := 17) rfl dX0_readAll_14 kM_0_41 (by decide) (by decide) cat0 (c_advance gT gz g6 (by omega) (fun f v c => ?_))
      have H : CS t sz f (tkF t sz e) Q := ⟨by rw [v.1 77 (by decide)]; exact gT, by rw [v.2 1 (by decide)]; exact gz, c, okK_m k0 (by omega), RT_cong gR gO (fun j j0 j1 j2 => v.1 _ (by omega)), gO, by rw [v.2 3 (by decide)]; exact g3, q4⟩
      refine yr_aload_n (pq := 18) rfl dX0_readAll_17 rfl ?_
      refine yr_vI0 (pq := 21) rfl dX0_readAll_18 kM_0_44 (by decide) (by decide) cat0 (c_readItem H (fun u u0 u1 u2 => ?_))
      have au : AW h u := AW_t (AW_t g0 (AW_v v)) u0
      have bad : ∀ (x : Int × (Int → Int)), x = (-1 - (itF t sz (tkF t sz e) Q).2.1.1, Q) → (∀ g', AW h g' → (0 ≤ x.1 → RT g' 78 x.2 ∧ g' 76 3 = x.2 44) → K x.1 g') → Yr (d + 5) mX0_readAll 53 [vr 76, vi i] [] u (rI K) := by
        intro x ex kx
        subst ex
        refine yr_iconst (pq := 54) rfl dX0_readAll_53 ?_
        refine yr_aload_n (pq := 55) rfl dX0_readAll_54 rfl ?_
        refine yr_getI (pq := 58) 5 rfl dX0_readAll_55 kF_0_32 (by decide) rfl (by decide) ?_
        refine yr_isub (pq := 59) rfl dX0_readAll_58 ?_
        rw [u1.1]
        exact yr_iret dX0_readAll_59 rfl (kx u au (fun z => by simp only at z; omega))
      by_cases q : (itF t sz (tkF t sz e) Q).1 = true
      · obtain ⟨v1, v2, v3, v4⟩ := oi.2 q
        obtain ⟨o1, o2⟩ := og q
        obtain ⟨r1, r2⟩ := u2 q
        have tb := oi.1.2.1
        have ne := k0.2.2.2 (by omega)
        rw [if_pos q] at kk ⊢
        refine yr_if_ne (pq := 24) (t := 27) rfl dX0_readAll_21 rfl (by decide) (fun _ => ?_) (fun q9 => absurd q9 (by decide))
        refine yr_aload_n (pq := 28) rfl dX0_readAll_27 rfl ?_
        refine yr_getI (pq := 31) 4 rfl dX0_readAll_28 kF_0_29 (by decide) rfl (by decide) ?_
        rw [u1.2.2.1]
        refine yr_if_ne (pq := 34) (t := 36) rfl dX0_readAll_31 rfl (by omega) (fun q2 => ?_) (fun q2 => ?_)
        · rw [if_neg q2] at kk
          refine yr_aload_n (pq := 37) rfl dX0_readAll_36 rfl ?_
          refine yr_getI (pq := 40) 4 rfl dX0_readAll_37 kF_0_29 (by decide) rfl (by decide) ?_
          refine yr_iconst (pq := 41) rfl dX0_readAll_40 ?_
          rw [u1.2.2.1]
          refine yr_ic_eq (pq := 44) (t := 47) rfl dX0_readAll_41 rfl (by omega) (by omega) (fun q3 => ?_) (fun q3 => ?_)
          · rw [if_pos q3] at kk
            have ne2 := oi.1.2.2.2 (by omega)
            refine yr_iinc1 (pq := 50) rfl dX0_readAll_47 ?_
            refine yr_goto (t := 7) dX0_readAll_50 rfl ?_
            exact ih _ _ _ u (by omega) (by omega) (by omega) (by omega) au u1.2.1 r1 v1 r2 v3 kk
          · rw [if_neg q3] at kk
            refine yr_goto (t := 53) dX0_readAll_44 rfl ?_
            exact bad _ rfl kk
        · rw [if_pos (by omega)] at kk
          refine yr_iload_n (pq := 35) rfl dX0_readAll_34 rfl ?_
          exact yr_iret dX0_readAll_35 rfl (kk u au (fun _ => ⟨r1, r2⟩))
      · rw [if_neg q] at kk ⊢
        refine yr_if_ne (pq := 24) (t := 27) rfl dX0_readAll_21 rfl (by decide) (fun q9 => absurd (by decide) q9) (fun _ => ?_)
        refine yr_goto (t := 53) dX0_readAll_24 rfl ?_
        exact bad _ rfl kk
  refine cl_in (al := [vr 76, .null]) rfl (Nat.le_of_ble_eq_true rfl) (by simp [vi_cat, vr_cat, vs_cat]) ?_
  refine yr_aload_n (pq := 1) rfl dX0_readAll_0 rfl ?_
  refine yr_iconst (pq := 2) rfl dX0_readAll_1 ?_
  refine yr_putI (pq := 5) 6 rfl dX0_readAll_2 kF_0_35 (by decide) rfl rfl (by decide) ?_
  refine yr_iconst (pq := 6) rfl dX0_readAll_5 ?_
  refine yr_istore1 (pq := 7) rfl dX0_readAll_6 ?_
  exact key 120 1 0 P _ (by omega) (by omega) (by omega) (by omega) ⟨fun a q _ => up_ne q, fun j hj => up_k (by omega)⟩ (up_s _ _ _ _) (RT_cong hR hO (fun j j0 j1 j2 => up_ne (by omega))) hO (by rw [up_k (by decide)]; exact e3) h4 k
end TA
