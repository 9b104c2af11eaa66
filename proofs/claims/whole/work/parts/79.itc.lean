/-! an item, told by the class -/
def nx (t : Int → Int) (sz : Int) (S : tkT) : tkT := tkF t sz S.2.1
abbrev itT := Bool × tkT × (Int → Int)
def umF (t : Int → Int) (sz : Int) (S : tkT) (P : Int → Int) (k a b l : Int) : itT := if wdF t S 8 = true then (true, nx t sz S, addN P k a b l 1) else (true, S, addN P k a b l 0)
def st3 (t : Int → Int) (sz : Int) (S : tkT) (P : Int → Int) (k a b : Int) : itT := if wdF t S 7 = true then (if nmB (nx t sz S) 1 20 = true then umF t sz (nx t sz (nx t sz S)) P k a b (nx t sz S).2.2.2 else (false, nx t sz S, P)) else umF t sz S P k a b 5
def st2 (t : Int → Int) (sz : Int) (S : tkT) (P : Int → Int) (k a : Int) : itT := if nmB S 0 7 = true ∧ S.2.2.2 ≠ a then st3 t sz (nx t sz S) P k a S.2.2.2 else (false, S, P)
def st1 (t : Int → Int) (sz : Int) (S : tkT) (P : Int → Int) (k : Int) : itT := if nmB S 0 7 = true then st2 t sz (nx t sz S) P k S.2.2.2 else (false, S, P)
def weF (t : Int → Int) (sz : Int) (S : tkT) (w r : Int) (P : Int → Int) : itT := if wdF t S w = true then (if nmB (nx t sz S) 0 9 = true then (true, nx t sz (nx t sz S), ur P r (nx t sz S).2.2.2) else (false, nx t sz S, P)) else (true, S, P)
def sp1 (t : Int → Int) (sz : Int) (S : tkT) (P : Int → Int) : itT := if nmB S 0 11 = true then (if (weF t sz (nx t sz S) 10 (20 + S.2.2.2) P).1 = true then weF t sz (weF t sz (nx t sz S) 10 (20 + S.2.2.2) P).2.1 11 (32 + S.2.2.2) (weF t sz (nx t sz S) 10 (20 + S.2.2.2) P).2.2 else (weF t sz (nx t sz S) 10 (20 + S.2.2.2) P)) else (false, S, P)
def qu1 (t : Int → Int) (sz : Int) (S : tkT) (P : Int → Int) : itT := if nmB S 0 7 = true then (if nmB (nx t sz S) 0 3 = true then (true, nx t sz (nx t sz S), ur P S.2.2.2 (nx t sz S).2.2.2) else (false, nx t sz S, P)) else (false, S, P)
def itF (t : Int → Int) (sz : Int) (S : tkT) (P : Int → Int) : itT :=
  if 0 ≤ kdF t S then (if P 8 < 14 then st1 t sz (nx t sz S) P (kdF t S) else (false, S, P))
  else if wdF t S 9 = true then sp1 t sz (nx t sz S) P
  else if wdF t S 12 = true then qu1 t sz (nx t sz S) P
  else if wdF t S 13 = true then (true, nx t sz S, ur P 44 1)
  else if wdF t S 14 = true then (true, nx t sz S, ur P 44 0)
  else (false, S, P)
theorem okK_m {sz e e' : Int} {S : tkT} (h : okK sz e S) (q : e' ≤ e) : okK sz e' S := ⟨⟨Int.le_trans q h.1.1, h.1.2⟩, h.2⟩
theorem nx_ok {t : Int → Int} {sz e : Int} {S : tkT} (h : okK sz e S) : okK sz S.2.1 (nx t sz S) := tkF_ok h.1.2.2
theorem nx_o1 {t : Int → Int} {sz e : Int} {S : tkT} (h : okK sz e S) : okK sz S.1 (nx t sz S) := okK_m (nx_ok h) h.1.2.1
/-- what an item leaves -/
def OI (sz e : Int) (P : Int → Int) (A : itT) : Prop := okK sz e A.2.1 ∧ (A.1 = true → okT A.2.2 ∧ (∀ j, ((9 ≤ j ∧ j < 20) ∨ (45 ≤ j ∧ j < 53)) → A.2.2 j = P j) ∧ (0 ≤ A.2.2 44 ∧ A.2.2 44 ≤ 1) ∧ P 8 ≤ A.2.2 8)
theorem OI_m {sz e e' : Int} {P : Int → Int} {A : itT} (h : OI sz e P A) (q : e' ≤ e) : OI sz e' P A := ⟨okK_m h.1 q, h.2⟩
theorem OI_f {sz e : Int} {P : Int → Int} {S : tkT} (h : okK sz e S) : OI sz e P (false, S, P) := ⟨h, fun q => absurd q Bool.false_ne_true⟩
theorem OI_add {sz e : Int} {P : Int → Int} {S : tkT} {k a b l u : Int} (h : okK sz e S) (hO : okT P) (h4 : 0 ≤ P 44 ∧ P 44 ≤ 1) (h14 : P 8 < 14) (hk : 0 ≤ k ∧ k ≤ 6) (ha : 0 ≤ a ∧ a ≤ 7) (hb : 0 ≤ b ∧ b ≤ 7) (hab : a ≠ b) (hl : 1 ≤ l ∧ l ≤ 20) (hu : 0 ≤ u ∧ u ≤ 1) : OI sz e P (true, S, addN P k a b l u) := by
  have h8 := hO.1
  refine ⟨h, fun _ => ⟨addN_ok hO h14 hk ha hb hab hl hu, fun j hj => addN_lo h8.1 (by omega) (by omega), ?_, ?_⟩⟩
  · show 0 ≤ addN P k a b l u 44 ∧ addN P k a b l u 44 ≤ 1
    rw [addN_lo h8.1 (by decide) (by decide)]; exact h4
  · show P 8 ≤ addN P k a b l u 8
    rw [addN_8]; omega
theorem OI_um {t : Int → Int} {sz e : Int} {P : Int → Int} {S : tkT} {k a b l : Int} (h : okK sz e S) (hO : okT P) (h4 : 0 ≤ P 44 ∧ P 44 ≤ 1) (h14 : P 8 < 14) (hk : 0 ≤ k ∧ k ≤ 6) (ha : 0 ≤ a ∧ a ≤ 7) (hb : 0 ≤ b ∧ b ≤ 7) (hab : a ≠ b) (hl : 1 ≤ l ∧ l ≤ 20) : OI sz e P (umF t sz S P k a b l) := by
  unfold umF
  split
  · exact OI_add (okK_m (nx_o1 h) h.1.1) hO h4 h14 hk ha hb hab hl (by decide)
  · exact OI_add h hO h4 h14 hk ha hb hab hl (by decide)
theorem OI_st3 {t : Int → Int} {sz e : Int} {P : Int → Int} {S : tkT} {k a b : Int} (h : okK sz e S) (hO : okT P) (h4 : 0 ≤ P 44 ∧ P 44 ≤ 1) (h14 : P 8 < 14) (hk : 0 ≤ k ∧ k ≤ 6) (ha : 0 ≤ a ∧ a ≤ 7) (hb : 0 ≤ b ∧ b ≤ 7) (hab : a ≠ b) : OI sz e P (st3 t sz S P k a b) := by
  have h1 := nx_o1 (t := t) h
  unfold st3
  split
  · split
    · rename_i q
      rw [nmB_t] at q
      exact OI_m (OI_um (nx_o1 h1) hO h4 h14 hk ha hb hab q.2) (Int.le_trans h.1.1 h1.1.1)
    · exact OI_f (okK_m h1 h.1.1)
  · exact OI_um h hO h4 h14 hk ha hb hab (by decide)
theorem OI_st2 {t : Int → Int} {sz e : Int} {P : Int → Int} {S : tkT} {k a : Int} (h : okK sz e S) (hO : okT P) (h4 : 0 ≤ P 44 ∧ P 44 ≤ 1) (h14 : P 8 < 14) (hk : 0 ≤ k ∧ k ≤ 6) (ha : 0 ≤ a ∧ a ≤ 7) : OI sz e P (st2 t sz S P k a) := by
  have h1 := nx_o1 (t := t) h
  unfold st2
  split
  · rename_i q
    obtain ⟨q1, q2⟩ := q
    rw [nmB_t] at q1
    exact OI_m (OI_st3 h1 hO h4 h14 hk ha q1.2 (fun z => q2 z.symm)) h.1.1
  · exact OI_f h
theorem OI_st1 {t : Int → Int} {sz e : Int} {P : Int → Int} {S : tkT} {k : Int} (h : okK sz e S) (hO : okT P) (h4 : 0 ≤ P 44 ∧ P 44 ≤ 1) (h14 : P 8 < 14) (hk : 0 ≤ k ∧ k ≤ 6) : OI sz e P (st1 t sz S P k) := by
  have h1 := nx_o1 (t := t) h
  unfold st1
  split
  · rename_i q
    rw [nmB_t] at q
    exact OI_m (OI_st2 h1 hO h4 h14 hk q.2) h.1.1
  · exact OI_f h
theorem OI_we {t : Int → Int} {sz e : Int} {P : Int → Int} {S : tkT} {w r : Int} (h : okK sz e S) (hO : okT P) (h4 : 0 ≤ P 44 ∧ P 44 ≤ 1) (hr : 20 ≤ r ∧ r < 44) : OI sz e P (weF t sz S w r P) := by
  have h1 := nx_o1 (t := t) h
  unfold weF
  split
  · split
    · rename_i q
      rw [nmB_t] at q
      refine ⟨okK_m (nx_o1 h1) (Int.le_trans h.1.1 h1.1.1), fun _ => ⟨okT_sky hO hr q.2, fun j hj => ur_o (by omega), ?_, ?_⟩⟩
      · show 0 ≤ ur P r _ 44 ∧ ur P r _ 44 ≤ 1
        rw [ur_o (by omega)]; exact h4
      · show P 8 ≤ ur P r _ 8
        rw [ur_o (by omega)]; exact Int.le_refl _
    · exact OI_f (okK_m h1 h.1.1)
  · exact ⟨h, fun _ => ⟨hO, fun _ _ => rfl, h4, Int.le_refl _⟩⟩
theorem OI_sp1 {t : Int → Int} {sz e : Int} {P : Int → Int} {S : tkT} (h : okK sz e S) (hO : okT P) (h4 : 0 ≤ P 44 ∧ P 44 ≤ 1) : OI sz e P (sp1 t sz S P) := by
  have h1 := nx_o1 (t := t) h
  unfold sp1
  split
  · rename_i q
    rw [nmB_t] at q
    have w1 := OI_we (t := t) (w := 10) (r := 20 + S.2.2.2) h1 hO h4 (by omega)
    split
    · rename_i q2
      obtain ⟨u1, u2, u3, u4⟩ := w1.2 q2
      have w2 := OI_we (t := t) (w := 11) (r := 32 + S.2.2.2) w1.1 u1 u3 (by omega)
      refine ⟨okK_m w2.1 h.1.1, fun q3 => ?_⟩
      obtain ⟨v1, v2, v3, v4⟩ := w2.2 q3
      exact ⟨v1, fun j hj => (v2 j hj).trans (u2 j hj), v3, Int.le_trans u4 v4⟩
    · exact OI_m w1 h.1.1
  · exact OI_f h
theorem okT_q {N : Int → Int} {c v : Int} (hO : okT N) (hc : 0 ≤ c ∧ c ≤ 7) (hv : 0 ≤ v ∧ v ≤ 3) : okT (ur N c v) := by
  have eo : ∀ j, j ≠ c → ur N c v j = N j := fun j q => ur_o q
  obtain ⟨o1, o2, o3, o4, o5⟩ := hO
  unfold okT
  rw [eo 8 (by omega)]
  refine ⟨o1, fun x x0 x1 => ?_, fun i j0 j1 => by rw [eo _ (by omega)]; exact o3 i j0 j1, fun i j0 j1 => by rw [eo _ (by omega)]; exact o4 i j0 j1, fun s s0 s1 => by rw [eo _ (by omega), eo _ (by omega), eo _ (by omega), eo _ (by omega), eo _ (by omega)]; exact o5 s s0 s1⟩
  by_cases e : x = c
  · subst e; rw [ur_s]; exact hv
  · rw [eo x e]; exact o2 x x0 x1
theorem OI_qu1 {t : Int → Int} {sz e : Int} {P : Int → Int} {S : tkT} (h : okK sz e S) (hO : okT P) (h4 : 0 ≤ P 44 ∧ P 44 ≤ 1) : OI sz e P (qu1 t sz S P) := by
  have h1 := nx_o1 (t := t) h
  unfold qu1
  split
  · rename_i q
    rw [nmB_t] at q
    split
    · rename_i q2
      rw [nmB_t] at q2
      refine ⟨okK_m (nx_o1 h1) (Int.le_trans h.1.1 h1.1.1), fun _ => ⟨okT_q hO q.2 q2.2, fun j hj => ur_o (by omega), ?_, ?_⟩⟩
      · show 0 ≤ ur P S.2.2.2 _ 44 ∧ ur P S.2.2.2 _ 44 ≤ 1
        rw [ur_o (by omega)]; exact h4
      · show P 8 ≤ ur P S.2.2.2 _ 8
        rw [ur_o (by omega)]; exact Int.le_refl _
    · exact OI_f (okK_m h1 h.1.1)
  · exact OI_f h
/-- an item goes on by a word at least -/
theorem OI_it {t : Int → Int} {sz e : Int} {P : Int → Int} {S : tkT} (h : okK sz e S) (hO : okT P) (h4 : 0 ≤ P 44 ∧ P 44 ≤ 1) : OI sz S.1 P (itF t sz S P) ∧ ((itF t sz S P).1 = true → S.2.1 ≤ (itF t sz S P).2.1.1 ∧ S.2.2.1 = 1) := by
  have h1 := nx_ok (t := t) h
  have hs : okK sz S.1 S := ⟨⟨Int.le_refl _, h.1.2⟩, h.2⟩
  have two : ∀ A : itT, OI sz S.2.1 P A → S.2.2.1 = 1 → OI sz S.1 P A ∧ (A.1 = true → S.2.1 ≤ A.2.1.1 ∧ S.2.2.1 = 1) := fun A q z => ⟨OI_m q h.1.2.1, fun _ => ⟨q.1.1.1, z⟩⟩
  have sal : ∀ z, (0 ≤ z ∧ z ≤ 1) → OI sz S.2.1 P (true, nx t sz S, ur P 44 z) := fun z hz => ⟨h1, fun _ => ⟨okT_mid hO (by omega), fun j hj => ur_o (by omega), by show 0 ≤ ur P 44 z 44 ∧ ur P 44 z 44 ≤ 1; rw [ur_s]; exact hz, by show P 8 ≤ ur P 44 z 8; rw [ur_o (by decide)]; exact Int.le_refl _⟩⟩
  have kb := kd_b t S
  unfold itF
  split
  · rename_i q
    have kb2 : (0 ≤ kdF t S ∧ kdF t S ≤ 6) ∧ wdF t S (kwF (kdF t S)) = true := by
      rcases kb with z | z
      · omega
      · exact z
    split
    · rename_i q2
      exact two _ (OI_st1 h1 hO h4 q2 kb2.1) (wd_1 kb2.2).1
    · exact ⟨OI_f hs, fun q => absurd q Bool.false_ne_true⟩
  · split
    · rename_i q
      exact two _ (OI_sp1 h1 hO h4) (wd_1 q).1
    · split
      · rename_i q
        exact two _ (OI_qu1 h1 hO h4) (wd_1 q).1
      · split
        · rename_i q
          exact two _ (sal 1 (by decide)) (wd_1 q).1
        · split
          · rename_i q
            exact two _ (sal 0 (by decide)) (wd_1 q).1
          · exact ⟨OI_f hs, fun q => absurd q Bool.false_ne_true⟩
