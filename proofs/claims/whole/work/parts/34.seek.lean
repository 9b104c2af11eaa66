/-! the class's search -/
/-- the seeker knows the town of the row N, w thought away -/
def SK (h : hT) (N : Int → Int) (w : Int) : Prop := (∀ a b, 0 ≤ a → a ≤ 7 → 0 ≤ b → b ≤ 7 → h 70 (8 * a + b) = byF N w a b) ∧ (∀ s, 0 ≤ s → s < N 8 → h 71 s = takesF N s) ∧ (∀ s j, 0 ≤ s → s < N 8 → 0 ≤ j → j < 12 → h 72 (12 * s + j) = lossF N (N 44) s j) ∧ ∀ c, 0 ≤ c → c < 8 → h 73 c = N c
theorem SK_row {h h' : hT} {N M : Int → Int} {w : Int} (hK : SK h N w) (hh : ∀ a, 70 ≤ a → a ≤ 73 → h' a = h a) (e : ∀ j, (j < 45 ∨ 53 ≤ j) → M j = N j) : SK h' M w := by
  obtain ⟨k1, k2, k3, k4⟩ := hK
  have e8 := e 8 (by omega)
  refine ⟨fun a b a0 a1 b0 b1 => ?_, fun s s0 s1 => ?_, fun s j s0 s1 j0 j1 => ?_, fun c c0 c1 => ?_⟩
  · rw [hh 70 (by decide) (by decide), byF_row (N := N) e8 (fun j hj => e j (by omega))]; exact k1 a b a0 a1 b0 b1
  · rw [hh 71 (by decide) (by decide), takesF_row (N := N) s0 (fun j hj => e j (by omega))]; exact k2 s s0 (by omega)
  · rw [hh 72 (by decide) (by decide), e 44 (by omega), lossF_row (N := N) j0 j1 s0 (fun j hj => e j (by omega))]; exact k3 s j s0 (by omega) j0 j1
  · rw [hh 73 (by decide) (by decide), e c (by omega)]; exact k4 c c0 c1
/-- of the row N0, L has melted: the row N -/
def ND (N0 N : Int → Int) (L : Int) : Prop := N 45 = mltP L 0 (N0 45) ∧ N 46 = mltP L (N0 45) (N0 46) ∧ N 47 = mltP L (N0 45 + N0 46) (N0 47) ∧ N 48 = mltP L (N0 45 + N0 46 + N0 47) (N0 48)
def okP (N : Int → Int) : Prop := 0 ≤ N 45 ∧ 0 ≤ N 46 ∧ 0 ≤ N 47 ∧ 0 ≤ N 48 ∧ totF N ≤ 99999
theorem ND_tot {N0 N : Int → Int} {L : Int} (hP : okP N0) (hD : ND N0 N L) (hL : 0 ≤ L) : totF N = max 0 (totF N0 - L) := by
  obtain ⟨d1, d2, d3, d4⟩ := hD
  obtain ⟨p1, p2, p3, p4, p5⟩ := hP
  unfold totF at *
  rw [d1, d2, d3, d4]
  unfold mltP
  omega
theorem ND_car {N0 N : Int → Int} {L s c : Int} (hP : okP N0) (hD : ND N0 N L) (hL : 0 ≤ L) (hl : 0 ≤ lossT N s) : ND N0 (carN N s c) (L + lossT N s) := by
  obtain ⟨d1, d2, d3, d4⟩ := hD
  obtain ⟨p1, p2, p3, p4, p5⟩ := hP
  refine ⟨?_, ?_, ?_, ?_⟩
  · show mltP (lossT N s) 0 (N 45) = _
    rw [d1]; unfold mltP; omega
  · show mltP (lossT N s) (N 45) (N 46) = _
    rw [d1, d2]; unfold mltP; omega
  · show mltP (lossT N s) (N 45 + N 46) (N 47) = _
    rw [d1, d2, d3]; unfold mltP; omega
  · show mltP (lossT N s) (N 45 + N 46 + N 47) (N 48) = _
    rw [d1, d2, d3, d4]; unfold mltP; omega
def flF (N : Int → Int) : Int := if N 47 = 0 then 0 else N 45 + N 46 + N 47
theorem flF_b {N : Int → Int} (hP : okP N) : 0 ≤ flF N ∧ flF N ≤ 99999 := by
  obtain ⟨p1, p2, p3, p4, p5⟩ := hP
  unfold totF at p5
  unfold flF
  split <;> omega
theorem ND_seen {N0 N : Int → Int} {L s c : Int} (hP : okP N0) (hD : ND N0 N L) (hL : 0 ≤ L) (hl : 0 ≤ lossT N s) : (if L + lossT N s < flF N0 then io (N 51) (il 1 (N c)) else N 51) = carN N s c 51 := by
  have h3 := (ND_car (c := c) hP hD hL hl).2.2.1
  obtain ⟨p1, p2, p3, p4, p5⟩ := hP
  have e47 : carN N s c 47 = mltP (lossT N s) (N 45 + N 46) (N 47) := rfl
  show _ = (if 0 < mltP (lossT N s) (N 45 + N 46) (N 47) then io (N 51) (il 1 (N c)) else N 51)
  rw [← e47, h3]
  have hi : L + lossT N s < flF N0 ↔ 0 < mltP (L + lossT N s) (N0 45 + N0 46) (N0 47) := by
    unfold flF mltP
    split <;> omega
  by_cases q : L + lossT N s < flF N0
  · rw [if_pos q, if_pos (hi.mp q)]
  · rw [if_neg q, if_neg (fun x => q (hi.mpr x))]
/-- the class's finds -/
def AC (g : Int) (h : hT) (A : aT) : Prop := h 69 12 = A.1 ∧ h 69 13 = A.2.1 ∧ h 69 16 = A.2.2.1 ∧ (0 ≤ h 69 14 ∧ h 69 14 ≤ 999) ∧ (0 ≤ g → (A.1 ≠ 0 → h 69 14 = A.2.2.2.1) ∧ (A.1 = 0 → A.2.2.2.1 = 999)) ∧ (∀ j, 0 ≤ j → j < A.2.2.1 → h 75 j = A.2.2.2.2 j) ∧ okA A ∧ 0 ≤ A.1
def FC (k : Int) (h h' : hT) : Prop := (∀ a, a ≠ 69 → a ≠ 74 → a ≠ 75 → h' a = h a) ∧ (∀ j, j ≠ 12 → j ≠ 13 → j ≠ 14 → j ≠ 16 → h' 69 j = h 69 j) ∧ ∀ j, j < k → h' 74 j = h 74 j
theorem FC_r (k : Int) (h : hT) : FC k h h := ⟨fun _ _ _ _ => rfl, fun _ _ _ _ _ => rfl, fun _ _ => rfl⟩
theorem FC_t {k : Int} {h g f : hT} (a : FC k h g) (b : FC k g f) : FC k h f :=
  ⟨fun x q1 q2 q3 => (b.1 x q1 q2 q3).trans (a.1 x q1 q2 q3), fun j q1 q2 q3 q4 => (b.2.1 j q1 q2 q3 q4).trans (a.2.1 j q1 q2 q3 q4), fun j q => (b.2.2 j q).trans (a.2.2 j q)⟩
/-- what the seeker was told -/
def SF (h : hT) (g o due b : Int) (N0 : Int → Int) : Prop := h 69 4 = due ∧ h 69 5 = o ∧ h 69 6 = totF N0 ∧ h 69 7 = flF N0 ∧ h 69 9 = g ∧ h 69 10 = b
theorem SF_c {h h' : hT} {g o due b k : Int} {N0 : Int → Int} (s : SF h g o due b N0) (f : FC k h h') : SF h' g o due b N0 := by
  obtain ⟨s1, s2, s3, s4, s5, s6⟩ := s
  have e := f.2.1
  exact ⟨(e 4 (by decide) (by decide) (by decide) (by decide)).trans s1, (e 5 (by decide) (by decide) (by decide) (by decide)).trans s2, (e 6 (by decide) (by decide) (by decide) (by decide)).trans s3, (e 7 (by decide) (by decide) (by decide) (by decide)).trans s4, (e 9 (by decide) (by decide) (by decide) (by decide)).trans s5, (e 10 (by decide) (by decide) (by decide) (by decide)).trans s6⟩
section CK
variable {d : Nat} {h : hT} {K : Int → hT → Prop} {KV : hT → Prop} {N N0 : Int → Int} {g o due b : Int}
theorem c_seenAt {c L s F q : Int} (hF : h 69 7 = F) (hc : 0 ≤ c ∧ c ≤ 7) (hq : h 73 c = q) (hL : -2147483648 ≤ L ∧ L ≤ 2147483647) (hFb : -2147483648 ≤ F ∧ F ≤ 2147483647) (k : K (if L < F then io s (il 1 q) else s) h) : ClI (d + 1) mX3_seenAt [vr 69, vi c, vi L, vi s] h K := by
  refine cl_in (al := [vr 69, vi c, vi L, vi s]) rfl (Nat.le_of_ble_eq_true rfl) (by simp [vi_cat, vr_cat, vs_cat]) ?_
  refine yr_iload_n (pq := 1) rfl dX3_seenAt_0 rfl ?_
  refine yr_aload_n (pq := 2) rfl dX3_seenAt_1 rfl ?_
  refine yr_getI (pq := 5) 7 rfl dX3_seenAt_2 kF_3_34 (by decide) rfl (by decide) ?_
  rw [hF]
  refine yr_ic_ge (pq := 8) (t := 21) rfl dX3_seenAt_5 rfl (by omega) (by omega) (fun q9 => ?_) (fun q9 => ?_)
  · rw [if_neg (by omega)] at k
    refine yr_iload_n (pq := 22) rfl dX3_seenAt_21 rfl ?_
    exact yr_iret dX3_seenAt_22 rfl (k)
  · rw [if_pos (by omega)] at k
    refine yr_iload_n (pq := 9) rfl dX3_seenAt_8 rfl ?_
    refine yr_iconst (pq := 10) rfl dX3_seenAt_9 ?_
    refine yr_aload_n (pq := 11) rfl dX3_seenAt_10 rfl ?_
    refine yr_getR (pq := 14) (b := 73) 3 rfl dX3_seenAt_11 kF_3_21 (by decide) rfl ?_
    refine yr_iload_n (pq := 15) rfl dX3_seenAt_14 rfl ?_
    refine yr_iald (pq := 16) rfl dX3_seenAt_15 rfl (by decide) (by omega) ?_
    refine yr_ishl (pq := 17) rfl dX3_seenAt_16 ?_
    refine yr_ior (pq := 18) rfl dX3_seenAt_17 ?_
    refine yr_goto (t := 22) dX3_seenAt_18 rfl ?_
    rw [hq]
    exact yr_iret dX3_seenAt_22 rfl (k)
theorem c_note {m L k mm : Int} {A : aT} {p : Int → Int} (hF : SF h g o due b N0) (hP : okP N0) (hA : AC g h A) (hL : 0 ≤ L ∧ L ≤ 100000) (hk : 0 ≤ k ∧ k ≤ 7) (hm : 0 ≤ m - b ∧ m - b ≤ 999) (hmm : 0 ≤ mm ∧ mm ≤ 999) (hg : 0 ≤ g → mm = m - b) (hn : A.1 ≤ 1000000000) (hp : ∀ j, 0 ≤ j → j < k → h 74 j = p j)
    (kk : ∀ h', FC 10 h h' → AC g h' (noteF A (max 0 (totF N0 - L)) k mm p) → KV h') : ClV (d + 2) mX3_note [vr 69, vi m, vi L, vi k] h KV := by
  obtain ⟨s1, s2, s3, s4, s5, s6⟩ := hF
  obtain ⟨p1, p2, p3, p4, p5⟩ := hP
  have p6 : 0 ≤ totF N0 := by unfold totF; omega
  have ho := noteF_ok (A := A) (l := max 0 (totF N0 - L)) (k := k) (m := mm) (p := p) hA.2.2.2.2.2.2.1 (by omega) hk hmm
  obtain ⟨r1, r2, r3, r4, r5, r6, ⟨o1, o2, o3⟩, r8⟩ := hA
  have tail : ∀ (f : Int), 0 ≤ f ∧ f ≤ 999 → (0 ≤ g → f = min A.2.2.2.1 mm) → Yr (d + 1) mX3_note 42 [vr 69, vi m, vi L, vi k, vi (max 0 (totF N0 - L)), vi (m - b)] [vi f, vr 69] h (rV KV) := by
    intro f hf hfg
    refine yr_putI (pq := 45) 14 rfl dX3_note_42 kF_3_55 (by decide) rfl rfl (by decide) ?_
    refine yr_aload_n (pq := 46) rfl dX3_note_45 rfl ?_
    refine yr_dup (pq := 47) rfl dX3_note_46 rfl ?_
    refine yr_getI (pq := 50) 12 rfl dX3_note_47 kF_3_49 (by decide) rfl (by decide) ?_
    refine yr_iconst (pq := 51) rfl dX3_note_50 ?_
    refine yr_iadd (pq := 52) rfl dX3_note_51 ?_
    refine yr_putI (pq := 55) 12 rfl dX3_note_52 kF_3_49 (by decide) rfl rfl (by decide) ?_
    refine yr_iload (pq := 57) rfl dX3_note_55 rfl ?_
    refine yr_aload_n (pq := 58) rfl dX3_note_57 rfl ?_
    refine yr_getI (pq := 61) 13 rfl dX3_note_58 kF_3_52 (by decide) rfl (by decide) ?_
    simp (disch := decide) only [up_k]
    rw [r1, r2]
    refine yr_ic_le (pq := 64) (t := 89) rfl dX3_note_61 rfl (by omega) (by omega) (fun q => ?_) (fun q => ?_)
    · refine yr_vret dX3_note_89 rfl (kk _ ⟨fun a a1 a2 a3 => by rw [up_ne a1, up_ne a1], fun j j1 j2 j3 j4 => by rw [up_k j1, up_k j3], fun j _ => by rw [up_ne (by decide), up_ne (by decide)]⟩ ?_)
      unfold noteF at ho ⊢
      rw [if_neg (by omega)] at ho ⊢
      refine ⟨?_, ?_, ?_, ?_, fun g0 => ⟨fun _ => ?_, fun q0 => ?_⟩, fun j j0 j1 => ?_, ho, ?_⟩
      · rw [up_s]
      · rw [up_k (by decide), up_k (by decide)]; exact r2
      · rw [up_k (by decide), up_k (by decide)]; exact r3
      · rw [up_k (by decide), up_s]; exact hf
      · rw [up_k (by decide), up_s]; exact hfg g0
      · have q1 : A.1 + 1 = 0 := q0
        omega
      · rw [up_ne (by decide), up_ne (by decide)]; exact r6 j j0 j1
      · show 0 ≤ A.1 + 1
        omega
    · refine yr_aload_n (pq := 65) rfl dX3_note_64 rfl ?_
      refine yr_iload (pq := 67) rfl dX3_note_65 rfl ?_
      refine yr_putI (pq := 70) 13 rfl dX3_note_67 kF_3_52 (by decide) rfl rfl (by decide) ?_
      refine yr_aload_n (pq := 71) rfl dX3_note_70 rfl ?_
      refine yr_iload_n (pq := 72) rfl dX3_note_71 rfl ?_
      refine yr_putI (pq := 75) 16 rfl dX3_note_72 kF_3_61 (by decide) rfl rfl (by decide) ?_
      refine yr_aload_n (pq := 76) rfl dX3_note_75 rfl ?_
      refine yr_getR (pq := 79) (b := 74) 11 rfl dX3_note_76 kF_3_46 (by decide) rfl ?_
      refine yr_iconst (pq := 80) rfl dX3_note_79 ?_
      refine yr_aload_n (pq := 81) rfl dX3_note_80 rfl ?_
      refine yr_getR (pq := 84) (b := 75) 15 rfl dX3_note_81 kF_3_58 (by decide) rfl ?_
      refine yr_iconst (pq := 85) rfl dX3_note_84 ?_
      refine yr_iload_n (pq := 86) rfl dX3_note_85 rfl ?_
      refine yr_cpy (pq := 89) rfl dX3_note_86 kO_3_95 kX_3_95 rfl rfl ⟨(by decide), (by decide)⟩ (by omega) (by omega) (by omega) cat0 ?_
      refine yr_vret dX3_note_89 rfl (kk _ ⟨fun a a1 a2 a3 => by rw [cp_o a3, up_ne a1, up_ne a1, up_ne a1, up_ne a1], fun j j1 j2 j3 j4 => by rw [cp_o (by decide), up_k j4, up_k j2, up_k j1, up_k j3], fun j _ => by rw [cp_o (by decide), up_ne (by decide), up_ne (by decide), up_ne (by decide), up_ne (by decide)]⟩ ?_)
      unfold noteF at ho ⊢
      rw [if_pos (by omega)] at ho ⊢
      refine ⟨?_, ?_, ?_, ?_, fun g0 => ⟨fun _ => ?_, fun q0 => ?_⟩, fun j j0 j1 => ?_, ho, ?_⟩
      · rw [cp_o (by decide), up_k (by decide), up_k (by decide), up_s]
      · rw [cp_o (by decide), up_k (by decide), up_s]
      · rw [cp_o (by decide), up_s]
      · rw [cp_o (by decide), up_k (by decide), up_k (by decide), up_k (by decide), up_s]; exact hf
      · rw [cp_o (by decide), up_k (by decide), up_k (by decide), up_k (by decide), up_s]; exact hfg g0
      · have q1 : A.1 + 1 = 0 := q0
        omega
      · have j2 : j < k := j1
        rw [cp_i (by omega) (by omega), up_ne (by decide), up_ne (by decide), up_ne (by decide), up_ne (by decide), show (0 : Int) + (j - 0) = j by omega]; exact hp j j0 j2
      · show 0 ≤ A.1 + 1
        omega
  refine cl_in (al := [vr 69, vi m, vi L, vi k, .null, .null]) rfl (Nat.le_of_ble_eq_true rfl) (by simp [vi_cat, vr_cat, vs_cat]) ?_
  refine yr_iconst (pq := 1) rfl dX3_note_0 ?_
  refine yr_aload_n (pq := 2) rfl dX3_note_1 rfl ?_
  refine yr_getI (pq := 5) 6 rfl dX3_note_2 kF_3_31 (by decide) rfl (by decide) ?_
  refine yr_iload_n (pq := 6) rfl dX3_note_5 rfl ?_
  refine yr_isub (pq := 7) rfl dX3_note_6 ?_
  rw [s3]
  refine yr_sI2 (pq := 10) rfl dX3_note_7 kM_3_140 (by decide) cat0 (j_max (by omega) (by omega) ?_)
  refine yr_istore4 (pq := 12) rfl dX3_note_10 ?_
  refine yr_iload_n (pq := 13) rfl dX3_note_12 rfl ?_
  refine yr_aload_n (pq := 14) rfl dX3_note_13 rfl ?_
  refine yr_getI (pq := 17) 10 rfl dX3_note_14 kF_3_43 (by decide) rfl (by decide) ?_
  refine yr_isub (pq := 18) rfl dX3_note_17 ?_
  refine yr_istore5 (pq := 20) rfl dX3_note_18 ?_
  refine yr_aload_n (pq := 21) rfl dX3_note_20 rfl ?_
  refine yr_aload_n (pq := 22) rfl dX3_note_21 rfl ?_
  refine yr_getI (pq := 25) 12 rfl dX3_note_22 kF_3_49 (by decide) rfl (by decide) ?_
  rw [s6, r1]
  refine yr_if_ne (pq := 28) (t := 33) rfl dX3_note_25 rfl (by omega) (fun q => ?_) (fun q => ?_)
  · refine yr_aload_n (pq := 34) rfl dX3_note_33 rfl ?_
    refine yr_getI (pq := 37) 14 rfl dX3_note_34 kF_3_55 (by decide) rfl (by decide) ?_
    refine yr_iload (pq := 39) rfl dX3_note_37 rfl ?_
    refine yr_sI2 (pq := 42) rfl dX3_note_39 kM_3_146 (by decide) (Nat.le_of_ble_eq_true rfl) (j_min (by omega) (by omega) ?_)
    exact tail _ (by omega) (fun g0 => by rw [(r5 g0).1 q, hg g0])
  · refine yr_iload (pq := 30) rfl dX3_note_28 rfl ?_
    refine yr_goto (t := 42) dX3_note_30 rfl ?_
    refine tail (m - b) hm (fun g0 => ?_)
    have e9 := (r5 g0).2 (by omega)
    rw [hg g0, e9]
    omega
end CK
