/-! what holds between the class and the reference after every call -/
def shI (h : hT) (s : Int) : Prop := h (100 + 2 * s) 0 = h 119 s ∧ (h 119 s = 0 ∨ h 119 s = 8 ∨ h 119 s = 16 ∨ h 119 s = 32) ∧ h (100 + 2 * s) 1 = h 120 s ∧ (0 ≤ h 120 s ∧ h 120 s ≤ 40) ∧ ∀ i, 0 ≤ i → i < h 120 s → h (100 + 2 * s + 1) i = h 121 (40 * s + i) ∧ -2147483648 ≤ h 121 (40 * s + i) ∧ h 121 (40 * s + i) ≤ 2147483647
def Inv (h : hT) : Prop := (RS1 h (h 109) ∧ okT (h 109) ∧ okS (h 109) ∧ h 109 50 ≤ 999) ∧ (h 0 2 = h 108 3 ∧ (h 0 2 = 0 ∨ h 0 2 = 1) ∧ (h 0 2 = 1 → RS2 h (h 110) ∧ okT (h 110) ∧ okS (h 110) ∧ h 110 50 ≤ 999)) ∧ (∀ k, 0 ≤ k → k < 7 → h 99 k = h 112 (k + 1)) ∧ h 112 0 = sumA (h 99) 0 0 7 ∧ (h 76 1 = h 108 16 ∧ (0 ≤ h 76 1 ∧ h 76 1 ≤ 120) ∧ ∀ i, 0 ≤ i → i < h 76 1 → h 77 i = h 116 i ∧ 0 ≤ h 77 i ∧ h 77 i ≤ 255) ∧ (∀ s, 0 ≤ s → s < 4 → shI h s) ∧ h 108 5 = -1
/-- the cells that count -/
def CR (a : Int) : Prop := (0 ≤ a ∧ a ≤ 6) ∨ (8 ≤ a ∧ a ≤ 30) ∨ (32 ≤ a ∧ a ≤ 48) ∨ a = 76 ∨ a = 77 ∨ (99 ≤ a ∧ a ≤ 107) ∨ a = 109 ∨ a = 110 ∨ a = 112 ∨ a = 116 ∨ (119 ≤ a ∧ a ≤ 121)
theorem RS1_fr {h h' : hT} {N : Int → Int} (hR : RS1 h N) (hO : okT N) (c : ∀ a, (1 ≤ a ∧ a ≤ 24 ∧ a ≠ 7) → h' a = h a) : RS1 h' N := by
  obtain ⟨r0, r1, r2, r3, r4, r5, r6, r7, r8⟩ := hR
  refine ⟨RT_cong r0 hO (fun j j0 j1 j2 => c _ (by omega)), ?_, ?_, ?_, ?_, ?_, ?_, ?_, ?_⟩
  · rw [c 23 (by decide)]; exact r1
  · rw [c 22 (by decide)]; exact r2
  · rw [c 22 (by decide)]; exact r3
  · rw [c 22 (by decide)]; exact r4
  · rw [c 22 (by decide)]; exact r5
  · rw [c 22 (by decide)]; exact r6
  · rw [c 24 (by decide)]; exact r7
  · rw [c 1 (by decide)]; exact r8
theorem RS2_fr {h h' : hT} {N : Int → Int} (hR : RS2 h N) (hO : okT N) (c : ∀ a, (25 ≤ a ∧ a ≤ 48 ∧ a ≠ 31) → h' a = h a) : RS2 h' N := by
  obtain ⟨r0, r1, r2, r3, r4, r5, r6, r7, r8⟩ := hR
  refine ⟨RT_cong r0 hO (fun j j0 j1 j2 => c _ (by omega)), ?_, ?_, ?_, ?_, ?_, ?_, ?_, ?_⟩
  · rw [c 47 (by decide)]; exact r1
  · rw [c 46 (by decide)]; exact r2
  · rw [c 46 (by decide)]; exact r3
  · rw [c 46 (by decide)]; exact r4
  · rw [c 46 (by decide)]; exact r5
  · rw [c 46 (by decide)]; exact r6
  · rw [c 48 (by decide)]; exact r7
  · rw [c 25 (by decide)]; exact r8
theorem shI_fr {h h' : hT} {s : Int} (hs : shI h s) (s0 : 0 ≤ s) (s1 : s < 4) (c : ∀ a, (100 ≤ a ∧ a ≤ 107) ∨ (119 ≤ a ∧ a ≤ 121) → h' a = h a) : shI h' s := by
  unfold shI at hs ⊢
  rw [c (100 + 2 * s) (by omega), c (100 + 2 * s + 1) (by omega), c 119 (by omega), c 120 (by omega), c 121 (by omega)]
  exact hs
theorem Inv_fr {h h' : hT} (hI : Inv h) (c : ∀ a, CR a → h' a = h a) (e3 : h' 108 3 = h 108 3) (e5 : h' 108 5 = h 108 5) (e16 : h' 108 16 = h 108 16) : Inv h' := by
  obtain ⟨⟨i1, i2, i3, i3'⟩, ⟨i4, i5, i6⟩, i7, i8, i9, i10, i11⟩ := hI
  unfold CR at c
  have c109 := c 109 (by omega)
  have c110 := c 110 (by omega)
  refine ⟨⟨?_, ?_, ?_, ?_⟩, ⟨?_, ?_, fun q => ?_⟩, fun k k0 k1 => ?_, ?_, ⟨?_, ?_, fun i j0 j1 => ?_⟩, fun s s0 s1 => ?_, ?_⟩
  · rw [c109]; exact RS1_fr i1 i2 (fun a ha => c a (by omega))
  · rw [c109]; exact i2
  · rw [c109]; exact i3
  · rw [c109]; exact i3'
  · rw [c 0 (by omega), e3]; exact i4
  · rw [c 0 (by omega)]; exact i5
  · rw [c 0 (by omega)] at q
    obtain ⟨j1, j2, j3⟩ := i6 q
    rw [c110]
    exact ⟨RS2_fr j1 j2 (fun a ha => c a (by omega)), j2, j3⟩
  · rw [c 99 (by omega), c 112 (by omega)]; exact i7 k k0 k1
  · rw [c 99 (by omega), c 112 (by omega)]; exact i8
  · rw [c 76 (by omega), e16]; exact i9.1
  · rw [c 76 (by omega)]; exact i9.2.1
  · rw [c 76 (by omega)] at j1
    rw [c 77 (by omega), c 116 (by omega)]; exact i9.2.2 i j0 j1
  · exact shI_fr (i10 s s0 s1) s0 s1 (fun a ha => c a (by omega))
  · rw [e5]; exact i11
theorem sum7_ur (f : Int → Int) {k : Int} (hk : 0 ≤ k ∧ k ≤ 6) : sumA (ur f k (f k + 1)) 0 0 7 = sumA f 0 0 7 + 1 := by
  have h7 : k = 0 ∨ k = 1 ∨ k = 2 ∨ k = 3 ∨ k = 4 ∨ k = 5 ∨ k = 6 := by omega
  rcases h7 with q | q | q | q | q | q | q <;> subst q <;> simp [sumA, ur] <;> omega
/-- both have told one finding more -/
theorem Inv_find {h h' : hT} {k : Int} (hI : Inv h) (hk : 0 ≤ k ∧ k ≤ 6) (c : ∀ a, CR a → a ≠ 99 → a ≠ 112 → h' a = h a) (c1 : h' 99 = ur (h 99) k (h 99 k + 1)) (c2 : h' 112 = ur (ur (h 112) (k + 1) (h 112 (k + 1) + 1)) 0 (h 112 0 + 1)) (e3 : h' 108 3 = h 108 3) (e5 : h' 108 5 = h 108 5) (e16 : h' 108 16 = h 108 16) : Inv h' := by
  have hI0 := hI
  obtain ⟨i0, i0', i7, i8, i9, i10, i11⟩ := hI0
  have key : Inv (fun a => if a = 99 then h 99 else if a = 112 then h 112 else h' a) := by
    refine Inv_fr hI (fun a ha => ?_) e3 e5 e16
    by_cases q : a = 99
    · subst q; rfl
    · by_cases q2 : a = 112
      · subst q2; rfl
      · simp only [if_neg q, if_neg q2]; exact c a ha q q2
  obtain ⟨⟨k1, k2, k3⟩, ⟨k4, k5, k6⟩, -, -, k9, k10, k11⟩ := key
  refine ⟨⟨RS1_fr k1 k2 (fun a ha => ?_), k2, k3⟩, ⟨k4, k5, fun q => ?_⟩, fun j j0 j1 => ?_, ?_, k9, fun s s0 s1 => ?_, k11⟩
  · simp only [if_neg (show ¬ a = 99 by omega), if_neg (show ¬ a = 112 by omega)]
  · obtain ⟨j1, j2, j3⟩ := k6 q
    exact ⟨RS2_fr j1 j2 (fun a ha => by simp only [if_neg (show ¬ a = 99 by omega), if_neg (show ¬ a = 112 by omega)]), j2, j3⟩
  · rw [c1, c2]
    by_cases e : j = k
    · subst e; rw [ur_s, ur_o (show j + 1 ≠ 0 by omega), ur_s, i7 j j0 j1]
    · rw [ur_o e, ur_o (show j + 1 ≠ 0 by omega), ur_o (show j + 1 ≠ k + 1 by omega)]; exact i7 j j0 j1
  · rw [c1, c2, ur_s, sum7_ur _ hk, i8]
  · exact shI_fr (k10 s s0 s1) s0 s1 (fun a ha => by simp only [if_neg (show ¬ a = 99 by omega), if_neg (show ¬ a = 112 by omega)])
/-- one call of both -/
def Sm (D : Nat) (y y' : am_MI) (as : List Value) (h : hT) : Prop := ClI D y (vr 0 :: as) h (fun r h1 => ClI D y' (vr 108 :: as) h1 (fun r2 h2 => r2 = r ∧ Inv h2))
