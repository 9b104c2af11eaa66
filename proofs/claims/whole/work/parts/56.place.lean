/-! one place of the class and its place in the row change alike -/
theorem up_ur {h : hT} {N : Int → Int} {A j r z B i R : Int} (e : h B i = N R) (q : (B = A ∧ i = j) ↔ R = r) : up h A j z B i = ur N r z R := by
  unfold up ur
  by_cases c : R = r
  · rw [if_pos (q.mpr c), if_pos c]
  · rw [if_neg (fun x => c (q.mp x)), if_neg c]; exact e
def PL (n A j r : Int) : Prop := (A = 4 ∧ (0 ≤ j ∧ j < 8) ∧ r = j) ∨ (A = 5 ∧ (0 ≤ j ∧ j < 12) ∧ r = 20 + j) ∨ (A = 6 ∧ (0 ≤ j ∧ j < 12) ∧ r = 32 + j) ∨ (A = 23 ∧ (0 ≤ j ∧ j < 4) ∧ r = 45 + j) ∨ (A = 24 ∧ (0 ≤ j ∧ j < 10) ∧ r = 10 + j) ∨ (A = 22 ∧ ((j = 1 ∧ r = 44) ∨ (2 ≤ j ∧ j ≤ 5 ∧ r = 47 + j))) ∨ (A = 1 ∧ j = 3 ∧ r = 9) ∨ (8 ≤ A ∧ A < 8 + n ∧ (j = 0 ∨ j = 3 ∨ j = 4) ∧ r = 53 + 5 * (A - 8) + j)
theorem RS1_up {h : hT} {N : Int → Int} {A j r z : Int} (hR : RS1 h N) (hO : okT N) (hp : PL (N 8) A j r) : RS1 (up h A j z) (ur N r z) := by
  have h8 := hO.1
  unfold PL at hp
  obtain ⟨⟨t1, t2, t3, t4, t5⟩, r1, r2, r3, r4, r5, r6, r7, r8⟩ := hR
  have e8 : ur N r z 8 = N 8 := ur_o (by omega)
  refine ⟨⟨up_ur t1 (by omega), fun c c0 c1 => up_ur (t2 c c0 c1) (by omega), fun i i0 i1 => up_ur (t3 i i0 i1) (by omega), fun i i0 i1 => up_ur (t4 i i0 i1) (by omega), fun s s0 s1 => ?_⟩, ⟨up_ur r1.1 (by omega), up_ur r1.2.1 (by omega), up_ur r1.2.2.1 (by omega), up_ur r1.2.2.2 (by omega)⟩, up_ur r2 (by omega), up_ur r3 (by omega), up_ur r4 (by omega), up_ur r5 (by omega), up_ur r6 (by omega), fun s s0 s1 => up_ur (r7 s s0 s1) (by omega), up_ur r8 (by omega)⟩
  rw [e8] at s1
  obtain ⟨u0, u1, u2, u3, u4⟩ := t5 s s0 s1
  have m1 : up h A j z (2 + 6 + s) 1 = h (2 + 6 + s) 1 := by
    unfold up
    rw [if_neg (by omega)]
  have m2 : up h A j z (2 + 6 + s) 2 = h (2 + 6 + s) 2 := by
    unfold up
    rw [if_neg (by omega)]
  refine ⟨up_ur u0 (by omega), ?_, ?_, up_ur u3 (by omega), up_ur u4 (by omega)⟩
  · rw [m1, m2, ur_o (by omega)]; exact u1
  · rw [m1, m2, ur_o (by omega)]; exact u2
/-- .. and all else holds still -/
theorem Inv_up {h : hT} {A j r z : Int} (hI : Inv h) (hp : PL (h 109 8) A j r) (hO : okT (ur (h 109) r z)) (hS : okS (ur (h 109) r z)) (hm : ur (h 109) r z 50 ≤ 999) : Inv (up (up h A j z) 109 r z) := by
  have hI0 := hI
  obtain ⟨⟨i1, i2, i3, i3'⟩, -, -, -, -, -, i11⟩ := hI0
  have h8 := i2.1
  have hA : 1 ≤ A ∧ A ≤ 24 ∧ A ≠ 7 := by unfold PL at hp; omega
  have e9 : up (up h A j z) 109 r z 109 = ur (h 109) r z := by rw [up_row, up_ne (by omega)]
  refine Inv_row hI ?_ (by rw [e9]; exact hO) (by rw [e9]; exact hS) (by rw [e9]; exact hm) (fun a q1 q2 q3 => by rw [up_ne q3, up_ne (by omega)]) (by rw [up_ne (by decide), up_ne (by omega)]) (by rw [up_ne (by decide), up_ne (by omega)]) (by rw [up_ne (by decide), up_ne (by omega)])
  rw [e9]
  exact RS1_fr (RS1_up i1 i2 hp) hO (fun a ha => up_ne (by omega))
