/-! both change one thing of her or of the town alike -/
/-- the row that counts has changed in both alike -/
theorem Inv_row {h h' : hT} (hI : Inv h) (hR : RS1 h' (h' 109)) (hO : okT (h' 109)) (hS : okS (h' 109)) (hm : h' 109 50 ≤ 999) (c : ∀ a, CR a → (a = 0 ∨ 25 ≤ a) → a ≠ 109 → h' a = h a) (e3 : h' 108 3 = h 108 3) (e5 : h' 108 5 = h 108 5) (e16 : h' 108 16 = h 108 16) : Inv h' := by
  have key : Inv (fun a => if (1 ≤ a ∧ a ≤ 24) ∨ a = 109 then h a else h' a) := by
    refine Inv_fr hI (fun a ha => ?_) e3 e5 e16
    by_cases q : (1 ≤ a ∧ a ≤ 24) ∨ a = 109
    · simp only [if_pos q]
    · simp only [if_neg q]
      exact c a ha (by unfold CR at ha; omega) (by omega)
  obtain ⟨-, ⟨k4, k5, k6⟩, k7, k8, k9, k10, k11⟩ := key
  refine ⟨⟨hR, hO, hS, hm⟩, ⟨k4, k5, fun q => ?_⟩, k7, k8, k9, fun s s0 s1 => ?_, k11⟩
  · obtain ⟨j1, j2, j3⟩ := k6 q
    exact ⟨RS2_fr j1 j2 (fun a ha => by simp only [if_neg (show ¬ ((1 ≤ a ∧ a ≤ 24) ∨ a = 109) by omega)]), j2, j3⟩
  · exact shI_fr (k10 s s0 s1) s0 s1 (fun a ha => by simp only [if_neg (show ¬ ((1 ≤ a ∧ a ≤ 24) ∨ a = 109) by omega)])
