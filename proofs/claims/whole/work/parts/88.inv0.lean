/-! the start's heap: the invariant, and the world -/
theorem arrV_cong {c : ClassId} {N : Nat} {f g : Nat → Value} (h : ∀ j, j < N → f j = g j) : arrV c N f = arrV c N g := by
  unfold arrV
  have e : (fun j : Fin N => f j.val) = (fun j : Fin N => g j.val) := funext (fun j => h j.val j.isLt)
  rw [e]
theorem am_P_cong {D : va_G} {b0 n : Nat} {adK : Nat → Nat} {cA : Nat → ClassId} {g g' : Nat → Nat → Value} {H : Heap} (hn : n ≤ 123) (hP : va_P D am_cl (am_ws b0 adK cA (n, g)) H) (e : ∀ a, a < n → ∀ k, k < (am_kd a).2 → g a k = g' a k) : va_P D am_cl (am_ws b0 adK cA (n, g')) H := by
  intro k q hq
  obtain ⟨hk, rfl⟩ := am_ws_lt hq
  have h := hP k _ (am_ws_get (hp := (n, g)) hk)
  have ek := e k hk
  have h13 := (am_kd_in (show k < 123 from Nat.lt_of_lt_of_le hk hn)).1
  simp only at h ⊢
  rcases (show (am_kd k).1 = 0 ∨ ((am_kd k).1 = 1 ∨ (am_kd k).1 = 2 ∨ (am_kd k).1 = 3) ∨ 4 ≤ (am_kd k).1 by omega) with q0 | q1 | q4
  · rw [am_ce_0 q0] at h ⊢
    show H[b0 + k]? = some (vp_cell _ _)
    have h2 : H[b0 + k]? = some (vp_cell _ _) := h
    rw [h2, vp_cell_i, vp_cell_i]
    congr 1
    exact arrV_cong (fun j hj => by rw [ek j hj])
  · have q3 : 1 ≤ (am_kd k).1 ∧ (am_kd k).1 ≤ 3 := by omega
    rw [am_ce_q rfl q3.1 q3.2] at h ⊢
    show H[b0 + k]? = some (vp_cell _ _)
    have h2 : H[b0 + k]? = some (vp_cell _ _) := h
    rw [h2, vp_cell_q, vp_cell_q]
    congr 1
    exact arrV_cong (fun j hj => by rw [ek j hj])
  · have q5 : (am_kd k).1 = 4 + ((am_kd k).1 - 4) := by omega
    rw [am_ce_obj q5] at h ⊢
    have e2 : (List.range (am_kd k).2).map (fun j => am_tr b0 adK (g' k j)) = (List.range (am_kd k).2).map (fun j => am_tr b0 adK (g k j)) := by
      apply List.map_congr_left
      intro j hj
      rw [ek j (List.mem_range.mp hj)]
    rw [e2]
    exact h
theorem iv_fin {n : Nat} {P : Int → Prop} (h : ∀ k : Fin n, P (k.val : Int)) : ∀ k : Int, 0 ≤ k → k < (n : Int) → P k := by
  intro k k0 k1
  obtain ⟨m, rfl⟩ := Int.eq_ofNat_of_zero_le k0
  exact h ⟨m, by omega⟩
theorem iv_8 : ct_h0 109 8 = 0 := by decide +kernel
theorem iv_R : RS1 ct_h0 (ct_h0 109) := by
  refine ⟨⟨by decide +kernel, iv_fin (n := 8) (by decide +kernel), iv_fin (n := 12) (by decide +kernel), iv_fin (n := 12) (by decide +kernel), fun s s0 s1 => ?_⟩, ⟨by decide +kernel, by decide +kernel, by decide +kernel, by decide +kernel⟩, by decide +kernel, by decide +kernel, by decide +kernel, by decide +kernel, by decide +kernel, iv_fin (n := 10) (by decide +kernel), by decide +kernel⟩
  rw [iv_8] at s1
  omega
theorem iv_T : okT (ct_h0 109) := by
  refine ⟨by decide +kernel, iv_fin (n := 8) (by decide +kernel), iv_fin (n := 12) (by decide +kernel), iv_fin (n := 12) (by decide +kernel), fun s s0 s1 => ?_⟩
  rw [iv_8] at s1
  omega
theorem iv_S : okS (ct_h0 109) := ⟨by decide +kernel, by decide +kernel, by decide +kernel, by decide +kernel, by decide +kernel, iv_fin (n := 10) (by decide +kernel)⟩
theorem iv_76 : ct_h0 76 1 = 0 := by decide +kernel
theorem iv_02 : ct_h0 0 2 = 0 := by decide +kernel
theorem iv_120 : ∀ s : Fin 4, ct_h0 120 (s.val : Int) = 0 := by decide +kernel
theorem iv_sh : ∀ s : Int, 0 ≤ s → s < 4 → shI ct_h0 s := by
  intro s s0 s1
  obtain ⟨n, rfl⟩ := Int.eq_ofNat_of_zero_le s0
  have h0 := iv_120 ⟨n, by omega⟩
  simp only at h0
  have h1 := (by decide +kernel : ∀ s : Fin 4, ct_h0 (100 + 2 * (s.val : Int)) 0 = ct_h0 119 (s.val : Int) ∧ ct_h0 119 (s.val : Int) = 0 ∧ ct_h0 (100 + 2 * (s.val : Int)) 1 = ct_h0 120 (s.val : Int))
  obtain ⟨a1, a2, a3⟩ := h1 ⟨n, by omega⟩
  simp only at a1 a2 a3
  refine ⟨a1, Or.inl a2, a3, by rw [h0]; decide, fun i i0 i1 => ?_⟩
  rw [h0] at i1
  omega
theorem iv_0 : Inv ct_h0 := by
  refine ⟨⟨iv_R, iv_T, iv_S, by decide +kernel⟩, ⟨by decide +kernel, by decide +kernel, fun q => ?_⟩, iv_fin (n := 7) (by decide +kernel), by decide +kernel, ⟨by decide +kernel, by decide +kernel, fun i i0 i1 => ?_⟩, iv_sh, by decide +kernel⟩
  · rw [iv_02] at q
    exact absurd q (by decide)
  · rw [iv_76] at i1
    omega
