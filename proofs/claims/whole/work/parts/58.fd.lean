/-! findings told by both, and calls that change nothing that counts -/
/-- what the reference's finding leaves -/
def FD (w : Int) (h e : hT) : Prop := (∀ b, b ≠ 112 → e b = h b) ∧ e 112 = ur (ur (h 112) (-1000000 - w) (h 112 (-1000000 - w) + 1)) 0 (h 112 0 + 1)
/-- what the class's call leaves for the reference's -/
abbrev SKn (D : Nat) (y' : am_MI) (as : List Value) : Int → hT → Prop := fun r h1 => ClI D y' as h1 (fun r2 h2 => r2 = r ∧ Inv h2)
theorem fd_end {h e : hT} {k w : Int} (hI : Inv h) (hk : 0 ≤ k ∧ k ≤ 6) (hw : w = -1000001 - k) (hf : FD w (up h 99 k (h 99 k + 1)) e) : w = -1000001 - k ∧ Inv e :=
  ⟨hw, find2 (k := k) hI hk (by omega) (fun a q1 q2 => up_ne q2) (up_row _ _ _ _) (fun j _ => by rw [up_ne (by decide)]) hf.1 hf.2⟩
section FD
variable {d : Nat} {h : hT} {K : Int → hT → Prop}
theorem r_fnd {w : Int} (hw : w = -1000001 ∨ w = -1000002 ∨ w = -1000003 ∨ w = -1000004 ∨ w = -1000005 ∨ w = -1000006 ∨ w = -1000007) (k : ∀ e, FD w h e → K w e) : ClI (d + 1) mX8_finding [vr 108, vi w] h K := m_finding hw (fun e e0 e1 => k e ⟨e0, e1⟩)
end FD
theorem Inv_109 {h : hT} (hI : Inv h) : okT (h 109) ∧ okS (h 109) ∧ h 109 50 ≤ 999 ∧ h 108 5 = -1 := by
  obtain ⟨⟨i1, i2, i3, i3'⟩, -, -, -, -, -, i11⟩ := hI
  exact ⟨i2, i3, i3', i11⟩
/-- the reference's row and the street thought away, as a heap behind the class's call has them -/
def RB (h : hT) (N : Int → Int) : Prop := h 109 = N ∧ h 108 5 = -1
theorem rb_0 {h : hT} (hI : Inv h) : RB h (h 109) := ⟨rfl, (Inv_109 hI).2.2.2⟩
theorem rb_u {h : hT} {a k z : Int} (hI : Inv h) (q1 : 109 ≠ a) (q2 : 108 ≠ a) : RB (up h a k z) (h 109) := ⟨up_ne q1, by rw [up_ne q2]; exact (Inv_109 hI).2.2.2⟩
