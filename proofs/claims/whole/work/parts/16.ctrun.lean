set_option maxRecDepth 100000 in
theorem ct_3 : (match ct_ex 1000 5 7 [.ref 0] (1, am_new ct_g0 0) with
  | some (none, hp1) => hp1.1 == 108 && ct_chk 0 123 (ct_ex 1000 5 8 [.ref 108] (109, am_new hp1.2 108))
  | _ => false) = true := by decide +kernel
theorem ct_mi_1 {c : Nat} (h : c < 9) : (ct_mi c).1 = c ∧ (ct_mi c).2.1.name = "<init>" ∧ (ct_mi c).2.2.2.2 = none := by
  match c, h with
  | 0, _ => exact ⟨rfl, rfl, rfl⟩
  | 1, _ => exact ⟨rfl, rfl, rfl⟩
  | 2, _ => exact ⟨rfl, rfl, rfl⟩
  | 3, _ => exact ⟨rfl, rfl, rfl⟩
  | 4, _ => exact ⟨rfl, rfl, rfl⟩
  | 5, _ => exact ⟨rfl, rfl, rfl⟩
  | 6, _ => exact ⟨rfl, rfl, rfl⟩
  | 7, _ => exact ⟨rfl, rfl, rfl⟩
  | 8, _ => exact ⟨rfl, rfl, rfl⟩
  | c + 9, h => exact absurd h (by omega)
/-- the tables name one constructor a class -/
def ct_I_t (e : am_ME) : Bool := !(decide (e.2.2.1.1 < 9) && decide (e.2.2.1.2.1.name = "<init>")) || (decide (e.2.2.1.2.1 = (ct_mi e.2.2.1.1).2.1) && (decide (e.2.2.1.2.2.1 = (ct_mi e.2.2.1.1).2.2.1) && (decide (e.2.2.1.2.2.2.1 = (ct_mi e.2.2.1.1).2.2.2.1) && decide (e.2.2.1.2.2.2.2 = (ct_mi e.2.2.1.1).2.2.2.2))))
theorem ct_I_c0 : am_M_0.all ct_I_t = true := by decide +kernel
theorem ct_I_c1 : am_M_1.all ct_I_t = true := by decide +kernel
theorem ct_I_c2 : am_M_2.all ct_I_t = true := by decide +kernel
theorem ct_I_c3 : am_M_3.all ct_I_t = true := by decide +kernel
theorem ct_I_c4 : am_M_4.all ct_I_t = true := by decide +kernel
theorem ct_I_c5 : am_M_5.all ct_I_t = true := by decide +kernel
theorem ct_I_c6 : am_M_6.all ct_I_t = true := by decide +kernel
theorem ct_I_c7 : am_M_7.all ct_I_t = true := by decide +kernel
theorem ct_I_c8 : am_M_8.all ct_I_t = true := by decide +kernel
theorem ct_I_c9 : am_M_9.all ct_I_t = true := by decide +kernel
theorem ct_I_all (own : Nat) : (am_M own).all ct_I_t = true := by
  match own with
  | 0 => exact ct_I_c0
  | 1 => exact ct_I_c1
  | 2 => exact ct_I_c2
  | 3 => exact ct_I_c3
  | 4 => exact ct_I_c4
  | 5 => exact ct_I_c5
  | 6 => exact ct_I_c6
  | 7 => exact ct_I_c7
  | 8 => exact ct_I_c8
  | 9 => exact ct_I_c9
  | k + 10 => rfl
theorem ct_I_ok {own idx n md : Nat} {y : am_MI} (h : am_lkM own idx = some (y, n, md)) (h9 : y.1 < 9) (hi : y.2.1.name = "<init>") : y = ct_mi y.1 := by
  unfold am_lkM at h
  rw [Option.map_eq_some_iff] at h
  obtain ⟨e, h1, h2⟩ := h
  have h4 := List.all_eq_true.mp (ct_I_all own) e (List.mem_of_find?_eq_some h1)
  obtain ⟨e1, e2, e3, e4, e5, e6⟩ := e
  cases h2
  simp only [ct_I_t, Bool.or_eq_true, Bool.not_eq_true', Bool.and_eq_true, Bool.and_eq_false_iff, decide_eq_false_iff_not, decide_eq_true_eq] at h4
  rcases h4 with (h4 | h4) | ⟨a1, a2, a3, a4⟩
  · exact absurd h9 h4
  · exact absurd hi h4
  · have a0 := (ct_mi_1 h9).1
    exact Prod.ext a0.symm (Prod.ext a1 (Prod.ext a2 (Prod.ext a3 a4)))
theorem ct_inv_ok {own : Nat} {i : Instr} {st as rest : List Value} {hp : am_H} {y' : am_MI} (h : am_inv own i st hp = some (y', as, rest)) (h9 : y'.1 < 9) (hi : y'.2.1.name = "<init>") : y' = ct_mi y'.1 ∧ ∀ v ∈ as, v.category = 1 → True := by
  refine ⟨?_, fun _ _ _ => trivial⟩
  have key : ∀ idx n md, am_lkM own idx = some (y', n, md) → y' = ct_mi y'.1 := fun idx n md hl => ct_I_ok hl h9 hi
  cases i with
  | invokestatic idx =>
    simp only [am_inv] at h
    split at h
    · rename_i hl
      split at h
      · cases h
        exact key _ _ _ hl
      · cases h
    · cases h
  | invokevirtual idx =>
    simp only [am_inv] at h
    split at h
    · rename_i hl
      split at h
      · split at h
        · cases h
          exact key _ _ _ hl
        · cases h
      · cases h
    · cases h
  | invokespecial idx =>
    simp only [am_inv] at h
    split at h
    · rename_i hl
      split at h
      · split at h
        · cases h
          exact key _ _ _ hl
        · cases h
      · cases h
    · cases h
  | _ => cases h
theorem ct_run_ok {E : Nat → List Value → am_H → Option (Option Value × am_H)} {E' : am_E} (hE : ∀ c as hp z, c < 9 → E c as hp = some z → E' (ct_mi c) as hp = some z) {c : Nat} (hc : c < 9) : ∀ (n pc : Nat) (al st : List Value) (hp : am_H) (z : Option Value × am_H), ct_run n E c pc al st hp = some z → am_run n E' (ct_mi c) pc al st hp = some z := by
  obtain ⟨m1, m2, m3⟩ := ct_mi_1 hc
  intro n
  induction n with
  | zero => intro pc al st hp z h; cases h
  | succ n ih =>
    intro pc al st hp z h
    rw [ct_run] at h
    split at h
    · cases h
    · rename_i i len hcd
      have hd := ct_cd_ok hc hcd
      rw [am_run, hd]
      simp only
      split at h
      · cases h
      · rename_i hk
        rw [if_neg hk, m3, m1, m2]
        split at h
        · rename_i r hf
          rw [hf]
          exact h
        · rename_i hf
          rw [hf]
          simp only
          split at h
          · rename_i y' as rest hi
            rw [hi]
            simp only
            split at h
            · rename_i hy
              have e := (ct_inv_ok hi hy.1 hy.2).1
              split at h
              · rename_i r hp' he
                have he2 := hE _ _ _ _ hy.1 he
                rw [← e] at he2
                rw [he2]
                exact ih _ _ _ _ _ h
              · cases h
            · cases h
          · rename_i hi
            rw [hi]
            simp only
            split at h
            · rename_i hs
              rw [show (("<init>" : String) == "<init>") = true from rfl, hs]
              exact ih _ _ _ _ _ h
            · cases h
theorem ct_ex_ok {f : Nat} : ∀ (d c : Nat) (as : List Value) (hp : am_H) (z : Option Value × am_H), c < 9 → ct_ex f d c as hp = some z → am_ex f d (ct_mi c) as hp = some z := by
  intro d
  induction d with
  | zero => intro c as hp z _ h; cases h
  | succ d ih =>
    intro c as hp z hc h
    rw [ct_ex] at h
    rw [am_ex]
    simp only at h ⊢
    split at h
    · rename_i hl
      rw [if_pos hl]
      exact ct_run_ok ih hc _ _ _ _ _ _ h
    · cases h
/-- both constructors, one behind the other -/
theorem ct_both : ∃ hp1 hp2 : am_H, am_ex 1000 5 mX7_init [.ref 0] (1, am_new ct_g0 0) = some (none, hp1) ∧ hp1.1 = 108 ∧ am_ex 1000 5 mX8_init [.ref 108] (109, am_new hp1.2 108) = some (none, hp2) ∧ hp2.1 = 123 ∧ ∀ a, a < 123 → ∀ k, k < (am_kd a).2 → hp2.2 a k = sh_e ct_h0 a k := by
  have h := ct_3
  split at h
  · rename_i hp1 h1
    rw [Bool.and_eq_true, beq_iff_eq] at h
    obtain ⟨h2, h3⟩ := h
    unfold ct_chk at h3
    split at h3
    · rename_i n g h4
      simp only [Bool.and_eq_true, beq_iff_eq, List.all_eq_true, List.mem_range, Bool.or_eq_true, decide_eq_true_eq] at h3
      refine ⟨hp1, (n, g), ct_ex_ok 5 7 _ _ _ (by decide) h1, h2, ct_ex_ok 5 8 _ _ _ (by decide) h4, h3.1, fun a ha k hk => ?_⟩
      rcases h3.2 a ha with q | q
      · exact absurd q (Nat.not_lt_zero a)
      · exact q k hk
    · cases h3
  · cases h
