/-! the small machine over a heap of whole numbers: cells and places by Int; what is a reference is fixed -/
abbrev hT : Type := Int → Int → Int
def vi (z : Int) : Value := .int (Int32.ofInt z)
def vr (a : Int) : Value := .ref a.toNat
def vs (t : Int) : Value := .ref (1000000 + t.toNat)
def sh_e (h : hT) : Nat → Nat → Value := fun a k => match am_sk a k with
  | some r => .ref r
  | none => .int (Int32.ofInt (h (a : Int) (k : Int)))
abbrev sh_H (h : hT) : am_H := (123, sh_e h)
theorem am_run_mono {E E' : am_E} {y : am_MI} (hE : ∀ y' as hp z, E y' as hp = some z → E' y' as hp = some z) : ∀ (n n' pc : Nat) (al st : List Value) (hp : am_H) (z : Option Value × am_H), n ≤ n' → am_run n E y pc al st hp = some z → am_run n' E' y pc al st hp = some z := by
  intro n
  induction n with
  | zero => intro n' pc al st hp z _ h; cases h
  | succ n ih =>
    intro n' pc al st hp z hn h
    obtain ⟨n', rfl⟩ : ∃ k, n' = k + 1 := ⟨n' - 1, by omega⟩
    rw [am_run] at h ⊢
    cases hd : decode y.2.2.1 pc with
    | error x => rw [hd] at h; cases h
    | ok q =>
      obtain ⟨i, len⟩ := q
      rw [hd] at h
      simp only at h ⊢
      split
      · rename_i hk
        rw [if_pos hk] at h
        cases h
      · rename_i hk
        rw [if_neg hk] at h
        cases hf : am_fin y.2.2.2.2 i st with
        | some r =>
          rw [hf] at h
          exact h
        | none =>
          rw [hf] at h
          simp only at h ⊢
          cases hi : am_inv y.1 i st hp with
          | some q =>
            obtain ⟨y', as, rest⟩ := q
            rw [hi] at h
            simp only at h ⊢
            cases he : E y' as hp with
            | none => rw [he] at h; cases h
            | some w =>
              obtain ⟨r, hp'⟩ := w
              rw [he] at h
              rw [hE _ _ _ _ he]
              simp only at h ⊢
              exact ih n' _ _ _ _ _ (by omega) h
          | none =>
            rw [hi] at h
            simp only at h ⊢
            cases hs : am_stp y.1 (y.2.1.name == "<init>") i pc al st hp with
            | none => rw [hs] at h; cases h
            | some w =>
              obtain ⟨pc', al', st', hp'⟩ := w
              rw [hs] at h
              simp only at h ⊢
              exact ih n' _ _ _ _ _ (by omega) h
theorem am_ex_mono {f f' : Nat} (hf : f ≤ f') : ∀ (d : Nat) (y : am_MI) (as : List Value) (hp : am_H) (z : Option Value × am_H), am_ex f d y as hp = some z → am_ex f' d y as hp = some z := by
  intro d
  induction d with
  | zero => intro y as hp z h; cases h
  | succ d ih =>
    intro y as hp z h
    rw [am_ex] at h ⊢
    simp only at h ⊢
    split
    · rename_i hc
      rw [if_pos hc] at h
      exact am_run_mono ih f f' 0 _ _ _ _ hf h
    · rename_i hc
      rw [if_neg hc] at h
      cases h
/-- a method, called at the heap h -/
def Cl (d : Nat) (y : am_MI) (as : List Value) (h : hT) (Q : Option Value → hT → Prop) : Prop := ∃ f r h', am_ex f d y as (sh_H h) = some (r, sh_H h') ∧ Q r h'
/-- a frame of a method, at pc -/
def Yr (d : Nat) (y : am_MI) (pc : Nat) (al st : List Value) (h : hT) (Q : Option Value → hT → Prop) : Prop := ∃ f n r h', am_run n (am_ex f d) y pc al st (sh_H h) = some (r, sh_H h') ∧ Q r h'
def rI (K : Int → hT → Prop) : Option Value → hT → Prop := fun r h => ∃ z, r = some (vi z) ∧ K z h
def rV (K : hT → Prop) : Option Value → hT → Prop := fun r h => r = none ∧ K h
def rS (K : Int → hT → Prop) : Option Value → hT → Prop := fun r h => ∃ t, r = some (vs t) ∧ K t h
def ClI (d : Nat) (y : am_MI) (as : List Value) (h : hT) (K : Int → hT → Prop) : Prop := Cl d y as h (rI K)
def ClV (d : Nat) (y : am_MI) (as : List Value) (h : hT) (K : hT → Prop) : Prop := Cl d y as h (rV K)
def ClS (d : Nat) (y : am_MI) (as : List Value) (h : hT) (K : Int → hT → Prop) : Prop := Cl d y as h (rS K)
theorem cl_in {d : Nat} {y : am_MI} {as al : List Value} {h : hT} {Q : Option Value → hT → Prop} (hal : as ++ List.replicate (y.2.2.2.1 - as.length) .null = al) (hl : as.length ≤ y.2.2.2.1) (hc : ∀ v ∈ as, v.category = 1) (k : Yr d y 0 al [] h Q) : Cl (d + 1) y as h Q := by
  obtain ⟨f, n, r, h', h1, h2⟩ := k
  refine ⟨max f n, r, h', ?_, h2⟩
  rw [am_ex]
  simp only
  rw [if_pos ⟨hl, hc⟩, hal]
  exact am_run_mono (am_ex_mono (Nat.le_max_left f n) d) n _ 0 _ _ _ _ (Nat.le_max_right f n) h1
theorem yr_stp {d : Nat} {y : am_MI} {pc pc' len : Nat} {al al' st st' : List Value} {h h' : hT} {Q : Option Value → hT → Prop} {i : Instr} (hd : decode y.2.2.1 pc = .ok (i, len)) (hok : am_ok i len = true) (hf : am_fin y.2.2.2.2 i st = none) (hi : am_inv y.1 i st (sh_H h) = none)
    (hs : am_stp y.1 (y.2.1.name == "<init>") i pc al st (sh_H h) = some (pc', al', st', sh_H h')) (k : Yr d y pc' al' st' h' Q) : Yr d y pc al st h Q := by
  obtain ⟨f, n, r, h2, h1, hq⟩ := k
  refine ⟨f, n + 1, r, h2, ?_, hq⟩
  rw [am_run, hd]
  simp only
  rw [if_neg (by rw [hok]; decide), hf]
  simp only
  rw [hi]
  simp only
  rw [hs]
  exact h1
theorem yr_fin {d : Nat} {y : am_MI} {pc len : Nat} {al st : List Value} {h : hT} {Q : Option Value → hT → Prop} {i : Instr} {r : Option Value} (hd : decode y.2.2.1 pc = .ok (i, len)) (hok : am_ok i len = true) (hf : am_fin y.2.2.2.2 i st = some r) (k : Q r h) : Yr d y pc al st h Q := by
  refine ⟨0, 1, r, h, ?_, k⟩
  rw [am_run, hd]
  simp only
  rw [if_neg (by rw [hok]; decide), hf]
theorem yr_inv {d : Nat} {y y' : am_MI} {pc len : Nat} {al st as rest : List Value} {h : hT} {Q : Option Value → hT → Prop} {i : Instr} (hd : decode y.2.2.1 pc = .ok (i, len)) (hok : am_ok i len = true) (hf : am_fin y.2.2.2.2 i st = none) (hi : am_inv y.1 i st (sh_H h) = some (y', as, rest))
    (k : Cl d y' as h (fun r h' => Yr d y (pc + 3) al (r.toList ++ rest) h' Q)) : Yr d y pc al st h Q := by
  obtain ⟨f1, r1, h1, e1, f2, n, r, h2, e2, hq⟩ := k
  refine ⟨max f1 f2, n + 1, r, h2, ?_, hq⟩
  rw [am_run, hd]
  simp only
  rw [if_neg (by rw [hok]; decide), hf]
  simp only
  rw [hi]
  simp only
  rw [am_ex_mono (Nat.le_max_left f1 f2) _ _ _ _ _ e1]
  exact am_run_mono (am_ex_mono (Nat.le_max_right f1 f2) d) n n _ _ _ _ _ (Nat.le_refl _) e2
/-! numbers -/
theorem z_of {a : Int} (ha : -2147483648 ≤ a ∧ a ≤ 2147483647) : (Int32.ofInt a).toInt = a := Int32.toInt_ofInt_of_le (by omega) (by omega)
theorem z_eq {a b : Int} (ha : -2147483648 ≤ a ∧ a ≤ 2147483647) (hb : -2147483648 ≤ b ∧ b ≤ 2147483647) : Int32.ofInt a = Int32.ofInt b ↔ a = b := by
  rw [← Int32.toInt_inj, z_of ha, z_of hb]
theorem z_lt {a b : Int} (ha : -2147483648 ≤ a ∧ a ≤ 2147483647) (hb : -2147483648 ≤ b ∧ b ≤ 2147483647) : Int32.ofInt a < Int32.ofInt b ↔ a < b := by
  rw [Int32.lt_iff_toInt_lt, z_of ha, z_of hb]
theorem z_le {a b : Int} (ha : -2147483648 ≤ a ∧ a ≤ 2147483647) (hb : -2147483648 ≤ b ∧ b ≤ 2147483647) : Int32.ofInt a ≤ Int32.ofInt b ↔ a ≤ b := by
  rw [Int32.le_iff_toInt_le, z_of ha, z_of hb]
theorem z_cl {a : Int} (ha : -2147483648 ≤ a ∧ a ≤ 2147483647) : (Int32.ofInt a).toNatClampNeg = a.toNat := by
  rw [Int32.toNatClampNeg, z_of ha]
theorem z_in {i : Int} {n : Nat} (hi : 0 ≤ i ∧ i < (n : Int)) (hn : n ≤ 100000) : am_in (Int32.ofInt i) n = true := by
  rw [am_in_iff]
  intro h
  rcases h with h | h
  · rw [show (0 : Int32) = Int32.ofInt 0 from rfl, z_lt (by omega) (by omega)] at h
    omega
  · rw [z_cl (by omega)] at h
    omega
/-- bits, as the machine has them -/
def ia (a b : Int) : Int := (Int32.ofInt a &&& Int32.ofInt b).toInt
def io (a b : Int) : Int := (Int32.ofInt a ||| Int32.ofInt b).toInt
def ix (a b : Int) : Int := (Int32.ofInt a ^^^ Int32.ofInt b).toInt
def il (a b : Int) : Int := (Int32.ofInt a <<< (Int32.ofInt b &&& 31)).toInt
def ir (a b : Int) : Int := (Int32.ofInt a >>> (Int32.ofInt b &&& 31)).toInt
def iu (a b : Int) : Int := ((Int32.ofInt a).toUInt32 >>> ((Int32.ofInt b).toUInt32 &&& Int32.toUInt32 31)).toInt32.toInt
def ib (a : Int) : Int := (Int32.ofInt a).toInt8.toInt32.toInt
def ih (a : Int) : Int := (Int32.ofInt a).toInt16.toInt32.toInt
def vl (z : Int) : Value := .long (Int64.ofInt z)
def up (h : hT) (a k z : Int) : hT := fun a' k' => if a' = a ∧ k' = k then z else h a' k'
theorem vi_of (x : Int32) : Value.int x = vi x.toInt := by rw [vi, Int32.ofInt_toInt]
theorem vi_cat (z : Int) : (vi z).category = 1 := rfl
theorem vr_cat (z : Int) : (vr z).category = 1 := rfl
theorem vs_cat (z : Int) : (vs z).category = 1 := rfl
/-- cells -/
abbrev is_c (c : Nat) (a : Int) : Prop := 0 ≤ a ∧ a.toNat < 123 ∧ (am_kd a.toNat).1 = 4 + c
def am_isI (c k : Nat) : Bool := match am_ty c k with
  | .int => true
  | _ => false
def am_isZ (c k : Nat) : Bool := match am_ty c k with
  | .boolean => true
  | _ => false
theorem sk_int0 : ∀ a : Fin 123, ∀ k : Fin 31, (am_isI ((am_kd a.val).1 - 4) k.val || am_isZ ((am_kd a.val).1 - 4) k.val) = true → 4 ≤ (am_kd a.val).1 → am_sk a.val k.val = none := by decide +kernel
theorem sk_row0 : ∀ a : Fin 123, (am_kd a.val).1 = 0 → am_rl.getD a.val [] = [] := by decide +kernel
theorem sk_int {c k : Nat} {a : Int} (hc : is_c c a) (hk : k < 31) (h : (am_isI c k || am_isZ c k) = true) : am_sk a.toNat k = none := by
  have e : (am_kd a.toNat).1 - 4 = c := by rw [hc.2.2]; omega
  have := sk_int0 ⟨a.toNat, hc.2.1⟩ ⟨k, hk⟩
  simp only at this
  rw [e] at this
  exact this h (by rw [hc.2.2]; omega)
theorem sk_row {a L : Nat} (h : am_kd a = (0, L)) (k : Nat) : am_sk a k = none := by
  have h1 : a < 123 := am_kd_lt (by rw [h]; exact (by decide : 0 < 99))
  have := sk_row0 ⟨a, h1⟩ (by simp only; rw [h])
  unfold am_sk
  simp only at this
  rw [this]
  rfl
theorem sh_get {h : hT} {a k : Int} (ha : 0 ≤ a) (hk : 0 ≤ k) (hs : am_sk a.toNat k.toNat = none) : sh_e h a.toNat k.toNat = vi (h a k) := by
  unfold sh_e
  rw [hs]
  simp only
  rw [Int.toNat_of_nonneg ha, Int.toNat_of_nonneg hk]
  rfl
theorem sh_up {h : hT} {a k z : Int} (ha : 0 ≤ a) (hk : 0 ≤ k) (hs : am_sk a.toNat k.toNat = none) : (123, am_up (sh_e h) a.toNat k.toNat (vi z)) = sh_H (up h a k z) := by
  unfold sh_H
  congr 1
  funext a' k'
  unfold am_up sh_e up
  by_cases e : a' = a.toNat ∧ k' = k.toNat
  · rw [if_pos e, e.1, e.2, hs]
    simp only
    rw [if_pos ⟨Int.toNat_of_nonneg ha, Int.toNat_of_nonneg hk⟩]
    rfl
  · rw [if_neg e, if_neg]
    intro q
    exact e ⟨by omega, by omega⟩
