/-! what a town's row tells: kinds, minutes, losses -/
theorem up_s (h : hT) (a k z : Int) : up h a k z a k = z := by simp [up]
theorem up_o {h : hT} {a k z a' k' : Int} (q : a' ≠ a) : up h a k z a' k' = h a' k' := by simp [up, q]
theorem up_k {h : hT} {a k z a' k' : Int} (q : k' ≠ k) : up h a k z a' k' = h a' k' := by simp [up, q]
def takesK (k l : Int) : Int := if k = 4 then l + l / 2 else if k = 5 ∨ k = 6 then l + 2 else l
def licksK (k : Int) : Int := if k = 6 then 5 else if k = 5 then 2 else 0
def meltK (k s : Int) : Int := if k = 3 then 0 else if k = 1 then s else if k = 2 ∨ k = 4 then max 0 (2 * s - 3) else 2 * s
def wetK (k r : Int) : Int := if k = 3 then 0 else if k = 2 ∨ k = 4 then 5 * r + r else 5 * r
def lossK (k u s r salt : Int) : Int := if salt = 1 then meltK k s / 2 + 2 * (if u = 1 then 0 else wetK k r) else meltK k s + (if u = 1 then 0 else wetK k r) + licksK k
def takesF (N : Int → Int) (s : Int) : Int := takesK (N (53 + 5 * s + 0)) (N (53 + 5 * s + 3))
def lossF (N : Int → Int) (salt s i : Int) : Int := lossK (N (53 + 5 * s + 0)) (N (53 + 5 * s + 4)) (N (20 + i)) (N (32 + i)) salt
def spellF (m : Int) : Int := min (m / 20) 11
/-- the sum of f over so many minutes from m on -/
def sumM (f : Int → Int) (m : Int) : Nat → Int
  | 0 => 0
  | n + 1 => f (spellF m) + sumM f (m + 1) n
/-- the first place from k on, among so many, where p holds; -1: none -/
def fsM (p : Int → Bool) (k : Int) : Nat → Int
  | 0 => -1
  | n + 1 => if p k = true then k else fsM p (k + 1) n
def endsP (N : Int → Int) (w a b : Int) : Int → Bool := fun s => decide (N (53 + 5 * s + 1) = min a b ∧ N (53 + 5 * s + 2) = max a b ∧ s ≠ w)
/-- the street from a to b, w thought away -/
def byF (N : Int → Int) (w a b : Int) : Int := fsM (endsP N w a b) 0 (N 8).toNat
def okT (N : Int → Int) : Prop := (0 ≤ N 8 ∧ N 8 ≤ 14) ∧ (∀ c, 0 ≤ c → c < 8 → 0 ≤ N c ∧ N c ≤ 3) ∧ (∀ i, 0 ≤ i → i < 12 → 0 ≤ N (20 + i) ∧ N (20 + i) ≤ 9) ∧ (∀ i, 0 ≤ i → i < 12 → 0 ≤ N (32 + i) ∧ N (32 + i) ≤ 9) ∧
  ∀ s, 0 ≤ s → s < N 8 → (0 ≤ N (53 + 5 * s + 0) ∧ N (53 + 5 * s + 0) ≤ 6) ∧ (0 ≤ N (53 + 5 * s + 1) ∧ N (53 + 5 * s + 1) < N (53 + 5 * s + 2) ∧ N (53 + 5 * s + 2) ≤ 7) ∧ (1 ≤ N (53 + 5 * s + 3) ∧ N (53 + 5 * s + 3) ≤ 20) ∧ (0 ≤ N (53 + 5 * s + 4) ∧ N (53 + 5 * s + 4) ≤ 1)
/-- the class's town at T tells what the row N tells -/
def RT (h : hT) (T : Int) (N : Int → Int) : Prop := h T 1 = N 8 ∧ (∀ c, 0 ≤ c → c < 8 → h (T + 2) c = N c) ∧ (∀ i, 0 ≤ i → i < 12 → h (T + 3) i = N (20 + i)) ∧ (∀ i, 0 ≤ i → i < 12 → h (T + 4) i = N (32 + i)) ∧
  ∀ s, 0 ≤ s → s < N 8 → h (T + 6 + s) 0 = N (53 + 5 * s + 0) ∧ min (h (T + 6 + s) 1) (h (T + 6 + s) 2) = N (53 + 5 * s + 1) ∧ max (h (T + 6 + s) 1) (h (T + 6 + s) 2) = N (53 + 5 * s + 2) ∧ h (T + 6 + s) 3 = N (53 + 5 * s + 3) ∧ h (T + 6 + s) 4 = N (53 + 5 * s + 4)
theorem takesK_b {k l : Int} (hl : 1 ≤ l ∧ l ≤ 20) : 1 ≤ takesK k l ∧ takesK k l ≤ 30 := by
  unfold takesK
  split
  · omega
  · split <;> omega
theorem meltK_b {k s : Int} (hs : 0 ≤ s ∧ s ≤ 9) : 0 ≤ meltK k s ∧ meltK k s ≤ 18 := by
  unfold meltK
  split
  · omega
  · split
    · omega
    · split <;> omega
theorem wetK_b {k s : Int} (hs : 0 ≤ s ∧ s ≤ 9) : 0 ≤ wetK k s ∧ wetK k s ≤ 54 := by
  unfold wetK
  split
  · omega
  · split <;> omega
theorem licksK_b (k : Int) : 0 ≤ licksK k ∧ licksK k ≤ 5 := by
  unfold licksK
  split
  · omega
  · split <;> omega
theorem lossK_b {k u s r salt : Int} (hs : 0 ≤ s ∧ s ≤ 9) (hr : 0 ≤ r ∧ r ≤ 9) : 0 ≤ lossK k u s r salt ∧ lossK k u s r salt ≤ 117 := by
  have h1 := meltK_b (k := k) hs
  have h2 := wetK_b (k := k) hr
  have h3 := licksK_b k
  unfold lossK
  split <;> split <;> omega
theorem sumM_b {f : Int → Int} {B : Int} (hf : ∀ i, 0 ≤ i → i < 12 → 0 ≤ f i ∧ f i ≤ B) : ∀ (n : Nat) (m : Int), 0 ≤ m → 0 ≤ sumM f m n ∧ sumM f m n ≤ B * n := by
  intro n
  induction n with
  | zero => intro m _; simp [sumM]
  | succ n ih =>
    intro m hm
    have h1 := hf (spellF m) (by unfold spellF; omega) (by unfold spellF; omega)
    have h2 := ih (m + 1) (by omega)
    rw [sumM]
    have e : B * ((n + 1 : Nat) : Int) = B * n + B := by
      rw [show ((n + 1 : Nat) : Int) = (n : Int) + 1 by omega, Int.mul_add, Int.mul_one]
    rw [e]
    omega
theorem sumM_cong {f g : Int → Int} (hf : ∀ i, 0 ≤ i → i < 12 → f i = g i) : ∀ (n : Nat) (m : Int), 0 ≤ m → sumM f m n = sumM g m n := by
  intro n
  induction n with
  | zero => intro m _; rfl
  | succ n ih =>
    intro m hm
    rw [sumM, sumM, ih (m + 1) (by omega), hf _ (by unfold spellF; omega) (by unfold spellF; omega)]
theorem sumM_add (f : Int → Int) : ∀ (a b : Nat) (m : Int), sumM f m (a + b) = sumM f m a + sumM f (m + a) b := by
  intro a
  induction a with
  | zero => intro b m; simp [sumM]
  | succ a ih =>
    intro b m
    rw [show a + 1 + b = (a + b) + 1 by omega, sumM, sumM, ih b (m + 1), show m + 1 + (a : Int) = m + ((a + 1 : Nat) : Int) by omega]
    omega
/-- minutes of one spell -/
theorem sumM_same {f : Int → Int} {x : Int} : ∀ (n : Nat) (m : Int), (∀ j, m ≤ j → j < m + n → spellF j = x) → sumM f m n = n * f x := by
  intro n
  induction n with
  | zero => intro m _; simp [sumM]
  | succ n ih =>
    intro m h
    rw [sumM, ih (m + 1) (fun j h1 h2 => h j (by omega) (by omega)), h m (by omega) (by omega)]
    rw [show ((n + 1 : Nat) : Int) = (n : Int) + 1 by omega, Int.add_mul, Int.one_mul]
    omega
theorem fsM_b (p : Int → Bool) : ∀ (n : Nat) (k : Int), 0 ≤ k → fsM p k n = -1 ∨ (k ≤ fsM p k n ∧ fsM p k n < k + n ∧ p (fsM p k n) = true) := by
  intro n
  induction n with
  | zero => intro k _; exact Or.inl rfl
  | succ n ih =>
    intro k hk
    rw [fsM]
    split
    · exact Or.inr ⟨by omega, by omega, by assumption⟩
    · rcases ih (k + 1) (by omega) with h | h
      · exact Or.inl h
      · exact Or.inr ⟨by omega, by omega, h.2.2⟩
theorem fsM_cong {p q : Int → Bool} : ∀ (n : Nat) (k : Int), (∀ j, k ≤ j → j < k + n → p j = q j) → fsM p k n = fsM q k n := by
  intro n
  induction n with
  | zero => intro k _; rfl
  | succ n ih =>
    intro k h
    rw [fsM, fsM, h k (by omega) (by omega), ih (k + 1) (fun j h1 h2 => h j (by omega) (by omega))]
theorem byF_b {N : Int → Int} {w a b : Int} : byF N w a b = -1 ∨ (0 ≤ byF N w a b ∧ byF N w a b < N 8 ∧ N (53 + 5 * byF N w a b + 1) = min a b ∧ N (53 + 5 * byF N w a b + 2) = max a b) := by
  rcases fsM_b (endsP N w a b) (N 8).toNat 0 (by omega) with h | ⟨h1, h2, h3⟩
  · exact Or.inl h
  · refine Or.inr ⟨h1, ?_, ?_⟩
    · unfold byF; omega
    · have h4 := of_decide_eq_true h3
      exact ⟨h4.1, h4.2.1⟩
