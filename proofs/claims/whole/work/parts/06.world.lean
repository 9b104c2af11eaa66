/-! the small machine's heap as a world of the kit -/
def am_adr (b0 : Nat) (adK : Nat → Nat) (a : Nat) : Nat := if a < 1000000 then b0 + a else adK (a - 1000000)
def am_tr (b0 : Nat) (adK : Nat → Nat) (v : Value) : Value := match v with
  | .ref a => .ref (am_adr b0 adK a)
  | v => v
def am_ai (v : Value) : Int32 := match v with
  | .int x => x
  | _ => 0
def am_ar (b0 : Nat) (adK : Nat → Nat) (v : Value) : Option Nat := match v with
  | .ref a => some (am_adr b0 adK a)
  | _ => none
def am_ce (b0 : Nat) (adK : Nat → Nat) (cA : Nat → ClassId) (i : Nat) (row : Nat → Value) : va_E := match (am_kd i).1 with
  | 0 => .inl (cA 0, ((am_kd i).2, .inl (fun j => am_ai (row j))))
  | 1 => .inl (cA 1, ((am_kd i).2, .inr (.inr (.inr (.inr (fun j => am_ar b0 adK (row j)))))))
  | 2 => .inl (cA 2, ((am_kd i).2, .inr (.inr (.inr (.inr (fun j => am_ar b0 adK (row j)))))))
  | 3 => .inl (cA 3, ((am_kd i).2, .inr (.inr (.inr (.inr (fun j => am_ar b0 adK (row j)))))))
  | c + 4 => .inr (c, (List.range (am_kd i).2).map (fun k => am_tr b0 adK (row k)))
def am_ws (b0 : Nat) (adK : Nat → Nat) (cA : Nat → ClassId) (hp : am_H) : va_W := (List.range hp.1).map (fun i => (b0 + i, am_ce b0 adK cA i (hp.2 i)))
def am_sl : Nat → Nat
  | 0 => 0
  | n + 1 => am_sl n + (am_kd n).2
theorem am_sl_mono {a b : Nat} (h : a ≤ b) : am_sl a ≤ am_sl b := by
  induction h with
  | refl => exact Nat.le_refl _
  | step _ ih => exact Nat.le_trans ih (Nat.le_add_right _ _)
theorem am_ws_get {b0 : Nat} {adK : Nat → Nat} {cA : Nat → ClassId} {hp : am_H} {i : Nat} (h : i < hp.1) : (am_ws b0 adK cA hp)[i]? = some (b0 + i, am_ce b0 adK cA i (hp.2 i)) := by
  simp [am_ws, h]
theorem am_ws_lt {b0 : Nat} {adK : Nat → Nat} {cA : Nat → ClassId} {hp : am_H} {i : Nat} {q : Nat × va_E} (h : (am_ws b0 adK cA hp)[i]? = some q) : i < hp.1 ∧ q = (b0 + i, am_ce b0 adK cA i (hp.2 i)) := by
  have hl : i < hp.1 := by
    have := (List.getElem?_eq_some_iff.mp h).1
    simpa [am_ws] using this
  rw [am_ws_get hl] at h
  exact ⟨hl, (Option.some.inj h).symm⟩
theorem am_ws_D (b0 : Nat) (adK : Nat → Nat) (cA : Nat → ClassId) (hp : am_H) : va_D (fun q : Nat => b0 ≤ q) (am_ws b0 adK cA hp) := by
  refine ⟨fun i j p q hi hj e => ?_, fun k q hk => ?_⟩
  · have h1 := (am_ws_lt hi).2
    have h2 := (am_ws_lt hj).2
    rw [h1, h2] at e
    simp only at e
    omega
  · have h1 := (am_ws_lt hk).2
    show b0 ≤ q.1
    rw [h1]
    exact Nat.le_add_right _ _
theorem am_up_row (g : Nat → Nat → Value) (a k : Nat) (v : Value) (i : Nat) : am_up g a k v i = if i = a then (fun k' => if k' = k then v else g a k') else g i := by
  funext k'
  by_cases h : i = a
  · subst h; simp [am_up]
  · simp [am_up, h]
theorem am_ws_set {b0 : Nat} {adK : Nat → Nat} {cA : Nat → ClassId} {n : Nat} {g g' : Nat → Nat → Value} {a : Nat} {x : Nat × va_E} (h : a < n) (hx : x = (b0 + a, am_ce b0 adK cA a (g' a))) (ho : ∀ i, i ≠ a → g' i = g i) : (am_ws b0 adK cA (n, g)).set a x = am_ws b0 adK cA (n, g') := by
  apply List.ext_getElem?
  intro i
  by_cases hi : i < n
  · rw [am_ws_get (hp := (n, g')) hi]
    by_cases e : i = a
    · subst e
      rw [List.getElem?_set_self (by simpa [am_ws] using hi), hx]
    · rw [List.getElem?_set_ne (fun q => e q.symm), am_ws_get (hp := (n, g)) hi]
      simp [ho i e]
  · rw [List.getElem?_eq_none (by simp [am_ws]; omega), List.getElem?_eq_none (by simp [am_ws]; omega)]
theorem am_ws_push {b0 : Nat} {adK : Nat → Nat} {cA : Nat → ClassId} {n : Nat} {g : Nat → Nat → Value} : am_ws b0 adK cA (n + 1, am_new g n) = am_ws b0 adK cA (n, g) ++ [(b0 + n, am_ce b0 adK cA n (am_dv n))] := by
  simp only [am_ws, List.range_succ, List.map_append, List.map_cons, List.map_nil]
  congr 1
  · apply List.map_congr_left
    intro i hi
    have hl : i < n := List.mem_range.mp hi
    have e : am_new g n i = g i := by funext k; simp [am_new, Nat.ne_of_lt hl]
    simp [e]
  · have e : am_new g n n = am_dv n := by funext k; simp [am_new]
    simp [e]
theorem am_tr_cat (b0 : Nat) (adK : Nat → Nat) (v : Value) : (am_tr b0 adK v).category = v.category := by cases v <;> rfl
/-- locals -/
def am_a1 (b0 : Nat) (adK : Nat → Nat) (k : Nat) (v : Option Value) : Option (Nat × Value) := match v with
  | some (.int x) => some (k, .int x)
  | some (.long x) => some (k, .long x)
  | some (.float x) => some (k, .float x)
  | some (.double x) => some (k, .double x)
  | some (.ref x) => some (k, am_tr b0 adK (.ref x))
  | some (.retAddr x) => some (k, .retAddr x)
  | _ => none
def am_as (b0 : Nat) (adK : Nat → Nat) (al : List Value) : List (Nat × Value) := (List.range al.length).filterMap (fun k => am_a1 b0 adK k al[k]?)
def am_LR (b0 : Nat) (adK : Nat → Nat) (ls : Array Slot) (al : List Value) : Prop := ls.size = al.length ∧ lv_wf ls ∧ ∀ (k : Nat) (v : Value), al[k]? = some v → v ≠ .null → v.category = 1 ∧ ls[k]? = some (.val (am_tr b0 adK v))
theorem am_a1_iff {b0 : Nat} {adK : Nat → Nat} {k : Nat} {v : Option Value} {q : Nat × Value} : am_a1 b0 adK k v = some q ↔ ∃ w, v = some w ∧ w ≠ .null ∧ q = (k, am_tr b0 adK w) := by
  cases v with
  | none => simp [am_a1]
  | some w => cases w <;> simp [am_a1, am_tr, eq_comm]
theorem am_as_mem {b0 : Nat} {adK : Nat → Nat} {al : List Value} {q : Nat × Value} : q ∈ am_as b0 adK al ↔ ∃ v, al[q.1]? = some v ∧ v ≠ .null ∧ q.2 = am_tr b0 adK v := by
  unfold am_as
  rw [List.mem_filterMap]
  constructor
  · rintro ⟨k, hk, h⟩
    obtain ⟨w, h1, h2, rfl⟩ := am_a1_iff.mp h
    exact ⟨w, h1, h2, rfl⟩
  · rintro ⟨v, h1, h2, h3⟩
    have hl : q.1 < al.length := (List.getElem?_eq_some_iff.mp h1).1
    exact ⟨q.1, List.mem_range.mpr hl, am_a1_iff.mpr ⟨v, h1, h2, by rw [← h3]⟩⟩
theorem am_LR.has {b0 : Nat} {adK : Nat → Nat} {ls : Array Slot} {al : List Value} (h : am_LR b0 adK ls al) : lv_has ls al.length (am_as b0 adK al) := by
  refine ⟨h.1, h.2.1, fun q hq => ?_⟩
  obtain ⟨v, h1, h2, h3⟩ := am_as_mem.mp hq
  rw [h3]
  exact (h.2.2 q.1 v h1 h2).2
theorem am_LR.set {b0 : Nat} {adK : Nat → Nat} {ls ls' : Array Slot} {al : List Value} {i : Nat} {v : Value} {u : Value} (h : am_LR b0 adK ls al) (hc : v.category = 1) (hu : u = am_tr b0 adK v)
    (h' : lv_has ls' al.length ((i, u) :: (am_as b0 adK al).filter (fun q => !(q.1 == i) && !(q.1 + 1 == i && q.2.category == 2)))) : am_LR b0 adK ls' (al.set i v) := by
  refine ⟨by rw [h'.1, List.length_set], h'.2.1, fun k w hk hw => ?_⟩
  by_cases e : k = i
  · subst e
    have hl : k < al.length := by
      have := (List.getElem?_eq_some_iff.mp hk).1
      simpa using this
    rw [List.getElem?_set_self hl] at hk
    cases hk
    exact ⟨hc, by rw [← hu]; exact h'.2.2 (k, u) List.mem_cons_self⟩
  · rw [List.getElem?_set_ne (fun q => e q.symm)] at hk
    obtain ⟨h1, h2⟩ := h.2.2 k w hk hw
    refine ⟨h1, h'.2.2 (k, am_tr b0 adK w) (List.mem_cons_of_mem _ (List.mem_filter.mpr ⟨am_as_mem.mpr ⟨w, hk, hw, rfl⟩, ?_⟩))⟩
    simp [e, am_tr_cat, h1]
theorem am_in_iff {i : Int32} {n : Nat} : am_in i n = true ↔ vp_in i n := by
  unfold am_in vp_in
  simp
