/-! the tables hold in the claim's words -/
def am_tG : List Cond := lw_tbl.filter goodWord
def am_pt : Nat → List Cond := fun k => match k with
  | 0 => k2_sels lw_privs
  | 1 => tables_1_1
  | 2 => tables_1_2
  | 3 => tables_1_3
  | 4 => tables_1_4
  | 5 => tables_1_5
  | 6 => tables_1_6
  | _ => []
theorem am_pt_in (k : Nat) : ∀ w ∈ am_pt k, w ∈ lw_tbl := by
  intro w h
  have e : lw_tbl = k2_sels lw_privs ++ (tables_1_1 ++ (tables_1_2 ++ (tables_1_3 ++ (tables_1_4 ++ (tables_1_5 ++ tables_1_6))))) := rfl
  rw [e]
  simp only [List.mem_append]
  match k, h with
  | 0, h => exact Or.inl h
  | 1, h => exact Or.inr (Or.inl h)
  | 2, h => exact Or.inr (Or.inr (Or.inl h))
  | 3, h => exact Or.inr (Or.inr (Or.inr (Or.inl h)))
  | 4, h => exact Or.inr (Or.inr (Or.inr (Or.inr (Or.inl h))))
  | 5, h => exact Or.inr (Or.inr (Or.inr (Or.inr (Or.inr (Or.inl h)))))
  | 6, h => exact Or.inr (Or.inr (Or.inr (Or.inr (Or.inr (Or.inr h)))))
  | k + 7, h => exact absurd h List.not_mem_nil
def am_wt (i : Nat) (w : Cond) : Bool := decide ((am_pt (i / 1000))[i % 1000]? = some w)
theorem am_wt_in {i : Nat} {w : Cond} (h : am_wt i w = true) : w ∈ lw_tbl := am_pt_in (i / 1000) w (List.mem_of_getElem? (of_decide_eq_true h))
def am_wd (i : Nat) (w : Cond) : Bool := am_wt i w && goodWord w
theorem am_wd_in {i : Nat} {w : Cond} (h : am_wd i w = true) : w ∈ am_tG := by
  unfold am_wd at h
  rw [Bool.and_eq_true] at h
  exact List.mem_filter.mpr ⟨am_wt_in h.1, h.2⟩
theorem am_tG_good : ∀ w ∈ am_tG, goodWord w = true := fun w h => (List.mem_filter.mp h).2
theorem am_tG_tbl : ∀ w ∈ am_tG, w ∈ lw_tbl := fun w h => (List.mem_filter.mp h).1
def am_nf : Nat → Nat := fun c => match c with
  | 0 => 8
  | 1 => 6
  | 2 => 4
  | 3 => 17
  | 4 => 3
  | 5 => 5
  | 6 => 6
  | 7 => 8
  | 8 => 31
  | _ => 0
theorem am_cl_get {c : Nat} (h : c < 9) : am_cl[c]? = some (am_cn c, am_T c, am_nf c) := by
  match c, h with
  | 0, _ => rfl
  | 1, _ => rfl
  | 2, _ => rfl
  | 3, _ => rfl
  | 4, _ => rfl
  | 5, _ => rfl
  | 6, _ => rfl
  | 7, _ => rfl
  | 8, _ => rfl
  | c + 9, h => exact absurd h (by omega)
theorem am_ty_ok {c : Nat} (h : c < 9) : ∀ k, k < am_nf c → parseFieldDescriptor (am_T c k).2.2.1 = some (am_ty c k) := by
  match c, h with
  | 0, _ => exact tyX0_ok
  | 1, _ => exact tyX1_ok
  | 2, _ => exact tyX2_ok
  | 3, _ => exact tyX3_ok
  | 4, _ => exact tyX4_ok
  | 5, _ => exact tyX5_ok
  | 6, _ => exact tyX6_ok
  | 7, _ => exact tyX7_ok
  | 8, _ => exact tyX8_ok
  | c + 9, h => exact absurd h (by omega)
theorem am_nm_ok {c : Nat} (h : c < 9) : ∀ a, a < am_nf c → ∀ b, b < am_nf c → a ≠ b → (am_T c a).2.1 ≠ (am_T c b).2.1 := by
  match c, h with
  | 0, _ => exact nmX0
  | 1, _ => exact nmX1
  | 2, _ => exact nmX2
  | 3, _ => exact nmX3
  | 4, _ => exact nmX4
  | 5, _ => exact nmX5
  | 6, _ => exact nmX6
  | 7, _ => exact nmX7
  | 8, _ => exact nmX8
  | c + 9, h => exact absurd h (by omega)
theorem am_lay0 : ∀ w ∈ u_ws RX0 TX0 8, w ∈ am_tG := by decide +kernel
theorem am_lay1 : ∀ w ∈ u_ws RX1 TX1 6, w ∈ am_tG := by decide +kernel
theorem am_lay2 : ∀ w ∈ u_ws RX2 TX2 4, w ∈ am_tG := by decide +kernel
theorem am_lay3 : ∀ w ∈ u_ws RX3 TX3 17, w ∈ am_tG := by decide +kernel
theorem am_lay4 : ∀ w ∈ u_ws RX4 TX4 3, w ∈ am_tG := by decide +kernel
theorem am_lay5 : ∀ w ∈ u_ws RX5 TX5 5, w ∈ am_tG := by decide +kernel
theorem am_lay6 : ∀ w ∈ u_ws RX6 TX6 6, w ∈ am_tG := by decide +kernel
theorem am_lay7 : ∀ w ∈ u_ws RX7 TX7 8, w ∈ am_tG := by decide +kernel
theorem am_lay8 : ∀ w ∈ u_ws RX8 TX8 31, w ∈ am_tG := by decide +kernel
theorem am_lay {c : Nat} (h : c < 9) : ∀ w ∈ u_ws (am_cn c) (am_T c) (am_nf c), w ∈ am_tG := by
  match c, h with
  | 0, _ => exact am_lay0
  | 1, _ => exact am_lay1
  | 2, _ => exact am_lay2
  | 3, _ => exact am_lay3
  | 4, _ => exact am_lay4
  | 5, _ => exact am_lay5
  | 6, _ => exact am_lay6
  | 7, _ => exact am_lay7
  | 8, _ => exact am_lay8
  | c + 9, h => exact absurd h (by omega)
def am_F_t (e : Nat × Nat × Nat × Nat × Nat) : Bool := decide (e.2.2.1 < 9) && (decide (e.2.2.2.1 < am_nf e.2.2.1) && am_wd e.2.2.2.2 (.fieldLink (am_cn e.1) e.2.1 (am_T e.2.2.1 e.2.2.2.1).1 (am_T e.2.2.1 e.2.2.2.1).2.1 (am_T e.2.2.1 e.2.2.2.1).2.2.1))
theorem am_F_c : am_F.all am_F_t = true := by decide +kernel
theorem am_F_ok {own idx c k : Nat} (h : am_lkF own idx = some (c, k)) : c < 9 ∧ k < am_nf c ∧ Cond.fieldLink (am_cn own) idx (am_T c k).1 (am_T c k).2.1 (am_T c k).2.2.1 ∈ am_tG := by
  unfold am_lkF at h
  rw [Option.map_eq_some_iff] at h
  obtain ⟨e, h1, h2⟩ := h
  have h3 := List.find?_some h1
  have h4 := List.all_eq_true.mp am_F_c e (List.mem_of_find?_eq_some h1)
  obtain ⟨e1, e2, e3, e4, e5⟩ := e
  cases h2
  simp only [Bool.and_eq_true, beq_iff_eq] at h3
  obtain ⟨rfl, rfl⟩ := h3
  simp only [am_F_t, Bool.and_eq_true, decide_eq_true_eq] at h4
  exact ⟨h4.1, h4.2.1, am_wd_in h4.2.2⟩
/-- methods: the words by their places: link, instance or static, initialized, code, selects -/
def am_M_t (e : am_ME) : Bool := match e.2.2.2.2.2 with
  | [w0, w1, w2, w3] => (match e.2.2.2.2.1 with
    | 1 => am_wd w0 (.methodLink (am_cn e.1) e.2.1 e.2.2.1.2.1) && am_wd w1 (.static e.2.2.1.2.1)
    | 2 => am_wd w0 (.methodLink (am_cn e.1) e.2.1 e.2.2.1.2.1) && (am_wd w1 (.instanceMethod e.2.2.1.2.1) && decide (e.2.2.1.2.1.name = "<init>"))
    | 4 => am_wt w0 (.methodLinkNest (am_cn e.1) e.2.1 e.2.2.1.2.1 "SugarSaint") && am_wd w1 (.static e.2.2.1.2.1)
    | 5 => am_wt w0 (.methodLinkNest (am_cn e.1) e.2.1 e.2.2.1.2.1 "SugarSaint") && (am_wd w1 (.instanceMethod e.2.2.1.2.1) && decide (e.2.2.1.2.1.name = "<init>"))
    | _ => false) && (am_wd w2 (.initialized e.2.2.1.2.1.cls) && am_wd w3 (.code e.2.2.1.2.1 e.2.2.1.2.2.1 e.2.2.1.2.2.2.1 e.2.2.1.2.2.2.2))
  | [w0, w1, w2, w3, w4] => decide (e.2.2.2.2.1 = 0) && (am_wd w0 (.methodLink (am_cn e.1) e.2.1 e.2.2.1.2.1) && (am_wd w1 (.instanceMethod e.2.2.1.2.1) && am_wd w4 (.selects e.2.2.1.2.1.cls e.2.2.1.2.1 e.2.2.1.2.1))) && (am_wd w2 (.initialized e.2.2.1.2.1.cls) && am_wd w3 (.code e.2.2.1.2.1 e.2.2.1.2.2.1 e.2.2.1.2.2.2.1 e.2.2.1.2.2.2.2))
  | _ => false
def am_pl (y : am_MI) : Bool := plainName y.2.1.cls || (decide (y.2.1 = yJ6_bitCount_0f7a4) || (decide (y.2.1 = yJ9_max_7cf53) || (decide (y.2.1 = yJ9_min_7cf53) || decide (y.2.1 = yJ7_fill_53178))))
theorem am_pl1 : plainFor yJ6_bitCount_0f7a4 = true := by decide +kernel
theorem am_pl2 : plainFor yJ9_max_7cf53 = true := by decide +kernel
theorem am_pl3 : plainFor yJ9_min_7cf53 = true := by decide +kernel
theorem am_pl4 : plainFor yJ7_fill_53178 = true := by decide +kernel
theorem am_pl_ok {y : am_MI} (h : am_pl y = true) : plainFor y.2.1 = true := by
  unfold am_pl at h
  simp only [Bool.or_eq_true, decide_eq_true_eq] at h
  rcases h with h | h | h | h | h
  · exact plainFor_of_name h
  · rw [h]; exact am_pl1
  · rw [h]; exact am_pl2
  · rw [h]; exact am_pl3
  · rw [h]; exact am_pl4
def am_Y_t (y : am_MI) (n : Nat) : Bool := decide (y.2.1.cls = am_cn y.1) && (decide (y.2.1.cls ≠ "java/lang/invoke/MethodHandle") && (decide (y.2.1.cls ≠ "java/lang/invoke/VarHandle") && (decide ((parseMethodDescriptor y.2.1.desc).map (fun d => d.parameters.length) = some n) && (decide (y.2.2.2.1 ≤ 20) && am_pl y))))
def am_E_t (k : Nat) (e : am_ME) : Bool := am_M_t e && (am_Y_t e.2.2.1 e.2.2.2.1 && decide (e.1 = k))
theorem am_M_c0_0 : am_M_0_0.all (am_E_t 0) = true := by decide +kernel
theorem am_M_c0 : am_M_0.all (am_E_t 0) = true := by
  unfold am_M_0
  exact am_M_c0_0
theorem am_M_c1_0 : am_M_1_0.all (am_E_t 1) = true := by decide +kernel
theorem am_M_c1 : am_M_1.all (am_E_t 1) = true := by
  unfold am_M_1
  exact am_M_c1_0
theorem am_M_c2_0 : am_M_2_0.all (am_E_t 2) = true := by decide +kernel
theorem am_M_c2 : am_M_2.all (am_E_t 2) = true := by
  unfold am_M_2
  exact am_M_c2_0
theorem am_M_c3_0 : am_M_3_0.all (am_E_t 3) = true := by decide +kernel
theorem am_M_c3 : am_M_3.all (am_E_t 3) = true := by
  unfold am_M_3
  exact am_M_c3_0
theorem am_M_c4_0 : am_M_4_0.all (am_E_t 4) = true := by decide +kernel
theorem am_M_c4 : am_M_4.all (am_E_t 4) = true := by
  unfold am_M_4
  exact am_M_c4_0
theorem am_M_c5_0 : am_M_5_0.all (am_E_t 5) = true := by decide +kernel
theorem am_M_c5 : am_M_5.all (am_E_t 5) = true := by
  unfold am_M_5
  exact am_M_c5_0
theorem am_M_c6_0 : am_M_6_0.all (am_E_t 6) = true := by decide +kernel
theorem am_M_c6 : am_M_6.all (am_E_t 6) = true := by
  unfold am_M_6
  exact am_M_c6_0
theorem am_M_c7_0 : am_M_7_0.all (am_E_t 7) = true := by decide +kernel
theorem am_M_c7_1 : am_M_7_1.all (am_E_t 7) = true := by decide +kernel
theorem am_M_c7 : am_M_7.all (am_E_t 7) = true := by
  unfold am_M_7
  simp only [List.all_append, Bool.and_eq_true]
  exact ⟨am_M_c7_0, am_M_c7_1⟩
theorem am_M_c8_0 : am_M_8_0.all (am_E_t 8) = true := by decide +kernel
theorem am_M_c8_1 : am_M_8_1.all (am_E_t 8) = true := by decide +kernel
theorem am_M_c8_2 : am_M_8_2.all (am_E_t 8) = true := by decide +kernel
theorem am_M_c8 : am_M_8.all (am_E_t 8) = true := by
  unfold am_M_8
  simp only [List.all_append, Bool.and_eq_true]
  exact ⟨⟨am_M_c8_0, am_M_c8_1⟩, am_M_c8_2⟩
theorem am_M_c9_0 : am_M_9_0.all (am_E_t 9) = true := by decide +kernel
theorem am_M_c9_1 : am_M_9_1.all (am_E_t 9) = true := by decide +kernel
theorem am_M_c9_2 : am_M_9_2.all (am_E_t 9) = true := by decide +kernel
theorem am_M_c9_3 : am_M_9_3.all (am_E_t 9) = true := by decide +kernel
theorem am_M_c9 : am_M_9.all (am_E_t 9) = true := by
  unfold am_M_9
  simp only [List.all_append, Bool.and_eq_true]
  exact ⟨⟨⟨am_M_c9_0, am_M_c9_1⟩, am_M_c9_2⟩, am_M_c9_3⟩
theorem am_M_all (own : Nat) : (am_M own).all (am_E_t own) = true := by
  match own with
  | 0 => exact am_M_c0
  | 1 => exact am_M_c1
  | 2 => exact am_M_c2
  | 3 => exact am_M_c3
  | 4 => exact am_M_c4
  | 5 => exact am_M_c5
  | 6 => exact am_M_c6
  | 7 => exact am_M_c7
  | 8 => exact am_M_c8
  | 9 => exact am_M_c9
  | k + 10 => rfl
theorem am_M_ok {own idx n md : Nat} {y : am_MI} (h : am_lkM own idx = some (y, n, md)) : ∃ ws, am_M_t (own, idx, y, n, md, ws) = true ∧ am_Y_t y n = true := by
  unfold am_lkM at h
  rw [Option.map_eq_some_iff] at h
  obtain ⟨e, h1, h2⟩ := h
  have h3 := List.find?_some h1
  have h4 := List.all_eq_true.mp (am_M_all own) e (List.mem_of_find?_eq_some h1)
  obtain ⟨e1, e2, e3, e4, e5, e6⟩ := e
  cases h2
  simp only [beq_iff_eq] at h3
  subst h3
  simp only [am_E_t, Bool.and_eq_true, decide_eq_true_eq] at h4
  obtain ⟨h5, h6, rfl⟩ := h4
  exact ⟨e6, h5, h6⟩
theorem am_M_code {own idx n md : Nat} {y : am_MI} {ws : List Nat} (h : am_M_t (own, idx, y, n, md, ws) = true) : Cond.initialized y.2.1.cls ∈ am_tG ∧ Cond.code y.2.1 y.2.2.1 y.2.2.2.1 y.2.2.2.2 ∈ am_tG := by
  unfold am_M_t at h
  split at h
  · simp only [Bool.and_eq_true] at h
    exact ⟨am_wd_in h.2.1, am_wd_in h.2.2⟩
  · simp only [Bool.and_eq_true] at h
    exact ⟨am_wd_in h.2.1, am_wd_in h.2.2⟩
  · cases h
theorem am_M_0' {own idx n : Nat} {y : am_MI} {ws : List Nat} (h : am_M_t (own, idx, y, n, 0, ws) = true) : Cond.methodLink (am_cn own) idx y.2.1 ∈ am_tG ∧ Cond.instanceMethod y.2.1 ∈ am_tG ∧ Cond.selects y.2.1.cls y.2.1 y.2.1 ∈ am_tG := by
  unfold am_M_t at h
  split at h
  · simp at h
  · simp only [Bool.and_eq_true] at h
    exact ⟨am_wd_in h.1.2.1, am_wd_in h.1.2.2.1, am_wd_in h.1.2.2.2⟩
  · cases h
theorem am_M_1' {own idx n : Nat} {y : am_MI} {ws : List Nat} (h : am_M_t (own, idx, y, n, 1, ws) = true) : Cond.methodLink (am_cn own) idx y.2.1 ∈ am_tG ∧ Cond.static y.2.1 ∈ am_tG := by
  unfold am_M_t at h
  split at h
  · simp only [Bool.and_eq_true] at h
    exact ⟨am_wd_in h.1.1, am_wd_in h.1.2⟩
  · simp at h
  · cases h
theorem am_M_2' {own idx n : Nat} {y : am_MI} {ws : List Nat} (h : am_M_t (own, idx, y, n, 2, ws) = true) : Cond.methodLink (am_cn own) idx y.2.1 ∈ am_tG ∧ Cond.instanceMethod y.2.1 ∈ am_tG ∧ y.2.1.name = "<init>" := by
  unfold am_M_t at h
  split at h
  · simp only [Bool.and_eq_true, decide_eq_true_eq] at h
    exact ⟨am_wd_in h.1.1, am_wd_in h.1.2.1, h.1.2.2⟩
  · simp at h
  · cases h
theorem am_M_4' {own idx n : Nat} {y : am_MI} {ws : List Nat} (h : am_M_t (own, idx, y, n, 4, ws) = true) : Cond.methodLinkNest (am_cn own) idx y.2.1 "SugarSaint" ∈ lw_tbl ∧ Cond.static y.2.1 ∈ am_tG := by
  unfold am_M_t at h
  split at h
  · simp only [Bool.and_eq_true, decide_eq_true_eq] at h
    exact ⟨am_wt_in h.1.1, am_wd_in h.1.2⟩
  · simp at h
  · cases h
theorem am_M_5' {own idx n : Nat} {y : am_MI} {ws : List Nat} (h : am_M_t (own, idx, y, n, 5, ws) = true) : Cond.methodLinkNest (am_cn own) idx y.2.1 "SugarSaint" ∈ lw_tbl ∧ Cond.instanceMethod y.2.1 ∈ am_tG ∧ y.2.1.name = "<init>" := by
  unfold am_M_t at h
  split at h
  · simp only [Bool.and_eq_true, decide_eq_true_eq] at h
    exact ⟨am_wt_in h.1.1, am_wd_in h.1.2.1, h.1.2.2⟩
  · simp at h
  · cases h
def am_X_t (e : Nat × Nat × Nat × Nat) : Bool := match e.2.2.1 with
  | 0 => am_wd e.2.2.2 (.methodLink (am_cn e.1) e.2.1 objectInit)
  | 1 => am_wd e.2.2.2 (.methodLink (am_cn e.1) e.2.1 yJ0_length_8abf5)
  | 2 => am_wd e.2.2.2 (.methodLink (am_cn e.1) e.2.1 yJ0_charAt_5068e)
  | 3 => am_wd e.2.2.2 (.methodLink (am_cn e.1) e.2.1 arraycopyName)
  | _ => false
theorem am_X_c : am_X.all am_X_t = true := by decide +kernel
theorem am_X_ok {own idx k : Nat} (h : am_lkX own idx = some k) : ∃ w, am_X_t (own, idx, k, w) = true := by
  unfold am_lkX at h
  rw [Option.map_eq_some_iff] at h
  obtain ⟨e, h1, h2⟩ := h
  have h3 := List.find?_some h1
  have h4 := List.all_eq_true.mp am_X_c e (List.mem_of_find?_eq_some h1)
  obtain ⟨e1, e2, e3, e4⟩ := e
  cases h2
  simp only [Bool.and_eq_true, beq_iff_eq] at h3
  obtain ⟨rfl, rfl⟩ := h3
  exact ⟨e4, h4⟩
def am_L_t (e : Nat × Nat × Nat × Nat) : Bool := if e.2.2.1 < 9 then am_wd e.2.2.2 (.classLink (am_cn e.1) e.2.1 (am_cn e.2.2.1)) else am_wd e.2.2.2 (.classLink (am_cn e.1) e.2.1 "java/lang/String")
theorem am_L_c : am_L.all am_L_t = true := by decide +kernel
theorem am_L_ok {own idx k : Nat} (h : am_lkL own idx = some k) : (k < 9 → Cond.classLink (am_cn own) idx (am_cn k) ∈ am_tG) ∧ (¬ k < 9 → Cond.classLink (am_cn own) idx "java/lang/String" ∈ am_tG) := by
  unfold am_lkL at h
  rw [Option.map_eq_some_iff] at h
  obtain ⟨e, h1, h2⟩ := h
  have h3 := List.find?_some h1
  have h4 := List.all_eq_true.mp am_L_c e (List.mem_of_find?_eq_some h1)
  obtain ⟨e1, e2, e3, e4⟩ := e
  cases h2
  simp only [Bool.and_eq_true, beq_iff_eq] at h3
  obtain ⟨rfl, rfl⟩ := h3
  unfold am_L_t at h4
  constructor
  · intro hk
    rw [if_pos hk] at h4
    exact am_wd_in h4
  · intro hk
    rw [if_neg hk] at h4
    exact am_wd_in h4
theorem am_inst_c : ∀ c : Fin 9, Cond.instantiable (am_cn c.val) (am_nf c.val) ∈ am_tG ∧ Cond.initialized (am_cn c.val) ∈ am_tG := by decide +kernel
def am_N_t (e : Nat × Nat × Int × Nat) : Bool := am_wd e.2.2.2 (.constant (am_cn e.1) e.2.1 (Int32.ofInt e.2.2.1))
theorem am_N_c : am_N.all am_N_t = true := by decide +kernel
theorem am_N_ok {own idx : Nat} {v : Int} (h : am_lkN own idx = some v) : Cond.constant (am_cn own) idx (Int32.ofInt v) ∈ am_tG := by
  unfold am_lkN at h
  rw [Option.map_eq_some_iff] at h
  obtain ⟨e, h1, h2⟩ := h
  have h3 := List.find?_some h1
  have h4 := List.all_eq_true.mp am_N_c e (List.mem_of_find?_eq_some h1)
  obtain ⟨e1, e2, e3, e4⟩ := e
  cases h2
  simp only [Bool.and_eq_true, beq_iff_eq] at h3
  obtain ⟨rfl, rfl⟩ := h3
  exact am_wd_in h4
theorem am_S_ok {own idx t : Nat} (h : am_lkS own idx = some t) : ∃ w, (own, idx, t, w) ∈ am_S := by
  unfold am_lkS at h
  rw [Option.map_eq_some_iff] at h
  obtain ⟨e, h1, h2⟩ := h
  have h3 := List.find?_some h1
  obtain ⟨e1, e2, e3, e4⟩ := e
  cases h2
  simp only [Bool.and_eq_true, beq_iff_eq] at h3
  obtain ⟨rfl, rfl⟩ := h3
  exact ⟨e4, List.mem_of_find?_eq_some h1⟩
theorem am_misc : Cond.instanceMethod objectInit ∈ am_tG ∧ Cond.code objectInit ⟨#[0xb1]⟩ 1 none ∈ am_tG ∧ Cond.native arraycopyName ∈ am_tG ∧ Cond.static arraycopyName ∈ am_tG ∧ Cond.initialized "java/lang/System" ∈ am_tG ∧ Cond.arrayClass .int ∈ am_tG := by decide +kernel
theorem am_kd_c : am_kl.all (fun e => decide (e.1 < 13) && (decide (e.2 ≤ 1200) && (decide (e.1 < 4) || decide (e.2 = am_nf (e.1 - 4))))) = true := by decide +kernel
theorem am_kd_in {a : Nat} (h : a < 123) : (am_kd a).1 < 13 ∧ (am_kd a).2 ≤ 1200 ∧ (4 ≤ (am_kd a).1 → (am_kd a).2 = am_nf ((am_kd a).1 - 4)) := by
  have hl : a < am_kl.length := h
  have e : am_kd a = am_kl[a] := by unfold am_kd; rw [List.getD_eq_getElem?_getD, List.getElem?_eq_getElem hl]; rfl
  have h1 := List.all_eq_true.mp am_kd_c _ (List.getElem_mem hl)
  rw [e]
  simp only [Bool.and_eq_true, Bool.or_eq_true, decide_eq_true_eq] at h1
  refine ⟨h1.1, h1.2.1, fun h4 => ?_⟩
  rcases h1.2.2 with h5 | h5
  · omega
  · exact h5
theorem am_kd_lt {a : Nat} (h : (am_kd a).1 < 99) : a < 123 := by
  rcases Nat.lt_or_ge a 123 with q | q
  · exact q
  · have e : am_kd a = (99, 0) := by unfold am_kd; rw [List.getD_eq_getElem?_getD, List.getElem?_eq_none (by exact q)]; rfl
    rw [e] at h
    exact absurd h (by decide)
theorem am_kd_obj {a c : Nat} (h : (am_kd a).1 = 4 + c) (hc : c < 9) : a < 123 ∧ (am_kd a).2 = am_nf c := by
  have h1 := am_kd_lt (a := a) (by omega)
  refine ⟨h1, ?_⟩
  rw [(am_kd_in h1).2.2 (by omega), h]
  congr 1
  omega
