/-! one step of the small machine is one of the machine's -/
theorem am_fit_ok {b0 : Nat} {adK : Nat → Nat} {ty : FieldType} {v : Value} (h : am_fit ty v = true) : narrow ty (am_tr b0 adK v) = am_tr b0 adK v ∧ fits ty (am_tr b0 adK v) = true := by
  unfold am_fit at h
  split at h
  · exact ⟨rfl, rfl⟩
  · rename_i x
    simp only [Bool.or_eq_true, beq_iff_eq] at h
    rcases h with rfl | rfl
    · show narrow .boolean (.int 0) = .int 0 ∧ fits .boolean (.int 0) = true
      decide
    · show narrow .boolean (.int 1) = .int 1 ∧ fits .boolean (.int 1) = true
      decide
  · exact ⟨rfl, rfl⟩
  · exact ⟨rfl, rfl⟩
  · cases h
theorem am_decl_c : ∀ ci : Fin 9, ∀ k : Fin 31, k.val < am_nf ci.val → (am_T ci.val k.val).1 = am_cn ci.val := by decide +kernel
theorem am_decl {ci k : Nat} (h : ci < 9) (hk : k < am_nf ci) : (am_T ci k).1 = am_cn ci := by
  have : am_nf ci ≤ 31 := by
    match ci, h with
    | 0, _ => decide
    | 1, _ => decide
    | 2, _ => decide
    | 3, _ => decide
    | 4, _ => decide
    | 5, _ => decide
    | 6, _ => decide
    | 7, _ => decide
    | 8, _ => decide
    | c + 9, h => exact absurd h (by omega)
  exact am_decl_c ⟨ci, h⟩ ⟨k, by omega⟩ hk
theorem am_tys_get {cA : Nat → ClassId} {t : Nat} (h1 : 1 ≤ t) (h3 : t ≤ 3) : ∃ C, (am_tys cA)[t]? = some (cA t, .object C) := by
  match t, h1, h3 with
  | 1, _, _ => exact ⟨_, rfl⟩
  | 2, _, _ => exact ⟨_, rfl⟩
  | 3, _, _ => exact ⟨_, rfl⟩
theorem am_map_cat {b0 : Nat} {adK : Nat → Nat} {r : List Value} : ((r.map (am_tr b0 adK)).map fun v => v.category).sum = (r.map fun v => v.category).sum := by
  rw [List.map_map]
  congr 2
  funext v
  exact am_tr_cat _ _ _
theorem am_nfw : nativeFrameWords "java/lang/System" "arraycopy" 5 ≤ 60 := by decide +kernel
section AMS
variable {p : Program} {l : Launch} {e : Env} {R : Room} {s : State} {m : MethodId} {args : Array Value} {below : List Frame} {meth : Method} {c : Code} {Q : State → Prop}
variable {b0 n0 : Nat} {adK adV : Nat → Nat} {cA : Nat → ClassId} {D : va_G} {y : am_MI}
/-- length() of a text of the tables, at any place of the frame -/
def am_lenW (p : Program) (l : Launch) (e : Env) (R : Room) (s : State) (m : MethodId) (args : Array Value) (below : List Frame) (meth : Method) (c : Code) (Q : State → Prop) (b0 : Nat) (adK : Nat → Nat) (y : am_MI) : Prop :=
  ∀ (t : Nat), t < 15 → ∀ {pc idx cells slots : Nat} (rest : List Value) (H : Heap) (locs : List Loc) (ls : Array Slot), va_S (fun q : Nat => b0 ≤ q) s.heap H locs → ls.size = y.2.2.2.1 → Cond.methodLink (am_cn y.1) idx yJ0_length_8abf5 ∈ am_tG → decode y.2.2.1 pc = .ok (.invokevirtual idx, 3) → (rest.map fun v => v.category).sum ≤ 8 → cells ≤ R.cells → slots ≤ R.slots →
    W p l e R s m args below meth c H locs cells slots Q (F0 m (pc + 3) ls (.int (nI (am_by.getD t []).length) :: rest)) → W p l e R s m args below meth c H locs cells slots Q (F0 m pc ls (.ref (adK t) :: rest))
/-- charAt(i) -/
def am_chrW (p : Program) (l : Launch) (e : Env) (R : Room) (s : State) (m : MethodId) (args : Array Value) (below : List Frame) (meth : Method) (c : Code) (Q : State → Prop) (b0 : Nat) (adK : Nat → Nat) (y : am_MI) : Prop :=
  ∀ (t : Nat), t < 15 → ∀ {pc idx cells slots : Nat} {i : Int32}, vp_in i (am_by.getD t []).length → ∀ (rest : List Value) (H : Heap) (locs : List Loc) (ls : Array Slot), va_S (fun q : Nat => b0 ≤ q) s.heap H locs → ls.size = y.2.2.2.1 → Cond.methodLink (am_cn y.1) idx yJ0_charAt_5068e ∈ am_tG → decode y.2.2.1 pc = .ok (.invokevirtual idx, 3) → (rest.map fun v => v.category).sum ≤ 8 → cells ≤ R.cells → slots ≤ R.slots →
    W p l e R s m args below meth c H locs cells slots Q (F0 m (pc + 3) ls (.int (nI ((am_by.getD t []).getD i.toNatClampNeg 0)) :: rest)) → W p l e R s m args below meth c H locs cells slots Q (F0 m pc ls (.int i :: .ref (adK t) :: rest))
set_option maxHeartbeats 4000000 in
theorem am_sound1 (F : am_FX p s m args meth c y) (K : am_KT D adK cA s) (Z : am_Z adK adV b0 s s.heap) (hlen : am_lenW p l e R s m args below meth c Q b0 adK y) (hchr : am_chrW p l e R s m args below meth c Q b0 adK y) (hsz : s.heap.size = b0 + n0)
    {i : Instr} {len pc pc' : Nat} {al al' st st' : List Value} {hp hp' : am_H} {H : Heap} {locs : List Loc} {ls : Array Slot} (hn : n0 ≤ hp.1)
    (hd : decode y.2.2.1 pc = .ok (i, len)) (hok : am_ok i len = true) (hst : am_stp y.1 (y.2.1.name == "<init>") i pc al st hp = some (pc', al', st', hp'))
    (hP : va_P D am_cl (am_ws b0 adK cA hp) H) (hS : va_S (fun q : Nat => b0 ≤ q) s.heap H locs) (hL : am_LR b0 adK ls al) (hal : al.length = y.2.2.2.1)
    (hR1 : hp'.1 - n0 ≤ R.cells) (hR2 : am_sl hp'.1 - am_sl n0 ≤ R.slots) (hR3 : 8 ≤ R.frames) (hR4 : 300 ≤ R.locals)
    (kk : ∀ (H' : Heap) (locs' : List Loc) (ls' : Array Slot), va_P D am_cl (am_ws b0 adK cA hp') H' → va_S (fun q : Nat => b0 ≤ q) s.heap H' locs' → am_LR b0 adK ls' al' → W p l e R s m args below meth c H' locs' (hp'.1 - n0) (am_sl hp'.1 - am_sl n0) Q (F0 m pc' ls' (st'.map (am_tr b0 adK)))) :
    W p l e R s m args below meth c H locs (hp.1 - n0) (am_sl hp.1 - am_sl n0) Q (F0 m pc ls (st.map (am_tr b0 adK))) := by
  obtain ⟨hx, hb, hml, hown, hts, hname⟩ := F
  have hA : ∀ q : Nat, s.heap.size ≤ q → (fun q : Nat => b0 ≤ q) q := fun q h => by show b0 ≤ q; omega
  cases i with
  | iload_n k =>
    obtain rfl : len = 1 := by simpa [am_ok] using hok
    obtain ⟨x, e, h⟩ := am_iv_some hst
    cases h
    exact lv_iload_n hx hb hd rfl (hL.2.2 _ _ e (by simp)).2 (kk _ _ _ hP hS hL)
  | iload k =>
    obtain rfl : len = 2 := by simpa [am_ok] using hok
    obtain ⟨x, e, h⟩ := am_iv_some hst
    cases h
    exact lv_iload hx hb hd (hL.2.2 _ _ e (by simp)).2 (kk _ _ _ hP hS hL)
  | aload_n k =>
    obtain rfl : len = 1 := by simpa [am_ok] using hok
    obtain ⟨x, e, h⟩ := am_rv_some hst
    cases h
    exact lv_aload_n hx hb hd rfl (hL.2.2 _ _ e (by simp)).2 (kk _ _ _ hP hS hL)
  | aload k =>
    obtain rfl : len = 2 := by simpa [am_ok] using hok
    obtain ⟨x, e, h⟩ := am_rv_some hst
    cases h
    exact lv_aload hx hb hd (hL.2.2 _ _ e (by simp)).2 (kk _ _ _ hP hS hL)
  | istore_n k =>
    obtain rfl : len = 1 := by simpa [am_ok] using hok
    obtain ⟨x, r, rfl, h⟩ := am_1i_some hst
    obtain ⟨hk, h⟩ := am_ite_some h
    cases h
    exact lv_istore_n hx hb hd rfl hL.has hk rfl (fun ls' h' => kk _ _ _ hP hS (hL.set (v := .int x) rfl rfl h'))
  | istore k =>
    obtain rfl : len = 2 := by simpa [am_ok] using hok
    obtain ⟨x, r, rfl, h⟩ := am_1i_some hst
    obtain ⟨hk, h⟩ := am_ite_some h
    cases h
    exact lv_istore hx hb hd hL.has hk rfl (fun ls' h' => kk _ _ _ hP hS (hL.set (v := .int x) rfl rfl h'))
  | astore_n k =>
    obtain rfl : len = 1 := by simpa [am_ok] using hok
    obtain ⟨x, r, rfl, h⟩ := am_1r_some hst
    obtain ⟨hk, h⟩ := am_ite_some h
    cases h
    exact lv_astore_n hx hb hd rfl hL.has hk rfl (fun ls' h' => kk _ _ _ hP hS (hL.set (v := .ref x) rfl rfl h'))
  | astore k =>
    obtain rfl : len = 2 := by simpa [am_ok] using hok
    obtain ⟨x, r, rfl, h⟩ := am_1r_some hst
    obtain ⟨hk, h⟩ := am_ite_some h
    cases h
    exact lv_astore hx hb hd hL.has hk rfl (fun ls' h' => kk _ _ _ hP hS (hL.set (v := .ref x) rfl rfl h'))
  | iinc k n =>
    obtain rfl : len = 3 := by simpa [am_ok] using hok
    obtain ⟨x, e, h⟩ := am_iv_some hst
    cases h
    have hm : (k, Value.int x) ∈ am_as b0 adK al := am_as_mem.mpr ⟨.int x, e, by simp, rfl⟩
    obtain ⟨j, hj⟩ := List.getElem?_of_mem hm
    exact lv_iinc hx hb hd hL.has hj rfl (List.getElem?_eq_some_iff.mp e).1 rfl (fun ls' h' => kk _ _ _ hP hS (hL.set (v := .int (x + Int32.ofInt n)) rfl rfl h'))
  | iconst n =>
    obtain rfl : len = 1 := by simpa [am_ok] using hok
    cases hst
    exact lv_iconst hx hb hd rfl (kk _ _ _ hP hS hL)
  | bipush n =>
    obtain rfl : len = 2 := by simpa [am_ok] using hok
    cases hst
    exact lv_bipush hx hb hd rfl (kk _ _ _ hP hS hL)
  | sipush n =>
    obtain rfl : len = 3 := by simpa [am_ok] using hok
    cases hst
    exact lv_sipush hx hb hd rfl (kk _ _ _ hP hS hL)
  | ldc idx =>
    obtain rfl : len = 2 := by simpa [am_ok] using hok
    simp only [am_stp] at hst
    cases hN : am_lkN y.1 idx with
    | some v =>
      rw [hN] at hst
      cases hst
      exact lv_ldc hx hb hown (hts _ (am_N_ok hN)) hd (kk _ _ _ hP hS hL)
    | none =>
      rw [hN] at hst
      simp only at hst
      cases hT : am_lkS y.1 idx with
      | some t =>
        rw [hT] at hst
        cases hst
        obtain ⟨w, hw⟩ := am_S_ok hT
        have hR := K.2.2.2 _ hw
        refine va_ldcS hx hb hown hR hd ?_
        have kk2 := kk _ _ _ hP hS hL
        rw [List.map_cons, show am_tr b0 adK (.ref (1000000 + t)) = .ref (adK t) from congrArg Value.ref am_adr_s] at kk2
        exact kk2
      | none =>
        rw [hT] at hst
        cases hst
  | ldc_w idx =>
    obtain rfl : len = 3 := by simpa [am_ok] using hok
    simp only [am_stp] at hst
    cases hN : am_lkN y.1 idx with
    | some v =>
      rw [hN] at hst
      cases hst
      exact lv_ldcw hx hb hown (hts _ (am_N_ok hN)) hd (kk _ _ _ hP hS hL)
    | none =>
      rw [hN] at hst
      simp only at hst
      cases hT : am_lkS y.1 idx with
      | some t =>
        rw [hT] at hst
        cases hst
        obtain ⟨w, hw⟩ := am_S_ok hT
        have hR := K.2.2.2 _ hw
        refine am_ldcSw hx hb hown hR hd ?_
        have kk2 := kk _ _ _ hP hS hL
        rw [List.map_cons, show am_tr b0 adK (.ref (1000000 + t)) = .ref (adK t) from congrArg Value.ref am_adr_s] at kk2
        exact kk2
      | none =>
        rw [hT] at hst
        cases hst
  | dup =>
    obtain rfl : len = 1 := by simpa [am_ok] using hok
    simp only [am_stp] at hst
    split at hst
    · obtain ⟨hc, h⟩ := am_ite_some hst
      cases h
      exact lv_dup hx hb hd ((am_tr_cat _ _ _).trans hc) (kk _ _ _ hP hS hL)
    · cases hst
  | dup2 =>
    obtain rfl : len = 1 := by simpa [am_ok] using hok
    simp only [am_stp] at hst
    split at hst
    · obtain ⟨hc, h⟩ := am_ite_some hst
      cases h
      exact lv_dup2_11 hx hb hd ((am_tr_cat _ _ _).trans hc.1) ((am_tr_cat _ _ _).trans hc.2) (kk _ _ _ hP hS hL)
    · cases hst
  | pop =>
    obtain rfl : len = 1 := by simpa [am_ok] using hok
    simp only [am_stp] at hst
    split at hst
    · obtain ⟨hc, h⟩ := am_ite_some hst
      cases h
      exact lv_pop hx hb hd ((am_tr_cat _ _ _).trans hc) (kk _ _ _ hP hS hL)
    · cases hst
  | iadd =>
    obtain rfl : len = 1 := by simpa [am_ok] using hok
    obtain ⟨x, z, r, rfl, h⟩ := am_2i_some hst
    cases h
    exact lv_iadd hx hb hd (kk _ _ _ hP hS hL)
  | isub =>
    obtain rfl : len = 1 := by simpa [am_ok] using hok
    obtain ⟨x, z, r, rfl, h⟩ := am_2i_some hst
    cases h
    exact lv_isub hx hb hd (kk _ _ _ hP hS hL)
  | imul =>
    obtain rfl : len = 1 := by simpa [am_ok] using hok
    obtain ⟨x, z, r, rfl, h⟩ := am_2i_some hst
    cases h
    exact lv_imul hx hb hd (kk _ _ _ hP hS hL)
  | iand =>
    obtain rfl : len = 1 := by simpa [am_ok] using hok
    obtain ⟨x, z, r, rfl, h⟩ := am_2i_some hst
    cases h
    exact lv_iand hx hb hd (kk _ _ _ hP hS hL)
  | ior =>
    obtain rfl : len = 1 := by simpa [am_ok] using hok
    obtain ⟨x, z, r, rfl, h⟩ := am_2i_some hst
    cases h
    exact lv_ior hx hb hd (kk _ _ _ hP hS hL)
  | ixor =>
    obtain rfl : len = 1 := by simpa [am_ok] using hok
    obtain ⟨x, z, r, rfl, h⟩ := am_2i_some hst
    cases h
    exact lv_ixor hx hb hd (kk _ _ _ hP hS hL)
  | ishl =>
    obtain rfl : len = 1 := by simpa [am_ok] using hok
    obtain ⟨x, z, r, rfl, h⟩ := am_2i_some hst
    cases h
    exact lv_ishl hx hb hd (kk _ _ _ hP hS hL)
  | ishr =>
    obtain rfl : len = 1 := by simpa [am_ok] using hok
    obtain ⟨x, z, r, rfl, h⟩ := am_2i_some hst
    cases h
    exact lv_ishr hx hb hd (kk _ _ _ hP hS hL)
  | iushr =>
    obtain rfl : len = 1 := by simpa [am_ok] using hok
    obtain ⟨x, z, r, rfl, h⟩ := am_2i_some hst
    cases h
    exact lv_iushr hx hb hd rfl (kk _ _ _ hP hS hL)
  | idiv =>
    obtain rfl : len = 1 := by simpa [am_ok] using hok
    obtain ⟨x, z, r, rfl, h⟩ := am_2i_some hst
    split at h
    · cases h
    · rename_i hz
      cases h
      exact lv_idiv hx hb hd hz (kk _ _ _ hP hS hL)
  | irem =>
    obtain rfl : len = 1 := by simpa [am_ok] using hok
    obtain ⟨x, z, r, rfl, h⟩ := am_2i_some hst
    split at h
    · cases h
    · rename_i hz
      cases h
      exact lv_irem hx hb hd hz (kk _ _ _ hP hS hL)
  | i2b =>
    obtain rfl : len = 1 := by simpa [am_ok] using hok
    obtain ⟨x, r, rfl, h⟩ := am_1i_some hst
    cases h
    exact lv_i2b hx hb hd rfl (kk _ _ _ hP hS hL)
  | i2s =>
    obtain rfl : len = 1 := by simpa [am_ok] using hok
    obtain ⟨x, r, rfl, h⟩ := am_1i_some hst
    cases h
    exact lv_i2s hx hb hd rfl (kk _ _ _ hP hS hL)
  | i2l =>
    obtain rfl : len = 1 := by simpa [am_ok] using hok
    obtain ⟨x, r, rfl, h⟩ := am_1i_some hst
    cases h
    exact lv_i2l hx hb hd rfl (kk _ _ _ hP hS hL)
  | ladd =>
    obtain rfl : len = 1 := by simpa [am_ok] using hok
    obtain ⟨x, z, r, rfl, h⟩ := am_2l_some hst
    cases h
    exact lv_ladd hx hb hd (kk _ _ _ hP hS hL)
  | lcmp =>
    obtain rfl : len = 1 := by simpa [am_ok] using hok
    obtain ⟨x, z, r, rfl, h⟩ := am_2l_some hst
    cases h
    exact W.lcmp hx hb hd (kk _ _ _ hP hS hL)
  | goto off =>
    obtain rfl : len = 3 := by simpa [am_ok] using hok
    simp only [am_stp] at hst
    obtain ⟨t, ht, h⟩ := am_tg_some hst
    cases h
    exact lv_goto hx hb hd ht (kk _ _ _ hP hS hL)
  | if_icmp cd off =>
    obtain rfl : len = 3 := by simpa [am_ok] using hok
    obtain ⟨x, z, r, rfl, h⟩ := am_2i_some hst
    obtain ⟨t, ht, h⟩ := am_tg_some h
    cases cd with
    | eq =>
      refine lv_icmp_eq hx hb hd ht (fun q => ?_) (fun q => ?_)
      · rw [if_pos (by simp [am_cm, q])] at h
        cases h
        exact kk _ _ _ hP hS hL
      · rw [if_neg (by simp [am_cm, q])] at h
        cases h
        exact kk _ _ _ hP hS hL
    | ne =>
      refine lv_icmp_ne hx hb hd ht (fun q => ?_) (fun q => ?_)
      · rw [if_pos (by simp [am_cm, q])] at h
        cases h
        exact kk _ _ _ hP hS hL
      · rw [if_neg (by simp [am_cm, q])] at h
        cases h
        exact kk _ _ _ hP hS hL
    | lt =>
      refine lv_icmp_lt hx hb hd ht (fun q => ?_) (fun q => ?_)
      · rw [if_pos (by simp [am_cm, q])] at h
        cases h
        exact kk _ _ _ hP hS hL
      · rw [if_neg (by simp [am_cm, q])] at h
        cases h
        exact kk _ _ _ hP hS hL
    | ge =>
      refine lv_icmp_ge hx hb hd ht (fun q => ?_) (fun q => ?_)
      · rw [if_pos (by simp [am_cm, q])] at h
        cases h
        exact kk _ _ _ hP hS hL
      · rw [if_neg (by simp [am_cm, q])] at h
        cases h
        exact kk _ _ _ hP hS hL
    | gt =>
      refine lv_icmp_gt hx hb hd ht (fun q => ?_) (fun q => ?_)
      · rw [if_pos (by simp [am_cm, q])] at h
        cases h
        exact kk _ _ _ hP hS hL
      · rw [if_neg (by simp [am_cm, q])] at h
        cases h
        exact kk _ _ _ hP hS hL
    | le =>
      refine lv_icmp_le hx hb hd ht (fun q => ?_) (fun q => ?_)
      · rw [if_pos (by simp [am_cm, q])] at h
        cases h
        exact kk _ _ _ hP hS hL
      · rw [if_neg (by simp [am_cm, q])] at h
        cases h
        exact kk _ _ _ hP hS hL
  | ifCond cd off =>
    obtain rfl : len = 3 := by simpa [am_ok] using hok
    obtain ⟨x, r, rfl, h⟩ := am_1i_some hst
    obtain ⟨t, ht, h⟩ := am_tg_some h
    cases cd with
    | eq =>
      refine lv_if_eq hx hb hd ht (fun q => ?_) (fun q => ?_)
      · rw [if_pos (by simp [am_cm, q])] at h
        cases h
        exact kk _ _ _ hP hS hL
      · rw [if_neg (by simp [am_cm, q])] at h
        cases h
        exact kk _ _ _ hP hS hL
    | ne =>
      refine lv_if_ne hx hb hd ht (fun q => ?_) (fun q => ?_)
      · rw [if_pos (by simp [am_cm, q])] at h
        cases h
        exact kk _ _ _ hP hS hL
      · rw [if_neg (by simp [am_cm, q])] at h
        cases h
        exact kk _ _ _ hP hS hL
    | lt =>
      refine lv_if_lt hx hb hd ht (fun q => ?_) (fun q => ?_)
      · rw [if_pos (by simp [am_cm, q])] at h
        cases h
        exact kk _ _ _ hP hS hL
      · rw [if_neg (by simp [am_cm, q])] at h
        cases h
        exact kk _ _ _ hP hS hL
    | ge =>
      refine lv_if_ge hx hb hd ht (fun q => ?_) (fun q => ?_)
      · rw [if_pos (by simp [am_cm, q])] at h
        cases h
        exact kk _ _ _ hP hS hL
      · rw [if_neg (by simp [am_cm, q])] at h
        cases h
        exact kk _ _ _ hP hS hL
    | gt =>
      refine lv_if_gt hx hb hd ht (fun q => ?_) (fun q => ?_)
      · rw [if_pos (by simp [am_cm, q])] at h
        cases h
        exact kk _ _ _ hP hS hL
      · rw [if_neg (by simp [am_cm, q])] at h
        cases h
        exact kk _ _ _ hP hS hL
    | le =>
      refine lv_if_le hx hb hd ht (fun q => ?_) (fun q => ?_)
      · rw [if_pos (by simp [am_cm, q])] at h
        cases h
        exact kk _ _ _ hP hS hL
      · rw [if_neg (by simp [am_cm, q])] at h
        cases h
        exact kk _ _ _ hP hS hL
  | tableswitch d lo hi offs =>
    obtain ⟨x, r, rfl, h⟩ := am_1i_some hst
    split at h
    · rename_i hz
      obtain ⟨t, ht, h⟩ := am_tg_some h
      cases h
      exact lv_tableOut hx hb hd hz ht (kk _ _ _ hP hS hL)
    · rename_i hz
      split at h
      · rename_i off ho
        obtain ⟨t, ht, h⟩ := am_tg_some h
        cases h
        exact lv_tableIn hx hb hd (fun q => hz (Or.inl q)) (fun q => hz (Or.inr q)) ho ht (kk _ _ _ hP hS hL)
      · cases h
  | lookupswitch d ps =>
    obtain ⟨x, r, rfl, h⟩ := am_1i_some hst
    obtain ⟨hz, h⟩ := am_ite_some h
    obtain ⟨t, ht, h⟩ := am_tg_some h
    cases h
    exact lv_lookup hx hb hd hz rfl ht (kk _ _ _ hP hS hL)
  | getfield idx =>
    obtain rfl : len = 3 := by simpa [am_ok] using hok
    obtain ⟨a, r, rfl, h⟩ := am_1r_some hst
    cases hF : am_lkF y.1 idx with
    | none => rw [hF] at h; cases h
    | some ck =>
      obtain ⟨ci, k⟩ := ck
      rw [hF] at h
      obtain ⟨⟨ha, hk⟩, h⟩ := am_ite_some h
      cases h
      obtain ⟨h9, hn, hw⟩ := am_F_ok hF
      obtain ⟨-, h2⟩ := am_kd_obj hk h9
      have hg := am_ws_get (b0 := b0) (adK := adK) (cA := cA) ha
      rw [am_ce_obj hk, h2] at hg
      rw [List.map_cons, show am_tr b0 adK (.ref a) = .ref (b0 + a) from congrArg Value.ref (am_adr_lt (by omega))]
      exact va_get hx hb hts (am_lay h9) hown K.1 hP a hg (am_cl_get h9) k hn (hts _ hw) (fun _ q => q) (am_fs_get hn) hd (kk _ _ _ hP hS hL)
  | putfield idx =>
    obtain rfl : len = 3 := by simpa [am_ok] using hok
    simp only [am_stp] at hst
    split at hst
    · rename_i v a r
      cases hF : am_lkF y.1 idx with
      | none => rw [hF] at hst; cases hst
      | some ck =>
        obtain ⟨ci, k⟩ := ck
        rw [hF] at hst
        obtain ⟨⟨ha, hk, hf, hini⟩, h⟩ := am_ite_some hst
        cases h
        obtain ⟨h9, hn, hw⟩ := am_F_ok hF
        obtain ⟨-, h2⟩ := am_kd_obj hk h9
        have hg := am_ws_get (b0 := b0) (adK := adK) (cA := cA) ha
        rw [am_ce_obj hk, h2] at hg
        rw [List.map_cons, List.map_cons, show am_tr b0 adK (.ref a) = .ref (b0 + a) from congrArg Value.ref (am_adr_lt (by omega))]
        have hset : (am_ws b0 adK cA hp).set a (b0 + a, .inr (ci, ((List.range (am_nf ci)).map (fun j => am_tr b0 adK (hp.2 a j))).set k (am_tr b0 adK v))) = am_ws b0 adK cA (hp.1, am_up hp.2 a k v) := by
          refine am_ws_set ha ?_ (fun i hi => ?_)
          · rw [am_ce_obj hk, h2, am_fs_set]
            congr 3
            apply List.map_congr_left
            intro j _
            simp [am_up]
          · funext j
            simp [am_up, hi]
        have hnr : narrow (am_ty ci k) (am_tr b0 adK v) = am_tr b0 adK v ∧ fits (am_ty ci k) (am_tr b0 adK v) = true := am_fit_ok hf
        by_cases hfin : (am_T ci k).2.2.2 = true
        · obtain ⟨i1, i2⟩ := hini hfin
          refine va_putF hx hb hts (am_lay h9) (am_ty ci) (am_ty_ok h9) (am_nm_ok h9) hown K.1 hP (am_ws_D _ _ _ _) hS a hg (am_cl_get h9) k hn (hts _ hw) (fun _ q => q) hfin (by rw [hname]; exact of_decide_eq_true i1) (by rw [i2]; exact am_decl h9 hn) (am_ty_ok h9 k hn) hnr.1 hnr.2 (by simpa using hn) hd (fun H1 locs1 q1 q2 q3 => ?_)
          rw [hset] at q1
          exact kk _ _ _ q1 q3 hL
        · refine va_put hx hb hts (am_lay h9) (am_ty ci) (am_ty_ok h9) (am_nm_ok h9) hown K.1 hP (am_ws_D _ _ _ _) hS a hg (am_cl_get h9) k hn (hts _ hw) (fun _ q => q) (by simpa using hfin) (am_ty_ok h9 k hn) hnr.1 hnr.2 (by simpa using hn) hd (fun H1 locs1 q1 q2 q3 => ?_)
          rw [hset] at q1
          exact kk _ _ _ q1 q3 hL
    · cases hst
  | iaload =>
    obtain rfl : len = 1 := by simpa [am_ok] using hok
    simp only [am_stp] at hst
    split at hst
    · rename_i i a r
      obtain ⟨⟨ha, hk, hin⟩, h⟩ := am_ite_some hst
      split at h
      · rename_i x hv
        cases h
        have hg := am_ws_get (b0 := b0) (adK := adK) (cA := cA) ha
        rw [am_ce_0 hk] at hg
        rw [List.map_cons, List.map_cons, show am_tr b0 adK (.ref a) = .ref (b0 + a) from congrArg Value.ref (am_adr_lt (by omega))]
        refine va_iald hx hb K.1 hP a 0 hg rfl (am_in_iff.mp hin) hd ?_
        rw [hv]
        exact kk _ _ _ hP hS hL
      · cases h
    · cases hst
  | iastore =>
    obtain rfl : len = 1 := by simpa [am_ok] using hok
    simp only [am_stp] at hst
    split at hst
    · rename_i x i a r
      obtain ⟨⟨ha, hk, hin⟩, h⟩ := am_ite_some hst
      cases h
      have hg := am_ws_get (b0 := b0) (adK := adK) (cA := cA) ha
      rw [am_ce_0 hk] at hg
      rw [List.map_cons, List.map_cons, List.map_cons, show am_tr b0 adK (.ref a) = .ref (b0 + a) from congrArg Value.ref (am_adr_lt (by omega))]
      refine va_iast hx hb K.1 hP (am_ws_D _ _ _ _) hS a 0 hg rfl (am_in_iff.mp hin) hd (fun H1 locs1 q1 q2 q3 => ?_)
      have hset : (am_ws b0 adK cA hp).set a (b0 + a, .inl (cA 0, (am_kd a).2, .inl (upd (fun j => am_ai (hp.2 a j)) i.toNatClampNeg x))) = am_ws b0 adK cA (hp.1, am_up hp.2 a i.toNatClampNeg (.int x)) := by
        refine am_ws_set ha ?_ (fun j hj => ?_)
        · rw [am_ce_0 hk]
          congr 5
          funext j
          by_cases e : j = i.toNatClampNeg <;> simp [upd, am_up, e, am_ai]
        · funext k
          simp [am_up, hj]
      rw [hset] at q1
      exact kk _ _ _ q1 q3 hL
    · cases hst
  | aaload =>
    obtain rfl : len = 1 := by simpa [am_ok] using hok
    simp only [am_stp] at hst
    split at hst
    · rename_i i a r
      obtain ⟨⟨ha, hk1, hk3, hin⟩, h⟩ := am_ite_some hst
      split at h
      · rename_i x hv
        cases h
        have hg := am_ws_get (b0 := b0) (adK := adK) (cA := cA) ha
        rw [am_ce_q rfl hk1 hk3] at hg
        obtain ⟨C, hC⟩ : ∃ C, (am_tys cA)[(am_kd a).1]? = some (cA (am_kd a).1, .object C) := am_tys_get hk1 hk3
        rw [List.map_cons, List.map_cons, show am_tr b0 adK (.ref a) = .ref (b0 + a) from congrArg Value.ref (am_adr_lt (by omega))]
        refine va_aldq hx hb K.1 hP a (am_kd a).1 hg hC (am_in_iff.mp hin) hd ?_
        rw [hv]
        exact kk _ _ _ hP hS hL
      · cases h
    · cases hst
  | aastore =>
    obtain rfl : len = 1 := by simpa [am_ok] using hok
    simp only [am_stp] at hst
    split at hst
    · rename_i v i a r
      obtain ⟨⟨ha, hin, hv⟩, h⟩ := am_ite_some hst
      cases h
      have hk1 : 1 ≤ (am_kd a).1 := by omega
      have hk3 : (am_kd a).1 ≤ 3 := by omega
      have hg := am_ws_get (b0 := b0) (adK := adK) (cA := cA) ha
      rw [am_ce_q rfl hk1 hk3] at hg
      have hset : ∀ z, am_adr b0 adK v = z → (am_ws b0 adK cA hp).set a (b0 + a, .inl (cA (am_kd a).1, (am_kd a).2, .inr (.inr (.inr (.inr (va_up (fun j => am_ar b0 adK (hp.2 a j)) i.toNatClampNeg (some z))))))) = am_ws b0 adK cA (hp.1, am_up hp.2 a i.toNatClampNeg (.ref v)) := by
        intro z hz
        refine am_ws_set ha ?_ (fun j hj => ?_)
        · rw [am_ce_q rfl hk1 hk3]
          congr 8
          funext j
          by_cases e : j = i.toNatClampNeg <;> simp [va_up, am_up, e, am_ar, hz]
        · funext k
          simp [am_up, hj]
      rw [List.map_cons, List.map_cons, List.map_cons, show am_tr b0 adK (.ref a) = .ref (b0 + a) from congrArg Value.ref (am_adr_lt (by omega)), show am_tr b0 adK (.ref v) = .ref (am_adr b0 adK v) from rfl]
      rcases hv with ⟨k1, k2, k3⟩ | ⟨k1, k2, k3⟩ | ⟨k1, k2, k3⟩
      · have hv := am_ws_get (b0 := b0) (adK := adK) (cA := cA) k2
        rw [am_ce_obj (k := 5) k3] at hv
        rw [k1] at hg hset
        rw [am_adr_lt (a := v) (by omega)]
        refine va_astq hx hb K.1 hP (am_ws_D _ _ _ _) hS a 1 v 5 (r := (RX5, TX5, 5)) hg rfl hv rfl (am_in_iff.mp hin) hd (fun H1 locs1 q1 q2 q3 => ?_)
        rw [hset _ (am_adr_lt (by omega))] at q1
        exact kk _ _ _ q1 q3 hL
      · have hv := am_ws_get (b0 := b0) (adK := adK) (cA := cA) k2
        rw [am_ce_obj (k := 4) k3] at hv
        rw [k1] at hg hset
        rw [am_adr_lt (a := v) (by omega)]
        refine va_astq hx hb K.1 hP (am_ws_D _ _ _ _) hS a 2 v 4 (r := (RX4, TX4, 3)) hg rfl hv rfl (am_in_iff.mp hin) hd (fun H1 locs1 q1 q2 q3 => ?_)
        rw [hset _ (am_adr_lt (by omega))] at q1
        exact kk _ _ _ q1 q3 hL
      · rw [k1] at hg hset
        have k2 : @LE.le Nat _ 1000000 v := k2
        have k3 : @LT.lt Nat _ v 1000015 := k3
        obtain ⟨t, rfl⟩ : ∃ t : Nat, v = 1000000 + t := ⟨v - 1000000, (Nat.add_sub_cancel' k2).symm⟩
        rw [am_adr_s]
        refine va_astqM hx hb K.1 hP (am_ws_D _ _ _ _) hS a 3 (E := "java/lang/String") hg rfl ?_ (am_in_iff.mp hin) hd (fun H1 locs1 q1 q2 q3 => ?_)
        · obtain ⟨cell, h1, h2, h3, -⟩ := (Z.1 t (by omega)).1.kept hS.2.1
          obtain ⟨kC, hkC, -⟩ := Vm.findClass_spec h3
          exact ⟨cell, h1, h2, ⟨kC, hkC⟩, fun comp hc => by rw [Option.some.inj (hc.symm.trans h3)]; exact va_asg _ _⟩
        · rw [hset _ am_adr_s] at q1
          exact kk _ _ _ q1 q3 hL
    · cases hst
  | arraylength =>
    obtain rfl : len = 1 := by simpa [am_ok] using hok
    obtain ⟨a, r, rfl, h⟩ := am_1r_some hst
    obtain ⟨⟨ha, hk⟩, h⟩ := am_ite_some h
    cases h
    have hg := am_ws_get (b0 := b0) (adK := adK) (cA := cA) ha
    rw [List.map_cons, show am_tr b0 adK (.ref a) = .ref (b0 + a) from congrArg Value.ref (am_adr_lt (by omega))]
    rcases Nat.eq_zero_or_pos (am_kd a).1 with h0 | h0
    · rw [am_ce_0 h0] at hg
      exact va_alen hx hb K.1 hP a 0 hg rfl rfl hd (kk _ _ _ hP hS hL)
    · rw [am_ce_q rfl h0 hk] at hg
      obtain ⟨C, hC⟩ : ∃ C, (am_tys cA)[(am_kd a).1]? = some (cA (am_kd a).1, .object C) := am_tys_get h0 hk
      exact va_alen hx hb K.1 hP a (am_kd a).1 hg hC rfl hd (kk _ _ _ hP hS hL)
  | new idx =>
    obtain rfl : len = 3 := by simpa [am_ok] using hok
    simp only [am_stp] at hst
    cases hF : am_lkL y.1 idx with
    | none => rw [hF] at hst; cases hst
    | some ci =>
      rw [hF] at hst
      obtain ⟨⟨hk, h9⟩, h⟩ := am_ite_some hst
      cases h
      dsimp only at hR1 hR2
      obtain ⟨-, h2⟩ := am_kd_obj hk h9
      have hi := am_inst_c ⟨ci, h9⟩
      have e1 : am_sl (hp.1 + 1) = am_sl hp.1 + am_nf ci := by rw [← h2]; rfl
      have hm := am_sl_mono hn
      refine va_new hx hb hts (am_lay h9) (am_ty ci) (am_ty_ok h9) hown (hts _ ((am_L_ok hF).1 h9)) (hts _ hi.1) (hts _ hi.2) K.1 hP (am_ws_D _ _ _ _) hS hA (am_cl_get h9) (fs := (List.range (am_nf ci)).map (fun j => am_tr b0 adK (am_dv hp.1 j))) (fun j hj => ?_) (by omega) (by omega) hd (fun q H1 q1 q2 q3 => ?_)
      · have ed : am_dv hp.1 j = defaultValue (am_ty ci j) := by unfold am_dv; rw [hk, Nat.add_comm]
        rw [vp_V, List.getD_eq_getElem?_getD, am_fs_get hj, ed]
        cases am_ty ci j <;> rfl
      · refine am_wsz (fun hz => ?_)
        have hq := am_fresh q1 q2 (by omega)
        subst hq
        rw [← h2, ← am_ce_obj (cA := cA) hk, ← am_ws_push] at q1
        refine W.cs (cells' := hp.1 + 1 - n0) (slots' := am_sl (hp.1 + 1) - am_sl n0) (by omega) (by omega) ?_
        have kk2 := kk _ _ _ q1 q3 hL
        rw [List.map_cons, show am_tr b0 adK (.ref hp.1) = .ref (b0 + hp.1) from congrArg Value.ref (am_adr_lt (by omega))] at kk2
        exact kk2
  | newarray ty =>
    obtain rfl : len = 2 := by simpa [am_ok] using hok
    cases ty with
    | int =>
      obtain ⟨x, r, rfl, h⟩ := am_1i_some hst
      obtain ⟨⟨hk, hx2⟩, h⟩ := am_ite_some h
      cases h
      dsimp only at hR1 hR2
      have h12 := am_kd_lt (a := hp.1) (by omega)
      have hle := (am_kd_in h12).2.1
      have e1 : am_sl (hp.1 + 1) = am_sl hp.1 + (am_kd hp.1).2 := rfl
      have hm := am_sl_mono hn
      subst hx2
      refine va_newa (atype := .int) (N' := (am_kd hp.1).2) (a0 := ((am_kd hp.1).2, .inl (fun _ => 0))) hx hb (hts _ am_misc.2.2.2.2.2) rfl K.1 hP (am_ws_D _ _ _ _) hS hA (fun _ => rfl) (nI_pos (by omega)) (nI_clamp (by omega)) (Nat.le_trans (Nat.mul_le_mul_right _ hle) (by decide)) (by omega) (by omega) hd (fun q cB H1 q0 q1 q2 q3 => ?_)
      have hcB : cB = cA 0 := by
        have g1 := (q0.2 4 _ rfl).2
        have g2 := (K.1.2 0 _ rfl).2
        exact Option.some.inj (g1.symm.trans g2)
      subst hcB
      refine am_wsz (fun hz => ?_)
      have hq := am_fresh q1 q2 (by omega)
      subst hq
      have ed : am_ce b0 adK cA hp.1 (am_dv hp.1) = .inl (cA 0, (am_kd hp.1).2, .inl (fun _ => 0)) := by
        rw [am_ce_0 hk]
        congr 4
        funext j
        unfold am_dv
        rw [hk]
        rfl
      rw [← ed, ← am_ws_push] at q1
      refine W.cs (cells' := hp.1 + 1 - n0) (slots' := am_sl (hp.1 + 1) - am_sl n0) (by omega) (by omega) ?_
      have kk2 := kk _ _ _ q1 q3 hL
      rw [List.map_cons, show am_tr b0 adK (.ref hp.1) = .ref (b0 + hp.1) from congrArg Value.ref (am_adr_lt (by omega))] at kk2
      exact kk2
    | _ => cases hst
  | anewarray idx =>
    obtain rfl : len = 3 := by simpa [am_ok] using hok
    obtain ⟨x, r, rfl, h⟩ := am_1i_some hst
    cases hF : am_lkL y.1 idx with
    | none => rw [hF] at h; cases h
    | some ci =>
      rw [hF] at h
      obtain ⟨⟨hx2, hk⟩, h⟩ := am_ite_some h
      cases h
      dsimp only at hR1 hR2
      have h12 := am_kd_lt (a := hp.1) (by omega)
      have hle := (am_kd_in h12).2.1
      have e1 : am_sl (hp.1 + 1) = am_sl hp.1 + (am_kd hp.1).2 := rfl
      have hm := am_sl_mono hn
      subst hx2
      have key : ∀ (t : Nat) (C : String), (am_kd hp.1).1 = t → 1 ≤ t → t ≤ 3 → Cond.classLink (am_cn y.1) idx C ∈ am_tG → va_AO C s → (am_tys cA)[t]? = some (cA t, .object C) → W p l e R s m args below meth c H locs (hp.1 - n0) (am_sl hp.1 - am_sl n0) Q (F0 m pc ls (.int (am_kd hp.1).2.toInt32 :: r.map (am_tr b0 adK))) := by
        intro t C ht h1 h3 hw hao hty
        refine va_newq (N' := (am_kd hp.1).2) hx hb hown (hts _ hw) hao K.1 hP (am_ws_D _ _ _ _) hS hA (nI_pos (by omega)) (nI_clamp (by omega)) (by omega) (by omega) (by omega) hd (fun q cB H1 q0 q1 q2 q3 => ?_)
        have hcB : cB = cA t := by
          obtain ⟨_, _, _, _, _, g1⟩ := (q0.2 4 _ rfl).2
          obtain ⟨_, _, _, _, _, g2⟩ := (K.1.2 t _ hty).2
          exact Option.some.inj (g1.symm.trans g2)
        subst hcB
        refine am_wsz (fun hz => ?_)
        have hq := am_fresh q1 q2 (by omega)
        subst hq
        have ed : am_ce b0 adK cA hp.1 (am_dv hp.1) = .inl (cA t, (am_kd hp.1).2, .inr (.inr (.inr (.inr (fun _ => none))))) := by
          rw [am_ce_q ht h1 h3]
          congr 7
          funext j
          unfold am_dv
          rw [ht]
          match t, h1, h3 with
          | 1, _, _ => rfl
          | 2, _, _ => rfl
          | 3, _, _ => rfl
        rw [← ed, ← am_ws_push] at q1
        refine W.cs (cells' := hp.1 + 1 - n0) (slots' := am_sl (hp.1 + 1) - am_sl n0) (by omega) (by omega) ?_
        have kk2 := kk _ _ _ q1 q3 hL
        rw [List.map_cons, show am_tr b0 adK (.ref hp.1) = .ref (b0 + hp.1) from congrArg Value.ref (am_adr_lt (by omega))] at kk2
        exact kk2
      rcases hk with ⟨rfl, hk⟩ | ⟨rfl, hk⟩ | ⟨rfl, hk⟩
      · exact key 1 _ hk (by decide) (by decide) ((am_L_ok hF).1 (by decide)) K.2.2.1.1 rfl
      · exact key 2 _ hk (by decide) (by decide) ((am_L_ok hF).1 (by decide)) K.2.2.1.2.1 rfl
      · exact key 3 _ hk (by decide) (by decide) ((am_L_ok hF).2 (by decide)) K.2.2.1.2.2 rfl
  | invokespecial idx =>
    obtain rfl : len = 3 := by simpa [am_ok] using hok
    simp only [am_stp] at hst
    split at hst
    · rename_i hF
      obtain ⟨a, r, rfl, h⟩ := am_1r_some hst
      obtain ⟨hr, h⟩ := am_ite_some h
      cases h
      obtain ⟨w, hw⟩ := am_X_ok hF
      have hw := am_wd_in hw
      refine W.objInit hx hb hown (hts _ hw) (hts _ am_misc.1) (hts _ am_misc.2.1) rfl (by rw [hml]; exact hL.1.trans hal) rfl hd (by omega) (by show 2 * 0 + _ + 12 ≤ _; rw [am_map_cat]; omega) ?_
      exact kk _ _ _ hP hS hL
    · cases hst
  | invokevirtual idx =>
    obtain rfl : len = 3 := by simpa [am_ok] using hok
    simp only [am_stp] at hst
    split at hst
    · rename_i hF
      obtain ⟨a, r, rfl, h⟩ := am_1r_some hst
      obtain ⟨⟨ha, hb2, hr⟩, h⟩ := am_ite_some h
      cases h
      have ha : @LE.le Nat _ 1000000 a := ha
      have hb2 : @LT.lt Nat _ a 1000015 := hb2
      obtain ⟨t, rfl⟩ : ∃ t : Nat, a = 1000000 + t := ⟨a - 1000000, (Nat.add_sub_cancel' ha).symm⟩
      obtain ⟨w, hw⟩ := am_X_ok hF
      have hw := am_wd_in hw
      have kk2 := kk _ _ _ hP hS hL
      rw [Nat.add_sub_cancel_left] at kk2
      rw [List.map_cons, show am_tr b0 adK (.ref (1000000 + t)) = .ref (adK t) from congrArg Value.ref am_adr_s]
      exact hlen t (by omega) (pc := pc) (idx := idx) (r.map (am_tr b0 adK)) H locs ls hS (hL.1.trans hal) hw hd (by rw [am_map_cat]; exact hr) (by omega) (by omega) kk2
    · rename_i hF
      split at hst
      · rename_i i a r
        obtain ⟨⟨ha, hb2, hin, hr⟩, h⟩ := am_ite_some hst
        cases h
        have ha : @LE.le Nat _ 1000000 a := ha
        have hb2 : @LT.lt Nat _ a 1000015 := hb2
        obtain ⟨t, rfl⟩ : ∃ t : Nat, a = 1000000 + t := ⟨a - 1000000, (Nat.add_sub_cancel' ha).symm⟩
        obtain ⟨w, hw⟩ := am_X_ok hF
        have hw := am_wd_in hw
        have kk2 := kk _ _ _ hP hS hL
        rw [Nat.add_sub_cancel_left] at kk2 hin
        rw [List.map_cons, List.map_cons, show am_tr b0 adK (.ref (1000000 + t)) = .ref (adK t) from congrArg Value.ref am_adr_s]
        exact hchr t (by omega) (pc := pc) (idx := idx) (am_in_iff.mp hin) (r.map (am_tr b0 adK)) H locs ls hS (hL.1.trans hal) hw hd (by rw [am_map_cat]; exact hr) (by omega) (by omega) kk2
      · cases hst
    · cases hst
  | invokestatic idx =>
    obtain rfl : len = 3 := by simpa [am_ok] using hok
    simp only [am_stp] at hst
    split at hst
    · rename_i hF
      split at hst
      · rename_i n dp b sp a r
        obtain ⟨⟨ha, hb2, hka, hkb, h1, h2, h3, h4, h5, hr⟩, h⟩ := am_ite_some hst
        cases h
        obtain ⟨w, hw⟩ := am_X_ok hF
        have hw := am_wd_in hw
        have hg := am_ws_get (b0 := b0) (adK := adK) (cA := cA) ha
        rw [am_ce_0 hka] at hg
        have hg2 := am_ws_get (b0 := b0) (adK := adK) (cA := cA) hb2
        rw [am_ce_0 hkb] at hg2
        rw [List.map_cons, List.map_cons, List.map_cons, List.map_cons, List.map_cons, show am_tr b0 adK (.ref a) = .ref (b0 + a) from congrArg Value.ref (am_adr_lt (by omega)), show am_tr b0 adK (.ref b) = .ref (b0 + b) from congrArg Value.ref (am_adr_lt (by omega))]
        refine va_copyi (ty := .int) hx hb (hml.trans (hL.1.trans hal).symm) hown (hts _ hw) (hts _ am_misc.2.2.1) (hts _ am_misc.2.2.2.1) (hts _ am_misc.2.2.2.2.1) K.1 hP (am_ws_D _ _ _ _) hS a b 0 0 hg hg2 rfl rfl rfl h1 h2 h3 h4 h5 (fun _ _ => rfl) (by omega) (by rw [am_map_cat]; have := am_nfw; omega) hd (fun H1 locs1 q1 q2 q3 => ?_)
        have hset : (am_ws b0 adK cA hp).set b (b0 + b, .inl (cA 0, (am_kd b).2, .inl (va_cpy (fun j => am_ai (hp.2 a j)) (fun j => am_ai (hp.2 b j)) sp.toNatClampNeg dp.toNatClampNeg n.toNatClampNeg))) = am_ws b0 adK cA (hp.1, am_cpy hp.2 a sp.toNatClampNeg b dp.toNatClampNeg n.toNatClampNeg) := by
          refine am_ws_set hb2 ?_ (fun j hj => ?_)
          · rw [am_ce_0 hkb]
            congr 5
            funext j
            by_cases e : dp.toNatClampNeg ≤ j ∧ j < dp.toNatClampNeg + n.toNatClampNeg <;> simp [va_cpy, am_cpy, e]
          · funext k
            simp [am_cpy, hj]
        rw [hset] at q1
        exact kk _ _ _ q1 q3 hL
      · cases hst
    · cases hst
  | _ => cases hst
end AMS
