/-! a method's contract out of the small machine -/
theorem am_inv_ok {own : Nat} {i : Instr} {st as rest : List Value} {hp : am_H} {y' : am_MI} (h : am_inv own i st hp = some (y', as, rest)) : (∃ n, am_Y_t y' n = true) ∧ Cond.code y'.2.1 y'.2.2.1 y'.2.2.2.1 y'.2.2.2.2 ∈ am_tG := by
  have key : ∀ idx n md, am_lkM own idx = some (y', n, md) → (∃ n, am_Y_t y' n = true) ∧ Cond.code y'.2.1 y'.2.2.1 y'.2.2.2.1 y'.2.2.2.2 ∈ am_tG := by
    intro idx n md hl
    obtain ⟨ws, t1, t2⟩ := am_M_ok hl
    exact ⟨⟨n, t2⟩, (am_M_code t1).2⟩
  cases i with
  | invokestatic idx =>
    simp only [am_inv] at h
    split at h
    · rename_i hl
      split at h
      · cases h
        exact key _ _ _ hl
      · cases h
    · cases h
  | invokevirtual idx =>
    simp only [am_inv] at h
    split at h
    · rename_i hl
      split at h
      · split at h
        · cases h
          exact key _ _ _ hl
        · cases h
      · cases h
    · cases h
  | invokespecial idx =>
    simp only [am_inv] at h
    split at h
    · rename_i hl
      split at h
      · split at h
        · cases h
          exact key _ _ _ hl
        · cases h
      · cases h
    · cases h
  | _ => cases h
/-- the locals at a method's entry -/
theorem am_entry_args : ∀ (vs : List Value) (i : Nat), (∀ v ∈ vs, v.category = 1) → ∀ (k : Nat) (v : Value), vs[k]? = some v → (i + k, v) ∈ lv_args i vs := by
  intro vs
  induction vs with
  | nil => intro i h k v hv; simp at hv
  | cons w vs ih =>
    intro i h k v hv
    have hw := h w List.mem_cons_self
    cases k with
    | zero =>
      simp at hv
      subst hv
      exact List.mem_cons_self
    | succ k =>
      simp at hv
      have := ih (i + 1) (fun v hv => h v (List.mem_cons_of_mem _ hv)) k v hv
      rw [lv_args, if_neg (by omega)]
      refine List.mem_cons_of_mem _ ?_
      rw [show i + (k + 1) = i + 1 + k by omega]
      exact this
theorem am_sl_len : ∀ (vs : List Value), (∀ v ∈ vs, v.category = 1) → (lg_sl vs).length = vs.length := by
  intro vs
  induction vs with
  | nil => intro _; rfl
  | cons w vs ih =>
    intro h
    have hw := h w List.mem_cons_self
    have h2 := ih (fun v hv => h v (List.mem_cons_of_mem _ hv))
    unfold lg_sl at h2 ⊢
    rw [List.flatMap_cons, if_neg (by omega)]
    simp [h2]
theorem am_entry {b0 : Nat} {adK : Nat → Nat} {as : List Value} {n : Nat} (h1 : as.length ≤ n) (h2 : ∀ v ∈ as, v.category = 1) : am_LR b0 adK ((lg_sl (as.map (am_tr b0 adK)) ++ List.replicate (n - (lg_sl (as.map (am_tr b0 adK))).length) Slot.unset).toArray) (as ++ List.replicate (n - as.length) .null) := by
  have hc : ∀ v ∈ as.map (am_tr b0 adK), v.category = 1 := by
    intro v hv
    obtain ⟨w, hw, rfl⟩ := List.mem_map.mp hv
    rw [am_tr_cat]
    exact h2 w hw
  have hl : (lg_sl (as.map (am_tr b0 adK))).length ≤ n := by rw [am_sl_len _ hc]; simpa using h1
  obtain ⟨q1, q2, q3⟩ := lv_entry (as.map (am_tr b0 adK)) (n := n) hl
  refine ⟨by rw [q1]; simp; omega, q2, fun k v hk hv => ?_⟩
  have hk2 : as[k]? = some v := by
    rcases Nat.lt_or_ge k as.length with h | h
    · rw [List.getElem?_append_left h] at hk
      exact hk
    · rw [List.getElem?_append_right h] at hk
      exact absurd (List.eq_of_mem_replicate (List.mem_of_getElem? hk)) hv
  refine ⟨h2 v (List.mem_of_getElem? hk2), ?_⟩
  have := am_entry_args (as.map (am_tr b0 adK)) 0 hc k (am_tr b0 adK v) (by rw [List.getElem?_map, hk2]; rfl)
  rw [Nat.zero_add] at this
  exact q3 (k, am_tr b0 adK v) this
section AMM
variable {p : Program} {l : Launch} {e : Env} {R : Room} {s : State} {m : MethodId} {args : Array Value} {below : List Frame} {meth : Method} {c : Code} {Q : State → Prop}
variable {b0 n0 d : Nat} {adK adV : Nat → Nat} {cA : Nat → ClassId} {D : va_G} {y : am_MI}
/-- the texts' own methods, in every frame -/
def am_TX (l : Launch) (D : va_G) (b0 : Nat) (adK adV : Nat → Nat) (cA : Nat → ClassId) : Prop :=
  ∀ (p : Program) (e : Env) (R : Room) (s : State) (m : MethodId) (args : Array Value) (below : List Frame) (meth : Method) (c : Code) (Q : State → Prop) (y : am_MI), am_FX p s m args meth c y → am_KT D adK cA s → am_Z adK adV b0 s s.heap → 8 ≤ R.frames → 300 ≤ R.locals →
    am_lenW p l e R s m args below meth c Q b0 adK y ∧ am_chrW p l e R s m args below meth c Q b0 adK y
theorem am_soundR (TX : am_TX l D b0 adK adV cA) {E : am_E} (hE : ∀ y' as hp r hp', E y' as hp = some (r, hp') → (∃ n, am_Y_t y' n = true) → Cond.code y'.2.1 y'.2.2.1 y'.2.2.2.1 y'.2.2.2.2 ∈ am_tG → am_Mt l D b0 adK adV cA d y' as hp r hp') (hEle : ∀ y' as hp r hp', E y' as hp = some (r, hp') → hp.1 ≤ hp'.1)
    (F : am_FX p s m args meth c y) (K : am_KT D adK cA s) (Z : am_Z adK adV b0 s s.heap) (hsz : s.heap.size = b0 + n0) (hRf : d + 9 ≤ R.frames) (hRl : 100 * d + 500 ≤ R.locals) :
    ∀ (n pc : Nat) (al st : List Value) (hp : am_H) (z : Option Value × am_H), am_run n E y pc al st hp = some z → n0 ≤ hp.1 → z.2.1 - n0 ≤ R.cells → am_sl z.2.1 - am_sl n0 ≤ R.slots → al.length = y.2.2.2.1 →
      (∀ (i : Instr) (len pc' : Nat) (st' : List Value) (H' : Heap) (locs' : List Loc) (ls' : Array Slot), decode y.2.2.1 pc' = .ok (i, len) → am_ok i len = true → am_fin y.2.2.2.2 i st' = some z.1 → va_P D am_cl (am_ws b0 adK cA z.2) H' → va_S (fun q : Nat => b0 ≤ q) s.heap H' locs' → W p l e R s m args below meth c H' locs' (z.2.1 - n0) (am_sl z.2.1 - am_sl n0) Q (F0 m pc' ls' (st'.map (am_tr b0 adK)))) →
      ∀ (H : Heap) (locs : List Loc) (ls : Array Slot), va_P D am_cl (am_ws b0 adK cA hp) H → va_S (fun q : Nat => b0 ≤ q) s.heap H locs → am_LR b0 adK ls al → W p l e R s m args below meth c H locs (hp.1 - n0) (am_sl hp.1 - am_sl n0) Q (F0 m pc ls (st.map (am_tr b0 adK))) := by
  obtain ⟨tl, tc⟩ := TX p e R s m args below meth c Q y F K Z (by omega) (by omega)
  intro n
  induction n with
  | zero => intro pc al st hp z h; cases h
  | succ n ih =>
    intro pc al st hp z h hn h1 h2 hal fin H locs ls hP hS hL
    obtain ⟨i, len, hd, hok, ⟨hf, rfl⟩ | ⟨y', as, rest, r, hp', hi, he, h⟩ | ⟨pc', al', st', hp', hs, h⟩⟩ := am_run_step h
    · exact fin i len pc st H locs ls hd hok hf hP hS
    · have hle := hEle _ _ _ _ _ he
      have hle2 := am_run_le hEle _ _ _ _ _ _ h
      have hm := am_sl_mono hle2
      obtain ⟨hy, hcd⟩ := am_inv_ok hi
      refine am_soundC F K Z hsz hRf hRl hn hle hd hok hi (hE _ _ _ _ _ he hy hcd) hP hS (hL.1.trans hal) (by omega) (by omega) (fun H' locs' q1 q2 => ?_)
      exact ih _ _ _ _ _ h (by omega) h1 h2 hal fin H' locs' ls q1 q2 hL
    · obtain ⟨hal', hle⟩ := am_stp_al hs
      have hle2 := am_run_le hEle _ _ _ _ _ _ h
      have hm := am_sl_mono hle2
      refine am_sound1 F K Z tl tc hsz hn hd hok hs hP hS hL hal (by omega) (by omega) (by omega) (by omega) (fun H' locs' ls' q1 q2 q3 => ?_)
      exact ih _ _ _ _ _ h (by omega) h1 h2 (hal'.trans hal) fin H' locs' ls' q1 q2 q3
theorem am_met (TX : am_TX l D b0 adK adV cA) (f : Nat) : ∀ (d : Nat) (y : am_MI) (as : List Value) (hp : am_H) (r : Option Value) (hp' : am_H), am_ex f d y as hp = some (r, hp') → (∃ n, am_Y_t y n = true) → Cond.code y.2.1 y.2.2.1 y.2.2.2.1 y.2.2.2.2 ∈ am_tG → am_Mt l D b0 adK adV cA d y as hp r hp' := by
  intro d
  induction d with
  | zero => intro y as hp r hp' h; cases h
  | succ d ih =>
    intro y as hp r hp' h hY hcode
    rw [am_ex] at h
    simp only at h
    split at h
    · rename_i hc
      obtain ⟨n, hY⟩ := hY
      simp only [am_Y_t, Bool.and_eq_true, decide_eq_true_eq] at hY
      obtain ⟨c1, -, -, -, -, hpl⟩ := hY
      have hle := am_ex_le (f := f) d
      have hle2 := am_run_le hle _ _ _ _ _ _ h
      refine am_ofW (cc := y.2.2.1) (maxL := y.2.2.2.1) (ret := y.2.2.2.2) (am_pl_ok hpl) rfl ?_
      intro p e s m args below meth c s₁ B hml hv
      obtain ⟨rfl, hsz, hP, hK, hZ⟩ := hv
      have hts := atoms_spec (ws := am_wm y) B.pre
      have hown : s.vm.findClass (am_cn y.1) = some m.cls := by rw [← c1]; exact findClass_of_methodNamed B.named
      have hlocks := B.notSynchronized
      have hr := B.returns
      have hb := B.bytes
      have hx := B.exec
      have hname : meth.name = y.2.1.name := (name_of_methodNamed B.named B.method).1
      have hF : am_FX p s m (as.map (am_tr b0 adK)).toArray meth c y := ⟨hx, hb, hml, hown, fun w hw => hts w (List.mem_cons_of_mem _ hw), hname⟩
      rw [lg_entry_eq]
      have key := am_soundR (p := p) (e := e) (R := (headSpec (am_wm y) (am_rm (d + 1) hp hp')).room) (s := s) (m := m) (args := (as.map (am_tr b0 adK)).toArray) (below := below) (meth := meth) (c := c) (n0 := hp.1) (Q := MQ below (am_Qc D b0 adK cA r hp') (as.map (am_tr b0 adK)).toArray s (hp'.1 - hp.1) (am_sl hp'.1 - am_sl hp.1) (fun q : Nat => b0 ≤ q)) TX ih hle hF hK hZ hsz
        (by show d + 9 ≤ d + 1 + 8; omega) (by show 100 * d + 500 ≤ 100 * (d + 1) + 400; omega) f 0 _ _ hp (r, hp') h (Nat.le_refl _) (Nat.le_refl _) (Nat.le_refl _) (by simp; omega) ?_ s.heap [] _ hP va_S.rf (am_entry hc.1 hc.2)
      · rw [Nat.sub_self, Nat.sub_self] at key
        exact key
      · intro i len pc' st' H' locs' ls' hd hok hf q1 q2
        have hq : ∀ t : State, t.heap = H' → s.WarmedH t.vm → am_Qc D b0 adK cA r hp' (as.map (am_tr b0 adK)).toArray s (.returned (r.map (am_tr b0 adK))) t := fun t ht _ => ⟨rfl, by rw [ht]; exact q1, q2.F ht⟩
        cases i with
        | ireturn =>
          obtain rfl : len = 1 := by simpa [am_ok] using hok
          simp only [am_fin] at hf
          split at hf
          · rename_i x
            split at hf
            · rename_i hrt
              cases hf
              exact W.iret hx hb (hr.trans hrt) hq q2.2.2 hd
            · rename_i hrt
              split at hf
              · rename_i hx2
                cases hf
                exact W.zret (ty := .boolean) hx hb (hr.trans hrt) (by rcases hx2 with rfl | rfl <;> decide) hq q2.2.2 hd
              · cases hf
            · cases hf
          · cases hf
        | areturn =>
          obtain rfl : len = 1 := by simpa [am_ok] using hok
          simp only [am_fin] at hf
          split at hf
          · rename_i a
            split at hf
            · rename_i C hrt
              cases hf
              exact W.aret hx hb (hr.trans hrt) (Or.inl ⟨_, rfl⟩) (Or.inr ⟨_, rfl⟩) hq q2.2.2 hd
            · cases hf
          · cases hf
        | return_ =>
          obtain rfl : len = 1 := by simpa [am_ok] using hok
          simp only [am_fin] at hf
          split at hf
          · rename_i hrt
            cases hf
            exact W.vret hx hb (hr.trans hrt) hq q2.2.2 hd
          · cases hf
        | _ => cases hf
    · cases h
end AMM
