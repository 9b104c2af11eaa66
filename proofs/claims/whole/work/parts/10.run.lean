/-! runs of the small machine are runs of the machine -/
theorem am_stp_al {own : Nat} {ini : Bool} {i : Instr} {pc pc' : Nat} {al al' st st' : List Value} {hp hp' : am_H} (hst : am_stp own ini i pc al st hp = some (pc', al', st', hp')) : al'.length = al.length ∧ hp.1 ≤ hp'.1 := by
  cases i with
  | iload_n k =>
    obtain ⟨x, e, h⟩ := am_iv_some hst
    cases h; exact ⟨rfl, Nat.le_refl _⟩
  | iload k =>
    obtain ⟨x, e, h⟩ := am_iv_some hst
    cases h; exact ⟨rfl, Nat.le_refl _⟩
  | aload_n k =>
    obtain ⟨x, e, h⟩ := am_rv_some hst
    cases h; exact ⟨rfl, Nat.le_refl _⟩
  | aload k =>
    obtain ⟨x, e, h⟩ := am_rv_some hst
    cases h; exact ⟨rfl, Nat.le_refl _⟩
  | istore_n k =>
    obtain ⟨x, r, rfl, h⟩ := am_1i_some hst
    obtain ⟨hc, h⟩ := am_ite_some h
    cases h; exact ⟨List.length_set, Nat.le_refl _⟩
  | istore k =>
    obtain ⟨x, r, rfl, h⟩ := am_1i_some hst
    obtain ⟨hc, h⟩ := am_ite_some h
    cases h; exact ⟨List.length_set, Nat.le_refl _⟩
  | astore_n k =>
    obtain ⟨x, r, rfl, h⟩ := am_1r_some hst
    obtain ⟨hc, h⟩ := am_ite_some h
    cases h; exact ⟨List.length_set, Nat.le_refl _⟩
  | astore k =>
    obtain ⟨x, r, rfl, h⟩ := am_1r_some hst
    obtain ⟨hc, h⟩ := am_ite_some h
    cases h; exact ⟨List.length_set, Nat.le_refl _⟩
  | iinc k n =>
    obtain ⟨x, e, h⟩ := am_iv_some hst
    cases h; exact ⟨List.length_set, Nat.le_refl _⟩
  | iconst n =>
    cases hst; exact ⟨rfl, Nat.le_refl _⟩
  | bipush n =>
    cases hst; exact ⟨rfl, Nat.le_refl _⟩
  | sipush n =>
    cases hst; exact ⟨rfl, Nat.le_refl _⟩
  | ldc idx =>
    simp only [am_stp] at hst
    split at hst
    · cases hst; exact ⟨rfl, Nat.le_refl _⟩
    · split at hst
      · cases hst; exact ⟨rfl, Nat.le_refl _⟩
      · cases hst
  | ldc_w idx =>
    simp only [am_stp] at hst
    split at hst
    · cases hst; exact ⟨rfl, Nat.le_refl _⟩
    · split at hst
      · cases hst; exact ⟨rfl, Nat.le_refl _⟩
      · cases hst
  | dup =>
    simp only [am_stp] at hst
    split at hst
    · obtain ⟨hc, h⟩ := am_ite_some hst
      cases h; exact ⟨rfl, Nat.le_refl _⟩
    · cases hst
  | dup2 =>
    simp only [am_stp] at hst
    split at hst
    · obtain ⟨hc, h⟩ := am_ite_some hst
      cases h; exact ⟨rfl, Nat.le_refl _⟩
    · cases hst
  | pop =>
    simp only [am_stp] at hst
    split at hst
    · obtain ⟨hc, h⟩ := am_ite_some hst
      cases h; exact ⟨rfl, Nat.le_refl _⟩
    · cases hst
  | iadd =>
    obtain ⟨x, z, r, rfl, h⟩ := am_2i_some hst
    cases h; exact ⟨rfl, Nat.le_refl _⟩
  | isub =>
    obtain ⟨x, z, r, rfl, h⟩ := am_2i_some hst
    cases h; exact ⟨rfl, Nat.le_refl _⟩
  | imul =>
    obtain ⟨x, z, r, rfl, h⟩ := am_2i_some hst
    cases h; exact ⟨rfl, Nat.le_refl _⟩
  | iand =>
    obtain ⟨x, z, r, rfl, h⟩ := am_2i_some hst
    cases h; exact ⟨rfl, Nat.le_refl _⟩
  | ior =>
    obtain ⟨x, z, r, rfl, h⟩ := am_2i_some hst
    cases h; exact ⟨rfl, Nat.le_refl _⟩
  | ixor =>
    obtain ⟨x, z, r, rfl, h⟩ := am_2i_some hst
    cases h; exact ⟨rfl, Nat.le_refl _⟩
  | ishl =>
    obtain ⟨x, z, r, rfl, h⟩ := am_2i_some hst
    cases h; exact ⟨rfl, Nat.le_refl _⟩
  | ishr =>
    obtain ⟨x, z, r, rfl, h⟩ := am_2i_some hst
    cases h; exact ⟨rfl, Nat.le_refl _⟩
  | iushr =>
    obtain ⟨x, z, r, rfl, h⟩ := am_2i_some hst
    cases h; exact ⟨rfl, Nat.le_refl _⟩
  | idiv =>
    obtain ⟨x, z, r, rfl, h⟩ := am_2i_some hst
    split at h
    · cases h
    · cases h; exact ⟨rfl, Nat.le_refl _⟩
  | irem =>
    obtain ⟨x, z, r, rfl, h⟩ := am_2i_some hst
    split at h
    · cases h
    · cases h; exact ⟨rfl, Nat.le_refl _⟩
  | i2b =>
    obtain ⟨x, r, rfl, h⟩ := am_1i_some hst
    cases h; exact ⟨rfl, Nat.le_refl _⟩
  | i2s =>
    obtain ⟨x, r, rfl, h⟩ := am_1i_some hst
    cases h; exact ⟨rfl, Nat.le_refl _⟩
  | i2l =>
    obtain ⟨x, r, rfl, h⟩ := am_1i_some hst
    cases h; exact ⟨rfl, Nat.le_refl _⟩
  | ladd =>
    obtain ⟨x, z, r, rfl, h⟩ := am_2l_some hst
    cases h; exact ⟨rfl, Nat.le_refl _⟩
  | lcmp =>
    obtain ⟨x, z, r, rfl, h⟩ := am_2l_some hst
    cases h; exact ⟨rfl, Nat.le_refl _⟩
  | goto off =>
    simp only [am_stp] at hst
    obtain ⟨t, ht, h⟩ := am_tg_some hst
    cases h; exact ⟨rfl, Nat.le_refl _⟩
  | if_icmp cd off =>
    obtain ⟨x, z, r, rfl, h⟩ := am_2i_some hst
    obtain ⟨t, ht, h⟩ := am_tg_some h
    split at h
    · cases h; exact ⟨rfl, Nat.le_refl _⟩
    · cases h; exact ⟨rfl, Nat.le_refl _⟩
  | ifCond cd off =>
    obtain ⟨x, r, rfl, h⟩ := am_1i_some hst
    obtain ⟨t, ht, h⟩ := am_tg_some h
    split at h
    · cases h; exact ⟨rfl, Nat.le_refl _⟩
    · cases h; exact ⟨rfl, Nat.le_refl _⟩
  | tableswitch d lo hi offs =>
    obtain ⟨x, r, rfl, h⟩ := am_1i_some hst
    split at h
    · obtain ⟨t, ht, h⟩ := am_tg_some h
      cases h; exact ⟨rfl, Nat.le_refl _⟩
    · split at h
      · obtain ⟨t, ht, h⟩ := am_tg_some h
        cases h; exact ⟨rfl, Nat.le_refl _⟩
      · cases h
  | lookupswitch d ps =>
    obtain ⟨x, r, rfl, h⟩ := am_1i_some hst
    obtain ⟨hc, h⟩ := am_ite_some h
    obtain ⟨t, ht, h⟩ := am_tg_some h
    cases h; exact ⟨rfl, Nat.le_refl _⟩
  | getfield idx =>
    obtain ⟨x, r, rfl, h⟩ := am_1r_some hst
    split at h
    · obtain ⟨hc, h⟩ := am_ite_some h
      cases h; exact ⟨rfl, Nat.le_refl _⟩
    · cases h
  | putfield idx =>
    simp only [am_stp] at hst
    split at hst
    · split at hst
      · obtain ⟨hc, h⟩ := am_ite_some hst
        cases h; exact ⟨rfl, Nat.le_refl _⟩
      · cases hst
    · cases hst
  | iaload =>
    simp only [am_stp] at hst
    split at hst
    · obtain ⟨hc, h⟩ := am_ite_some hst
      split at h
      · cases h; exact ⟨rfl, Nat.le_refl _⟩
      · cases h
    · cases hst
  | aaload =>
    simp only [am_stp] at hst
    split at hst
    · obtain ⟨hc, h⟩ := am_ite_some hst
      split at h
      · cases h; exact ⟨rfl, Nat.le_refl _⟩
      · cases h
    · cases hst
  | iastore =>
    simp only [am_stp] at hst
    split at hst
    · obtain ⟨hc, h⟩ := am_ite_some hst
      cases h; exact ⟨rfl, Nat.le_refl _⟩
    · cases hst
  | aastore =>
    simp only [am_stp] at hst
    split at hst
    · obtain ⟨hc, h⟩ := am_ite_some hst
      cases h; exact ⟨rfl, Nat.le_refl _⟩
    · cases hst
  | arraylength =>
    obtain ⟨x, r, rfl, h⟩ := am_1r_some hst
    obtain ⟨hc, h⟩ := am_ite_some h
    cases h; exact ⟨rfl, Nat.le_refl _⟩
  | new idx =>
    simp only [am_stp] at hst
    split at hst
    · obtain ⟨hc, h⟩ := am_ite_some hst
      cases h; exact ⟨rfl, Nat.le_succ _⟩
    · cases hst
  | newarray ty =>
    cases ty with
    | int =>
      obtain ⟨x, r, rfl, h⟩ := am_1i_some hst
      obtain ⟨hc, h⟩ := am_ite_some h
      cases h; exact ⟨rfl, Nat.le_succ _⟩
    | _ => cases hst
  | anewarray idx =>
    obtain ⟨x, r, rfl, h⟩ := am_1i_some hst
    split at h
    · obtain ⟨hc, h⟩ := am_ite_some h
      cases h; exact ⟨rfl, Nat.le_succ _⟩
    · cases h
  | invokespecial idx =>
    simp only [am_stp] at hst
    split at hst
    · obtain ⟨x, r, rfl, h⟩ := am_1r_some hst
      obtain ⟨hc, h⟩ := am_ite_some h
      cases h; exact ⟨rfl, Nat.le_refl _⟩
    · cases hst
  | invokevirtual idx =>
    simp only [am_stp] at hst
    split at hst
    · obtain ⟨x, r, rfl, h⟩ := am_1r_some hst
      obtain ⟨hc, h⟩ := am_ite_some h
      cases h; exact ⟨rfl, Nat.le_refl _⟩
    · split at hst
      · obtain ⟨hc, h⟩ := am_ite_some hst
        cases h; exact ⟨rfl, Nat.le_refl _⟩
      · cases hst
    · cases hst
  | invokestatic idx =>
    simp only [am_stp] at hst
    split at hst
    · split at hst
      · obtain ⟨hc, h⟩ := am_ite_some hst
        cases h; exact ⟨rfl, Nat.le_refl _⟩
      · cases hst
    · cases hst
  | _ => cases hst
/-- what a run's step is -/
theorem am_run_step {n : Nat} {E : am_E} {y : am_MI} {pc : Nat} {al st : List Value} {hp : am_H} {z : Option Value × am_H} (h : am_run (n + 1) E y pc al st hp = some z) : ∃ i len, decode y.2.2.1 pc = .ok (i, len) ∧ am_ok i len = true ∧
    ((am_fin y.2.2.2.2 i st = some z.1 ∧ hp = z.2) ∨ (∃ y' as rest r hp', am_inv y.1 i st hp = some (y', as, rest) ∧ E y' as hp = some (r, hp') ∧ am_run n E y (pc + 3) al (r.toList ++ rest) hp' = some z) ∨ ∃ pc' al' st' hp', am_stp y.1 (y.2.1.name == "<init>") i pc al st hp = some (pc', al', st', hp') ∧ am_run n E y pc' al' st' hp' = some z) := by
  rw [am_run] at h
  split at h
  · cases h
  · rename_i i len hd
    split at h
    · cases h
    · rename_i hok
      have hok : am_ok i len = true := by simpa using hok
      refine ⟨i, len, hd, hok, ?_⟩
      split at h
      · rename_i r hf
        cases h
        exact Or.inl ⟨hf, rfl⟩
      · split at h
        · rename_i y' as rest hi
          split at h
          · rename_i r hp' he
            exact Or.inr (Or.inl ⟨y', as, rest, r, hp', hi, he, h⟩)
          · cases h
        · split at h
          · rename_i pc' al' st' hp' hs
            exact Or.inr (Or.inr ⟨pc', al', st', hp', hs, h⟩)
          · cases h
theorem am_run_le {E : am_E} {y : am_MI} (hE : ∀ y' as hp r hp', E y' as hp = some (r, hp') → hp.1 ≤ hp'.1) : ∀ (n pc : Nat) (al st : List Value) (hp : am_H) (z : Option Value × am_H), am_run n E y pc al st hp = some z → hp.1 ≤ z.2.1 := by
  intro n
  induction n with
  | zero => intro pc al st hp z h; cases h
  | succ n ih =>
    intro pc al st hp z h
    obtain ⟨i, len, hd, hok, ⟨hf, e⟩ | ⟨y', as, rest, r, hp', hi, he, h⟩ | ⟨pc', al', st', hp', hs, h⟩⟩ := am_run_step h
    · rw [e]; exact Nat.le_refl _
    · exact Nat.le_trans (hE _ _ _ _ _ he) (ih _ _ _ _ _ h)
    · exact Nat.le_trans (am_stp_al hs).2 (ih _ _ _ _ _ h)
theorem am_ex_le {f : Nat} : ∀ (d : Nat) (y : am_MI) (as : List Value) (hp : am_H) (r : Option Value) (hp' : am_H), am_ex f d y as hp = some (r, hp') → hp.1 ≤ hp'.1 := by
  intro d
  induction d with
  | zero => intro y as hp r hp' h; cases h
  | succ d ih =>
    intro y as hp r hp' h
    rw [am_ex] at h
    simp only at h
    split at h
    · exact am_run_le ih f 0 _ _ hp _ h
    · cases h
/-- rooms, words, starts and ends -/
def am_rm (d : Nat) (hp hp' : am_H) : Room := { frames := d + 8, cells := hp'.1 - hp.1, slots := am_sl hp'.1 - am_sl hp.1, locals := 100 * d + 400 }
def am_wm (y : am_MI) : List Cond := .code y.2.1 y.2.2.1 y.2.2.2.1 y.2.2.2.2 :: am_tG
def am_Pc (D : va_G) (b0 : Nat) (adK adV : Nat → Nat) (cA : Nat → ClassId) (as : List Value) (hp : am_H) : Array Value → State → Prop := fun v U => v = (as.map (am_tr b0 adK)).toArray ∧ U.heap.size = b0 + hp.1 ∧ va_P D am_cl (am_ws b0 adK cA hp) U.heap ∧ am_KT D adK cA U ∧ am_Z adK adV b0 U U.heap
def am_Qc (D : va_G) (b0 : Nat) (adK : Nat → Nat) (cA : Nat → ClassId) (r : Option Value) (hp' : am_H) : Array Value → State → Outcome → State → Prop := fun _ st oc t => oc = .returned (r.map (am_tr b0 adK)) ∧ va_P D am_cl (am_ws b0 adK cA hp') t.heap ∧ va_F (fun q : Nat => b0 ≤ q) st t
def am_Mt (l : Launch) (D : va_G) (b0 : Nat) (adK adV : Nat → Nat) (cA : Nat → ClassId) (d : Nat) (y : am_MI) (as : List Value) (hp : am_H) (r : Option Value) (hp' : am_H) : Prop :=
  Met l y.2.1 (am_wm y) (am_rm d hp hp') (am_Pc D b0 adK adV cA as hp) (am_Qc D b0 adK cA r hp') (hp'.1 - hp.1) (am_sl hp'.1 - am_sl hp.1) (fun q : Nat => b0 ≤ q)
theorem am_Pc_blind {D : va_G} {b0 : Nat} {adK adV : Nat → Nat} {cA : Nat → ClassId} {as : List Value} {hp : am_H} : FrameBlind (am_Pc D b0 adK adV cA as hp) := by
  intro a U g mk ⟨q0, q1, q2, q3, q4⟩
  exact ⟨q0, q1, q2, am_KT.same (s := U) (U := U.calling g mk a) rfl q3, am_Z.moved (u := U) (U := U.calling g mk a) (Vm.Alike.refl _) q4⟩
theorem am_Hsz {D : va_G} {b0 n0 : Nat} {adK : Nat → Nat} {cA : Nat → ClassId} {hp : am_H} {H H0 : Heap} {locs : List Loc} (hP : va_P D am_cl (am_ws b0 adK cA hp) H) (hS : va_S (fun q : Nat => b0 ≤ q) H0 H locs) (h0 : H0.size = b0 + n0) (hn : n0 ≤ hp.1) (hz : H.size ≤ b0 + hp.1) : H.size = b0 + hp.1 := by
  rcases Nat.eq_zero_or_pos hp.1 with h | h
  · have := hS.1
    omega
  · have hg := am_ws_get (b0 := b0) (adK := adK) (cA := cA) (hp := hp) (i := hp.1 - 1) (by omega)
    have := (hP _ _ hg).lt
    simp only at this
    omega
theorem am_good {y : am_MI} (hc : Cond.code y.2.1 y.2.2.1 y.2.2.2.1 y.2.2.2.2 ∈ am_tG) : GoodIn am_tG (am_wm y) := by
  intro w hw
  rcases List.mem_cons.mp hw with rfl | hw
  · exact ⟨hc, good_of_word (am_tG_good _ hc)⟩
  · exact ⟨hw, good_of_word (am_tG_good _ hw)⟩
/-- a constructor hands nothing back -/
def am_R_t (e : am_ME) : Bool := !(decide (e.2.2.2.2.1 = 2) || decide (e.2.2.2.2.1 = 5)) || decide (e.2.2.1.2.2.2.2 = none)
theorem am_R_c0 : am_M_0.all am_R_t = true := by decide +kernel
theorem am_R_c1 : am_M_1.all am_R_t = true := by decide +kernel
theorem am_R_c2 : am_M_2.all am_R_t = true := by decide +kernel
theorem am_R_c3 : am_M_3.all am_R_t = true := by decide +kernel
theorem am_R_c4 : am_M_4.all am_R_t = true := by decide +kernel
theorem am_R_c5 : am_M_5.all am_R_t = true := by decide +kernel
theorem am_R_c6 : am_M_6.all am_R_t = true := by decide +kernel
theorem am_R_c7 : am_M_7.all am_R_t = true := by decide +kernel
theorem am_R_c8 : am_M_8.all am_R_t = true := by decide +kernel
theorem am_R_c9 : am_M_9.all am_R_t = true := by decide +kernel
theorem am_R_all (own : Nat) : (am_M own).all am_R_t = true := by
  match own with
  | 0 => exact am_R_c0
  | 1 => exact am_R_c1
  | 2 => exact am_R_c2
  | 3 => exact am_R_c3
  | 4 => exact am_R_c4
  | 5 => exact am_R_c5
  | 6 => exact am_R_c6
  | 7 => exact am_R_c7
  | 8 => exact am_R_c8
  | 9 => exact am_R_c9
  | k + 10 => rfl
theorem am_init_ret {own idx n md : Nat} {y : am_MI} (h : am_lkM own idx = some (y, n, md)) (hm : md = 2 ∨ md = 5) : y.2.2.2.2 = none := by
  unfold am_lkM at h
  rw [Option.map_eq_some_iff] at h
  obtain ⟨e, h1, h2⟩ := h
  have h4 := List.all_eq_true.mp (am_R_all own) e (List.mem_of_find?_eq_some h1)
  obtain ⟨e1, e2, e3, e4, e5, e6⟩ := e
  cases h2
  simp only [am_R_t, Bool.or_eq_true, Bool.not_eq_true', Bool.or_eq_false_iff, decide_eq_false_iff_not, decide_eq_true_eq] at h4
  rcases h4 with h4 | h4
  · rcases hm with hm | hm
    · exact absurd hm h4.1
    · exact absurd hm h4.2
  · exact h4
section AMR
variable {p : Program} {l : Launch} {e : Env} {R : Room} {s : State} {m : MethodId} {args : Array Value} {below : List Frame} {meth : Method} {c : Code} {Q : State → Prop}
variable {b0 n0 d : Nat} {adK adV : Nat → Nat} {cA : Nat → ClassId} {D : va_G} {y : am_MI}
theorem am_call {H : Heap} {locs : List Loc} {cells slots mc ms pc : Nat} {ls : Array Slot} {st0 rest : List Value} {Qa : State → Outcome → State → Prop} (hr : va_Run p l e R s m args below meth c H locs cells slots mc ms (F0 m pc ls st0) rest Qa (fun q : Nat => b0 ≤ q)) (hS : va_S (fun q : Nat => b0 ≤ q) s.heap H locs)
    (kk : ∀ (v : Option Value) (st₀ t : State) (L : List Loc), st₀.heap = H → Qa st₀ (.returned v) t → (va_F (fun q : Nat => b0 ≤ q) st₀ t → va_S (fun q : Nat => b0 ≤ q) s.heap t.heap (locs ++ L)) → W p l e R s m args below meth c t.heap (locs ++ L) (cells + mc) (slots + ms) Q (F0 m (pc + 3) ls (v.toList ++ rest))) : W p l e R s m args below meth c H locs cells slots Q (F0 m pc ls st0) := by
  intro T hT X
  obtain ⟨v, st₀, t, T', L, h0, X', hL, e1, e2, hq, st⟩ := hr T hT X
  have hF2 : va_F (fun q : Nat => b0 ≤ q) st₀ t → va_S (fun q : Nat => b0 ≤ q) s.heap t.heap (locs ++ L) := by
    intro hF
    obtain ⟨hz, hk⟩ := hF
    rw [h0] at hz hk
    refine ⟨Nat.le_trans hS.1 hz, fun q h1 h2 => (hk q (Nat.lt_of_lt_of_le h1 hS.1) h2).trans (hS.2.1 q h1 h2), fun q hq => ?_⟩
    rcases List.mem_append.mp hq with h | h
    · exact hS.2.2 q h
    · exact hL q h
  obtain ⟨t2, a1, b1⟩ := kk v st₀ t L h0 hq hF2 T' e1 X'
  exact ⟨t2, st t2 a1, b1⟩
theorem am_ofW {y : MethodName} {ws ws' : List Cond} {rm : Room} {Pc : Array Value → State → Prop} {Qc : Array Value → State → Outcome → State → Prop} {mc ms : Nat} {free : Addr → Prop} {cc : ByteArray} {maxL : Nat} {ret : Option FieldType}
    (hy : plainFor y = true) (hw : ws = Cond.code y cc maxL ret :: ws')
    (body : ∀ p e s m args below meth c s₁, BodyLoose p l y (headSpec ws rm) cc maxL ret e s m args below meth c s₁ → c.maxLocals = maxL → Pc args s →
      W p l e (headSpec ws rm).room s m args below meth c s.heap [] 0 0 (MQ below Qc args s mc ms free) (entryFrame m args maxL)) : Met l y ws rm Pc Qc mc ms free := by
  refine MetFree.of_bodySF (code := cc) (maxLocals := maxL) (ret := ret) hy ?_ ?_
  · intro args s m h hn
    obtain ⟨meth, c, h1, h2, h3, h4, h5, h6, -, -⟩ := Cond.code_spec hn (atoms_spec (ws := ws) h _ (by rw [hw]; exact List.mem_cons_self))
    exact ⟨meth, c, h1, h2, h3, h4, h5, h6⟩
  · intro p e s m args below meth c s₁ B hml hP _
    have hh0 : s₁.heap = s.heap := by rw [B.state]; rfl
    obtain ⟨t, a1, o, b1, b2, b3⟩ := body p e s m args below meth c s₁ B hml hP s₁ hh0 (Stand.of_body B)
    exact ⟨t, o, a1, b1, b2, ⟨b3.1, b3.2⟩⟩
set_option maxHeartbeats 2000000 in
/-- a call of a method of the tables, by its contract -/
theorem am_soundC (F : am_FX p s m args meth c y) (K : am_KT D adK cA s) (Z : am_Z adK adV b0 s s.heap) (hsz : s.heap.size = b0 + n0) (hRf : d + 9 ≤ R.frames) (hRl : 100 * d + 500 ≤ R.locals)
    {i : Instr} {len pc : Nat} {st as rest : List Value} {hp hp' : am_H} {y' : am_MI} {r : Option Value} {H : Heap} {locs : List Loc} {ls : Array Slot} (hn : n0 ≤ hp.1) (hle : hp.1 ≤ hp'.1)
    (hd : decode y.2.2.1 pc = .ok (i, len)) (hok : am_ok i len = true) (hi : am_inv y.1 i st hp = some (y', as, rest)) (hM : am_Mt l D b0 adK adV cA d y' as hp r hp')
    (hP : va_P D am_cl (am_ws b0 adK cA hp) H) (hS : va_S (fun q : Nat => b0 ≤ q) s.heap H locs) (hls : ls.size = y.2.2.2.1)
    (hR1 : hp'.1 - n0 ≤ R.cells) (hR2 : am_sl hp'.1 - am_sl n0 ≤ R.slots)
    (kk : ∀ (H' : Heap) (locs' : List Loc), va_P D am_cl (am_ws b0 adK cA hp') H' → va_S (fun q : Nat => b0 ≤ q) s.heap H' locs' → W p l e R s m args below meth c H' locs' (hp'.1 - n0) (am_sl hp'.1 - am_sl n0) Q (F0 m (pc + 3) ls ((r.toList ++ rest).map (am_tr b0 adK)))) :
    W p l e R s m args below meth c H locs (hp.1 - n0) (am_sl hp.1 - am_sl n0) Q (F0 m pc ls (st.map (am_tr b0 adK))) := by
  obtain ⟨hx, hb, hml, hown, hts, hname⟩ := F
  refine am_wsz (fun hz => ?_)
  have hHs : H.size = b0 + hp.1 := am_Hsz hP hS hsz hn (by omega)
  have hm1 := am_sl_mono hn
  have hm2 := am_sl_mono hle
  have hroom : y'.2.2.2.1 ≤ 20 → (am_rm d hp hp').frames + 1 ≤ R.frames ∧ 8 + (y'.2.2.2.1 + 11) + (am_rm d hp hp').locals ≤ R.locals := by
    intro h20
    have e1 : (am_rm d hp hp').frames = d + 8 := rfl
    have e2 : (am_rm d hp hp').locals = 100 * d + 400 := rfl
    rw [e1, e2]
    omega
  have hPc : ∀ U : State, U.heap = H → s.WarmedH U.vm → am_Pc D b0 adK adV cA as hp (as.map (am_tr b0 adK)).toArray U := fun U hU hW =>
    ⟨rfl, by rw [hU]; exact hHs, by rw [hU]; exact hP, am_KT.warm hW K, by rw [hU]; exact am_Z.moved hW.alike (am_Z.kept Z hS.2.1)⟩
  have fin : ∀ (v : Option Value) (st₀ t : State) (L : List Loc), st₀.heap = H → am_Qc D b0 adK cA r hp' (as.map (am_tr b0 adK)).toArray st₀ (.returned v) t → (va_F (fun q : Nat => b0 ≤ q) st₀ t → va_S (fun q : Nat => b0 ≤ q) s.heap t.heap (locs ++ L)) → W p l e R s m args below meth c t.heap (locs ++ L) (hp.1 - n0 + (hp'.1 - hp.1)) (am_sl hp.1 - am_sl n0 + (am_sl hp'.1 - am_sl hp.1)) Q (F0 m (pc + 3) ls (v.toList ++ rest.map (am_tr b0 adK))) := by
    intro v st₀ t L h0 ⟨q1, q2, q3⟩ hF
    refine W.cs (cells' := hp'.1 - n0) (slots' := am_sl hp'.1 - am_sl n0) (by omega) (by omega) ?_
    have k2 := kk t.heap _ q2 (hF q3)
    cases q1
    rw [List.map_append] at k2
    cases r <;> exact k2
  cases i with
  | invokestatic idx =>
    obtain rfl : len = 3 := by simpa [am_ok] using hok
    simp only [am_inv] at hi
    split at hi
    · rename_i z n md hlk
      split at hi
      · rename_i hc
        cases hi
        obtain ⟨hmd, hnl, hrs⟩ := hc
        obtain ⟨ws, t1, t2⟩ := am_M_ok hlk
        obtain ⟨w2, w3⟩ := am_M_code t1
        simp only [am_Y_t, Bool.and_eq_true, decide_eq_true_eq] at t2
        obtain ⟨c1, c2, c3, c4, c5, -⟩ := t2
        have hstk : st.map (am_tr b0 adK) = (((st.take n).reverse).map (am_tr b0 adK)).reverse ++ (st.drop n).map (am_tr b0 adK) := by
          rw [← List.map_reverse, List.reverse_reverse, ← List.map_append, List.take_append_drop]
        have hlen : (((st.take n).reverse).map (am_tr b0 adK)).length = n := by simp; omega
        rcases hmd with rfl | rfl
        · obtain ⟨w0, w1⟩ := am_M_1' t1
          refine am_call (va_runS (As := ((st.take n).reverse).map (am_tr b0 adK)) (rest := (st.drop n).map (am_tr b0 adK)) ⟨hx, hb, hml, hown, hts⟩ hM ⟨callB_of n hts (am_good w3) rfl rfl rfl (hts _ w2) (hts _ w0) ⟨c2, c3, c4⟩ (hroom c5), hts _ w1⟩ ⟨am_Pc_blind, hPc⟩ rfl hlen hls hstk (by rw [am_map_cat]; show 2 * 0 + _ ≤ 8; omega) hd ⟨by omega, by omega⟩) hS fin
        · obtain ⟨w0, w1⟩ := am_M_4' t1
          refine am_call (va_runSN (As := ((st.take n).reverse).map (am_tr b0 adK)) (rest := (st.drop n).map (am_tr b0 adK)) ⟨hx, hb, hml, hown, hts⟩ hM ⟨va_cnB n hts (am_good w3) rfl rfl rfl (K.2.1 _ _ _ _ w0) (hts _ w2) ⟨c2, c3, c4⟩ (hroom c5), hts _ w1, trivial⟩ ⟨am_Pc_blind, hPc⟩ rfl hlen hls hstk (by rw [am_map_cat]; show 2 * 0 + _ ≤ 8; omega) hd ⟨by omega, by omega⟩) hS fin
      · cases hi
    · cases hi
  | invokevirtual idx =>
    obtain rfl : len = 3 := by simpa [am_ok] using hok
    simp only [am_inv] at hi
    split at hi
    · rename_i z n md hlk
      split at hi
      · rename_i b rest' hdr
        split at hi
        · rename_i hc
          cases hi
          obtain ⟨rfl, h9, hbl, hkb, hrs⟩ := hc
          obtain ⟨ws, t1, t2⟩ := am_M_ok hlk
          obtain ⟨w2, w3⟩ := am_M_code t1
          simp only [am_Y_t, Bool.and_eq_true, decide_eq_true_eq] at t2
          obtain ⟨c1, c2, c3, c4, c5, -⟩ := t2
          have hb' : am_tr b0 adK (.ref b) = .ref (b0 + b) := congrArg Value.ref (am_adr_lt (by omega))
          have hstk : st.map (am_tr b0 adK) = (((st.take n).reverse).map (am_tr b0 adK)).reverse ++ .ref (b0 + b) :: rest.map (am_tr b0 adK) := by
            rw [← hb', ← List.map_cons, ← hdr, ← List.map_reverse, List.reverse_reverse, ← List.map_append, List.take_append_drop]
          have hl2 : n < st.length := by
            have := congrArg List.length hdr
            simp at this
            omega
          have hlen : (((st.take n).reverse).map (am_tr b0 adK)).length = n := by simp; omega
          have hg := am_ws_get (b0 := b0) (adK := adK) (cA := cA) hbl
          rw [am_ce_obj hkb] at hg
          rw [List.map_cons, hb'] at hPc
          rw [List.map_cons, hb'] at fin
          obtain ⟨w0, w1, w4⟩ := am_M_0' t1
          have hrc := va_recv K.1 hP (am_cl_get h9) hg
          exact am_call (va_runV (C := y'.2.1.cls) (b := b0 + b) (As := ((st.take n).reverse).map (am_tr b0 adK)) (rest := rest.map (am_tr b0 adK)) ⟨hx, hb, hml, hown, hts⟩ hM ⟨callB_of n hts (am_good w3) rfl rfl rfl (hts _ w2) (hts _ w0) ⟨c2, c3, c4⟩ (hroom c5), hts _ w1, hts _ w4⟩ ⟨am_Pc_blind, by rw [c1]; exact hrc, hPc⟩ rfl hlen hls hstk (by rw [am_map_cat]; show 2 * 0 + _ ≤ 8; omega) hd ⟨by omega, by omega⟩) hS fin
        · cases hi
      · cases hi
    · cases hi
  | invokespecial idx =>
    obtain rfl : len = 3 := by simpa [am_ok] using hok
    simp only [am_inv] at hi
    split at hi
    · rename_i z n md hlk
      split at hi
      · rename_i b rest' hdr
        split at hi
        · rename_i hc
          cases hi
          obtain ⟨hmd, h9, hbl, hkb, hrs⟩ := hc
          obtain ⟨ws, t1, t2⟩ := am_M_ok hlk
          obtain ⟨w2, w3⟩ := am_M_code t1
          simp only [am_Y_t, Bool.and_eq_true, decide_eq_true_eq] at t2
          obtain ⟨c1, c2, c3, c4, c5, -⟩ := t2
          have hb' : am_tr b0 adK (.ref b) = .ref (b0 + b) := congrArg Value.ref (am_adr_lt (by omega))
          have hstk : st.map (am_tr b0 adK) = (((st.take n).reverse).map (am_tr b0 adK)).reverse ++ .ref (b0 + b) :: rest.map (am_tr b0 adK) := by
            rw [← hb', ← List.map_cons, ← hdr, ← List.map_reverse, List.reverse_reverse, ← List.map_append, List.take_append_drop]
          have hl2 : n < st.length := by
            have := congrArg List.length hdr
            simp at this
            omega
          have hlen : (((st.take n).reverse).map (am_tr b0 adK)).length = n := by simp; omega
          rw [List.map_cons, hb'] at hPc
          rw [List.map_cons, hb'] at fin
          have hrt : y'.2.2.2.2 = none := am_init_ret hlk hmd
          rw [am_Mt, am_wm, hrt] at hM
          have w3' := w3
          rw [hrt] at w3'
          have hgd : GoodIn am_tG (Cond.code y'.2.1 y'.2.2.1 y'.2.2.2.1 none :: am_tG) := by
            have := am_good w3
            rw [am_wm, hrt] at this
            exact this
          rcases hmd with rfl | rfl
          · obtain ⟨w0, w1, w4⟩ := am_M_2' t1
            exact am_call (va_runI (b := b0 + b) (As := ((st.take n).reverse).map (am_tr b0 adK)) (rest := rest.map (am_tr b0 adK)) ⟨hx, hb, hml, hown, hts⟩ hM ⟨callB_of n hts hgd rfl rfl rfl (hts _ w2) (hts _ w0) ⟨c2, c3, c4⟩ (hroom c5), w4, hts _ w1⟩ ⟨am_Pc_blind, hPc⟩ rfl hlen hls hstk (by rw [am_map_cat]; show 2 * 0 + _ ≤ 8; omega) hd ⟨by omega, by omega⟩) hS fin
          · obtain ⟨w0, w1, w4⟩ := am_M_5' t1
            exact am_call (va_runIN (b := b0 + b) (As := ((st.take n).reverse).map (am_tr b0 adK)) (rest := rest.map (am_tr b0 adK)) ⟨hx, hb, hml, hown, hts⟩ hM ⟨va_cnB n hts hgd rfl rfl rfl (K.2.1 _ _ _ _ w0) (hts _ w2) ⟨c2, c3, c4⟩ (hroom c5), w4, hts _ w1⟩ ⟨am_Pc_blind, hPc⟩ rfl hlen hls hstk (by rw [am_map_cat]; show 2 * 0 + _ ≤ 8; omega) hd ⟨by omega, by omega⟩) hS fin
        · cases hi
      · cases hi
    · cases hi
  | _ => cases hi
end AMR
