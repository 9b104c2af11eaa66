/-! length() and charAt() of the tables' texts, by the JDK's own code -/
theorem dJ0_coder_7d493_0 : decode cJ0_coder_7d493 0 = .ok (.getstatic 38, 3) := by decide +kernel
theorem dJ0_coder_7d493_3 : decode cJ0_coder_7d493 3 = .ok (.ifCond .eq 10, 3) := by decide +kernel
theorem dJ0_coder_7d493_6 : decode cJ0_coder_7d493 6 = .ok (.aload_n 0, 1) := by decide +kernel
theorem dJ0_coder_7d493_7 : decode cJ0_coder_7d493 7 = .ok (.getfield 15, 3) := by decide +kernel
theorem dJ0_coder_7d493_10 : decode cJ0_coder_7d493 10 = .ok (.goto 4, 3) := by decide +kernel
theorem dJ0_coder_7d493_14 : decode cJ0_coder_7d493 14 = .ok (.ireturn, 1) := by decide +kernel
theorem dJ0_isLatin1_aae02_0 : decode cJ0_isLatin1_aae02 0 = .ok (.getstatic 38, 3) := by decide +kernel
theorem dJ0_isLatin1_aae02_3 : decode cJ0_isLatin1_aae02 3 = .ok (.ifCond .eq 14, 3) := by decide +kernel
theorem dJ0_isLatin1_aae02_6 : decode cJ0_isLatin1_aae02 6 = .ok (.aload_n 0, 1) := by decide +kernel
theorem dJ0_isLatin1_aae02_7 : decode cJ0_isLatin1_aae02 7 = .ok (.getfield 15, 3) := by decide +kernel
theorem dJ0_isLatin1_aae02_10 : decode cJ0_isLatin1_aae02 10 = .ok (.ifCond .ne 7, 3) := by decide +kernel
theorem dJ0_isLatin1_aae02_13 : decode cJ0_isLatin1_aae02 13 = .ok (.iconst 1, 1) := by decide +kernel
theorem dJ0_isLatin1_aae02_14 : decode cJ0_isLatin1_aae02 14 = .ok (.goto 4, 3) := by decide +kernel
theorem dJ0_isLatin1_aae02_18 : decode cJ0_isLatin1_aae02 18 = .ok (.ireturn, 1) := by decide +kernel
theorem dJ0_length_8abf5_0 : decode cJ0_length_8abf5 0 = .ok (.aload_n 0, 1) := by decide +kernel
theorem dJ0_length_8abf5_1 : decode cJ0_length_8abf5 1 = .ok (.getfield 9, 3) := by decide +kernel
theorem dJ0_length_8abf5_4 : decode cJ0_length_8abf5 4 = .ok (.arraylength, 1) := by decide +kernel
theorem dJ0_length_8abf5_5 : decode cJ0_length_8abf5 5 = .ok (.aload_n 0, 1) := by decide +kernel
theorem dJ0_length_8abf5_6 : decode cJ0_length_8abf5 6 = .ok (.invokevirtual 335, 3) := by decide +kernel
theorem dJ0_length_8abf5_9 : decode cJ0_length_8abf5 9 = .ok (.ishr, 1) := by decide +kernel
theorem dJ0_length_8abf5_10 : decode cJ0_length_8abf5 10 = .ok (.ireturn, 1) := by decide +kernel
theorem dJ3_checkIndex_8e157_0 : decode cJ3_checkIndex_8e157 0 = .ok (.iload_n 0, 1) := by decide +kernel
theorem dJ3_checkIndex_8e157_1 : decode cJ3_checkIndex_8e157 1 = .ok (.ifCond .lt 8, 3) := by decide +kernel
theorem dJ3_checkIndex_8e157_4 : decode cJ3_checkIndex_8e157 4 = .ok (.iload_n 0, 1) := by decide +kernel
theorem dJ3_checkIndex_8e157_5 : decode cJ3_checkIndex_8e157 5 = .ok (.iload_n 1, 1) := by decide +kernel
theorem dJ3_checkIndex_8e157_6 : decode cJ3_checkIndex_8e157 6 = .ok (.if_icmp .lt 10, 3) := by decide +kernel
theorem dJ3_checkIndex_8e157_16 : decode cJ3_checkIndex_8e157 16 = .ok (.iload_n 0, 1) := by decide +kernel
theorem dJ3_checkIndex_8e157_17 : decode cJ3_checkIndex_8e157 17 = .ok (.ireturn, 1) := by decide +kernel
theorem dJ0_checkIndex_df160_0 : decode cJ0_checkIndex_df160 0 = .ok (.iload_n 0, 1) := by decide +kernel
theorem dJ0_checkIndex_df160_1 : decode cJ0_checkIndex_df160 1 = .ok (.iload_n 1, 1) := by decide +kernel
theorem dJ0_checkIndex_df160_2 : decode cJ0_checkIndex_df160 2 = .ok (.getstatic 1053, 3) := by decide +kernel
theorem dJ0_checkIndex_df160_5 : decode cJ0_checkIndex_df160 5 = .ok (.invokestatic 1059, 3) := by decide +kernel
theorem dJ0_checkIndex_df160_8 : decode cJ0_checkIndex_df160 8 = .ok (.pop, 1) := by decide +kernel
theorem dJ0_checkIndex_df160_9 : decode cJ0_checkIndex_df160 9 = .ok (.return_, 1) := by decide +kernel
theorem dJ1_charAt_3b067_0 : decode cJ1_charAt_3b067 0 = .ok (.iload_n 1, 1) := by decide +kernel
theorem dJ1_charAt_3b067_1 : decode cJ1_charAt_3b067 1 = .ok (.aload_n 0, 1) := by decide +kernel
theorem dJ1_charAt_3b067_2 : decode cJ1_charAt_3b067 2 = .ok (.arraylength, 1) := by decide +kernel
theorem dJ1_charAt_3b067_3 : decode cJ1_charAt_3b067 3 = .ok (.invokestatic 9, 3) := by decide +kernel
theorem dJ1_charAt_3b067_6 : decode cJ1_charAt_3b067 6 = .ok (.aload_n 0, 1) := by decide +kernel
theorem dJ1_charAt_3b067_7 : decode cJ1_charAt_3b067 7 = .ok (.iload_n 1, 1) := by decide +kernel
theorem dJ1_charAt_3b067_8 : decode cJ1_charAt_3b067 8 = .ok (.baload, 1) := by decide +kernel
theorem dJ1_charAt_3b067_9 : decode cJ1_charAt_3b067 9 = .ok (.sipush 255, 3) := by decide +kernel
theorem dJ1_charAt_3b067_12 : decode cJ1_charAt_3b067 12 = .ok (.iand, 1) := by decide +kernel
theorem dJ1_charAt_3b067_13 : decode cJ1_charAt_3b067 13 = .ok (.i2c, 1) := by decide +kernel
theorem dJ1_charAt_3b067_14 : decode cJ1_charAt_3b067 14 = .ok (.ireturn, 1) := by decide +kernel
theorem dJ0_charAt_5068e_0 : decode cJ0_charAt_5068e 0 = .ok (.aload_n 0, 1) := by decide +kernel
theorem dJ0_charAt_5068e_1 : decode cJ0_charAt_5068e 1 = .ok (.invokevirtual 492, 3) := by decide +kernel
theorem dJ0_charAt_5068e_4 : decode cJ0_charAt_5068e 4 = .ok (.ifCond .eq 12, 3) := by decide +kernel
theorem dJ0_charAt_5068e_7 : decode cJ0_charAt_5068e 7 = .ok (.aload_n 0, 1) := by decide +kernel
theorem dJ0_charAt_5068e_8 : decode cJ0_charAt_5068e 8 = .ok (.getfield 9, 3) := by decide +kernel
theorem dJ0_charAt_5068e_11 : decode cJ0_charAt_5068e 11 = .ok (.iload_n 1, 1) := by decide +kernel
theorem dJ0_charAt_5068e_12 : decode cJ0_charAt_5068e 12 = .ok (.invokestatic 495, 3) := by decide +kernel
theorem dJ0_charAt_5068e_15 : decode cJ0_charAt_5068e 15 = .ok (.ireturn, 1) := by decide +kernel
theorem tw_iS : Cond.initialized RJ0 ∈ am_tG := am_wd_in (i := 1014) (by decide +kernel)
theorem tw_iL : Cond.initialized RJ1 ∈ am_tG := am_wd_in (i := 1015) (by decide +kernel)
theorem tw_iP : Cond.initialized RJ3 ∈ am_tG := am_wd_in (i := 1016) (by decide +kernel)
theorem tw_len1 : Cond.instanceMethod yJ0_length_8abf5 ∈ am_tG := am_wd_in (i := 3227) (by decide +kernel)
theorem tw_len2 : Cond.selects RJ0 yJ0_length_8abf5 yJ0_length_8abf5 ∈ am_tG := am_wd_in (i := 3228) (by decide +kernel)
theorem tw_len3 : Cond.code yJ0_length_8abf5 cJ0_length_8abf5 1 (some .int) ∈ am_tG := am_wd_in (i := 3229) (by decide +kernel)
theorem tw_cod0 : Cond.methodLink RJ0 335 yJ0_coder_7d493 ∈ am_tG := am_wd_in (i := 3230) (by decide +kernel)
theorem tw_cod1 : Cond.instanceMethod yJ0_coder_7d493 ∈ am_tG := am_wd_in (i := 3231) (by decide +kernel)
theorem tw_cod2 : Cond.selects RJ0 yJ0_coder_7d493 yJ0_coder_7d493 ∈ am_tG := am_wd_in (i := 3232) (by decide +kernel)
theorem tw_cod3 : Cond.code yJ0_coder_7d493 cJ0_coder_7d493 1 (some .byte) ∈ am_tG := am_wd_in (i := 3233) (by decide +kernel)
theorem tw_cs : Cond.fieldLink RJ0 38 RJ0 "COMPACT_STRINGS" "Z" ∈ am_tG := am_wd_in (i := 3234) (by decide +kernel)
theorem tw_chr1 : Cond.instanceMethod yJ0_charAt_5068e ∈ am_tG := am_wd_in (i := 3237) (by decide +kernel)
theorem tw_chr2 : Cond.selects RJ0 yJ0_charAt_5068e yJ0_charAt_5068e ∈ am_tG := am_wd_in (i := 3238) (by decide +kernel)
theorem tw_chr3 : Cond.code yJ0_charAt_5068e cJ0_charAt_5068e 2 (some .char) ∈ am_tG := am_wd_in (i := 3239) (by decide +kernel)
theorem tw_lat0 : Cond.methodLink RJ0 492 yJ0_isLatin1_aae02 ∈ am_tG := am_wd_in (i := 4000) (by decide +kernel)
theorem tw_lat1 : Cond.instanceMethod yJ0_isLatin1_aae02 ∈ am_tG := am_wd_in (i := 4001) (by decide +kernel)
theorem tw_lat2 : Cond.selects RJ0 yJ0_isLatin1_aae02 yJ0_isLatin1_aae02 ∈ am_tG := am_wd_in (i := 4002) (by decide +kernel)
theorem tw_lat3 : Cond.code yJ0_isLatin1_aae02 cJ0_isLatin1_aae02 1 (some .boolean) ∈ am_tG := am_wd_in (i := 4003) (by decide +kernel)
theorem tw_lc0 : Cond.methodLink RJ0 495 yJ1_charAt_3b067 ∈ am_tG := am_wd_in (i := 4004) (by decide +kernel)
theorem tw_lc1 : Cond.static yJ1_charAt_3b067 ∈ am_tG := am_wd_in (i := 4005) (by decide +kernel)
theorem tw_lc3 : Cond.code yJ1_charAt_3b067 cJ1_charAt_3b067 2 (some .char) ∈ am_tG := am_wd_in (i := 4006) (by decide +kernel)
theorem tw_ci0 : Cond.methodLink RJ1 9 yJ0_checkIndex_df160 ∈ am_tG := am_wd_in (i := 4007) (by decide +kernel)
theorem tw_ci1 : Cond.static yJ0_checkIndex_df160 ∈ am_tG := am_wd_in (i := 4008) (by decide +kernel)
theorem tw_ci3 : Cond.code yJ0_checkIndex_df160 cJ0_checkIndex_df160 2 none ∈ am_tG := am_wd_in (i := 4009) (by decide +kernel)
theorem tw_sf : Cond.fieldLink RJ0 1053 RJ3 "SIOOBE_FORMATTER" "Ljava/util/function/BiFunction;" ∈ am_tG := am_wd_in (i := 4010) (by decide +kernel)
theorem tw_pc0 : Cond.methodLink RJ0 1059 yJ3_checkIndex_8e157 ∈ am_tG := am_wd_in (i := 4012) (by decide +kernel)
theorem tw_pc1 : Cond.static yJ3_checkIndex_8e157 ∈ am_tG := am_wd_in (i := 4013) (by decide +kernel)
theorem tw_pc3 : Cond.code yJ3_checkIndex_8e157 cJ3_checkIndex_8e157 3 (some .int) ∈ am_tG := am_wd_in (i := 4014) (by decide +kernel)
theorem tw_fv : Cond.fieldLink RJ0 9 RJ0 "value" "[B" ∈ am_tG := am_wd_in (i := 6223) (by decide +kernel)
theorem tw_fc : Cond.fieldLink RJ0 15 RJ0 "coder" "B" ∈ am_tG := am_wd_in (i := 6224) (by decide +kernel)
theorem tp_0 : plainFor yJ0_coder_7d493 = true := by decide +kernel
theorem tp_1 : plainFor yJ0_isLatin1_aae02 = true := by decide +kernel
theorem tp_2 : plainFor yJ0_length_8abf5 = true := by decide +kernel
theorem tp_3 : plainFor yJ3_checkIndex_8e157 = true := by decide +kernel
theorem tp_4 : plainFor yJ0_checkIndex_df160 = true := by decide +kernel
theorem tp_5 : plainFor yJ1_charAt_3b067 = true := by decide +kernel
theorem tp_6 : plainFor yJ0_charAt_5068e = true := by decide +kernel
def tx_Pc (adK adV : Nat → Nat) (b0 : Nat) (vs : List Value) : Array Value → State → Prop := fun v U => v = vs.toArray ∧ am_Z adK adV b0 U U.heap
def tx_Qc (r : Option Value) : Array Value → State → Outcome → State → Prop := fun _ st oc t => oc = .returned r ∧ t.heap = st.heap
def tx_rm (d : Nat) : Room := { frames := d, cells := 0, slots := 0, locals := 40 * d }
def tx_Mt (l : Launch) (adK adV : Nat → Nat) (b0 d : Nat) (y : am_MI) (vs : List Value) (r : Option Value) : Prop := Met l y.2.1 (am_wm y) (tx_rm d) (tx_Pc adK adV b0 vs) (tx_Qc r) 0 0 (fun _ => False)
theorem tx_blind {adK adV : Nat → Nat} {b0 : Nat} {vs : List Value} : FrameBlind (tx_Pc adK adV b0 vs) := by
  intro a U g mk ⟨q0, q4⟩
  exact ⟨q0, am_Z.moved (u := U) (U := U.calling g mk a) (Vm.Alike.refl _) q4⟩
abbrev tJ_coder : am_MI := (0, yJ0_coder_7d493, cJ0_coder_7d493, 1, some .byte)
abbrev tJ_lat : am_MI := (0, yJ0_isLatin1_aae02, cJ0_isLatin1_aae02, 1, some .boolean)
abbrev tJ_len : am_MI := (0, yJ0_length_8abf5, cJ0_length_8abf5, 1, some .int)
abbrev tJ_pre : am_MI := (0, yJ3_checkIndex_8e157, cJ3_checkIndex_8e157, 3, some .int)
abbrev tJ_chk : am_MI := (0, yJ0_checkIndex_df160, cJ0_checkIndex_df160, 2, none)
abbrev tJ_lch : am_MI := (0, yJ1_charAt_3b067, cJ1_charAt_3b067, 2, some .char)
abbrev tJ_chr : am_MI := (0, yJ0_charAt_5068e, cJ0_charAt_5068e, 2, some .char)
theorem tx_shr : ∀ n : Fin 21, nI n.val >>> ((0 : Int32) &&& 31) = nI n.val := by decide +kernel
theorem tx_chr : ∀ n : Fin 256, ((nI n.val &&& 255).toUInt32 % 65536).toInt32 = nI n.val ∧ narrow .char (.int (nI n.val)) = .int (nI n.val) := by decide +kernel
theorem tx_l0 : ∀ w : Fin 15, (am_by.getD w.val []).length ≤ 20 := by decide +kernel
theorem tx_b0 : ∀ w : Fin 15, ∀ i : Fin 20, (am_by.getD w.val []).getD i.val 0 ≤ 255 := by decide +kernel
theorem tx_lt {i : Int32} {n : Nat} (h : vp_in i n) (hn : n ≤ 20) : ¬ i < 0 ∧ i < nI n := by
  unfold vp_in at h
  have h1 : ¬ i < 0 := fun q => h (Or.inl q)
  refine ⟨h1, ?_⟩
  have h2 : i.toNatClampNeg < n := Nat.not_le.mp (fun q => h (Or.inr q))
  have e : nI n = Int32.ofInt (n : Int) := by rw [nI, Int32.ofInt_eq_ofNat]
  rw [e, Int32.lt_iff_toInt_lt, z_of (by omega)]
  unfold Int32.toNatClampNeg at h2
  have h0 : 0 ≤ i.toInt := by
    have := Int32.not_lt.mp h1
    simpa using Int32.le_iff_toInt_le.mp this
  omega
section TX
variable {p : Program} {l : Launch} {e : Env} {R : Room} {s : State} {m : MethodId} {args : Array Value} {below : List Frame} {meth : Method} {c : Code} {Q : State → Prop}
variable {b0 : Nat} {adK adV : Nat → Nat}
theorem tx_call {H : Heap} {locs : List Loc} {cells slots pc : Nat} {ls : Array Slot} {st0 rest : List Value} {r : Option Value} {a : Array Value} (hr : va_Run p l e R s m args below meth c H locs cells slots 0 0 (F0 m pc ls st0) rest (tx_Qc r a) (fun _ => False))
    (kk : W p l e R s m args below meth c H locs cells slots Q (F0 m (pc + 3) ls (r.toList ++ rest))) : W p l e R s m args below meth c H locs cells slots Q (F0 m pc ls st0) := by
  intro T hT X
  obtain ⟨v, st₀, t, T', L, h0, X', hL, e1, e2, ⟨q1, q2⟩, st⟩ := hr T hT X
  cases q1
  have hL0 : L = [] := by
    cases L with
    | nil => rfl
    | cons x L => exact (hL x List.mem_cons_self).elim
  subst hL0
  rw [List.append_nil] at X'
  obtain ⟨t2, a1, b1⟩ := kk T' (by rw [e1, q2, h0]) X'
  exact ⟨t2, st t2 a1, b1⟩
/-- a call of a static one -/
theorem tx_runS {d nL n pc index : Nat} {y : am_MI} {own : String} {cc : ByteArray} {As rest : List Value} {r : Option Value} {H : Heap} {locs : List Loc} {cells slots : Nat} {ls : Array Slot} (hx : p.tables.exec = Jvm.exec) (hb : c.code = cc) (hml : c.maxLocals = nL) (hown : s.vm.findClass own = some m.cls) (hts : ∀ w ∈ am_tG, w.before args s = true) (Z : am_Z adK adV b0 s s.heap)
    (hM : tx_Mt l adK adV b0 d y As r) (w3 : Cond.code y.2.1 y.2.2.1 y.2.2.2.1 y.2.2.2.2 ∈ am_tG) (w2 : Cond.initialized y.2.1.cls ∈ am_tG) (w0 : Cond.methodLink own index y.2.1 ∈ am_tG) (w1 : Cond.static y.2.1 ∈ am_tG) (hd : y.2.1.cls ≠ "java/lang/invoke/MethodHandle" ∧ y.2.1.cls ≠ "java/lang/invoke/VarHandle" ∧ (parseMethodDescriptor y.2.1.desc).map (fun d => d.parameters.length) = some n) (hR : (tx_rm d).frames + 1 ≤ R.frames ∧ 8 + (y.2.2.2.1 + 11) + (tx_rm d).locals ≤ R.locals)
    (hS : va_S (fun q : Nat => b0 ≤ q) s.heap H locs) (hn : As.length = n) (hls : ls.size = nL) (hrest : (rest.map fun v => v.category).sum ≤ 8) (hdg : decode cc pc = .ok (.invokestatic index, 3)) (hf : cells ≤ R.cells ∧ slots ≤ R.slots)
    (kk : W p l e R s m args below meth c H locs cells slots Q (F0 m (pc + 3) ls (r.toList ++ rest))) : W p l e R s m args below meth c H locs cells slots Q (F0 m pc ls (As.reverse ++ rest)) :=
  tx_call (va_runS (As := As) (rest := rest) ⟨hx, hb, hml, hown, hts⟩ hM ⟨callB_of n hts (am_good w3) rfl rfl rfl (hts _ w2) (hts _ w0) hd hR, hts _ w1⟩ ⟨tx_blind, fun U hU hW => ⟨rfl, by rw [hU]; exact am_Z.moved hW.alike (am_Z.kept Z hS.2.1)⟩⟩ rfl hn hls rfl (by show 2 * 0 + _ ≤ 8; omega) hdg ⟨by omega, by omega⟩) kk
theorem tx_runV {d nL n pc index t : Nat} {y : am_MI} {own : String} {cc : ByteArray} {As rest : List Value} {r : Option Value} {H : Heap} {locs : List Loc} {cells slots : Nat} {ls : Array Slot} (hx : p.tables.exec = Jvm.exec) (hb : c.code = cc) (hml : c.maxLocals = nL) (hown : s.vm.findClass own = some m.cls) (hts : ∀ w ∈ am_tG, w.before args s = true) (Z : am_Z adK adV b0 s s.heap) (ht : t < 15)
    (hM : tx_Mt l adK adV b0 d y (.ref (adK t) :: As) r) (w3 : Cond.code y.2.1 y.2.2.1 y.2.2.2.1 y.2.2.2.2 ∈ am_tG) (w2 : Cond.initialized y.2.1.cls ∈ am_tG) (w0 : Cond.methodLink own index y.2.1 ∈ am_tG) (w1 : Cond.instanceMethod y.2.1 ∈ am_tG) (w4 : Cond.selects RJ0 y.2.1 y.2.1 ∈ am_tG) (hd : y.2.1.cls ≠ "java/lang/invoke/MethodHandle" ∧ y.2.1.cls ≠ "java/lang/invoke/VarHandle" ∧ (parseMethodDescriptor y.2.1.desc).map (fun d => d.parameters.length) = some n) (hR : (tx_rm d).frames + 1 ≤ R.frames ∧ 8 + (y.2.2.2.1 + 11) + (tx_rm d).locals ≤ R.locals)
    (hS : va_S (fun q : Nat => b0 ≤ q) s.heap H locs) (hn : As.length = n) (hls : ls.size = nL) (hrest : (rest.map fun v => v.category).sum ≤ 8) (hdg : decode cc pc = .ok (.invokevirtual index, 3)) (hf : cells ≤ R.cells ∧ slots ≤ R.slots)
    (kk : W p l e R s m args below meth c H locs cells slots Q (F0 m (pc + 3) ls (r.toList ++ rest))) : W p l e R s m args below meth c H locs cells slots Q (F0 m pc ls (As.reverse ++ .ref (adK t) :: rest)) := by
  have hrc : ∃ cell : Cell, H[adK t]? = some cell ∧ cell.vm.isStatics = false ∧ s.vm.findClass RJ0 = some cell.cls := by
    obtain ⟨cell, h1, h2, h3, -⟩ := (Z.1 t ht).1.kept hS.2.1
    exact ⟨cell, h1, h2, h3⟩
  exact tx_call (va_runV (C := RJ0) (b := adK t) (As := As) (rest := rest) ⟨hx, hb, hml, hown, hts⟩ hM ⟨callB_of n hts (am_good w3) rfl rfl rfl (hts _ w2) (hts _ w0) hd hR, hts _ w1, hts _ w4⟩ ⟨tx_blind, hrc, fun U hU hW => ⟨rfl, by rw [hU]; exact am_Z.moved hW.alike (am_Z.kept Z hS.2.1)⟩⟩ rfl hn hls rfl (by show 2 * 0 + _ ≤ 8; omega) hdg ⟨by omega, by omega⟩) kk
end TX
section TY
variable {l : Launch} {b0 : Nat} {adK adV : Nat → Nat}
theorem tx_coder {t : Nat} (ht : t < 15) : tx_Mt l adK adV b0 0 tJ_coder [.ref (adK t)] (some (.int 0)) := by
  refine am_ofW (cc := cJ0_coder_7d493) (maxL := 1) (ret := some .byte) tp_0 rfl ?_
  intro p e s m args below meth c s₁ B hml hv
  obtain ⟨rfl, Z⟩ := hv
  have hts := fun w hw => atoms_spec (ws := am_wm tJ_coder) B.pre w (List.mem_cons_of_mem _ hw)
  have hown : s.vm.findClass RJ0 = some m.cls := findClass_of_methodNamed B.named
  have hlocks := B.notSynchronized
  have hr := B.returns
  have hb := B.bytes
  have hx := B.exec
  have hS : va_S (fun q : Nat => b0 ≤ q) s.heap s.heap [] := va_S.rf
  have hl := lv_entry ([.ref (adK t)]) (n := 1) (Nat.le_of_ble_eq_true rfl)
  rw [lg_entry_eq]
  generalize (lg_sl ([.ref (adK t)]) ++ List.replicate (1 - (lg_sl ([.ref (adK t)])).length) Slot.unset).toArray = ls at hl ⊢
  have hl : lv_has ls 1 [(0, .ref (adK t))] := hl
  refine va_gets hx hb Z.2.1 hS hown (hts _ tw_cs) (fun _ h => h) dJ0_coder_7d493_0 ?_
  refine lv_if_eq (tgt := 13) hx hb dJ0_coder_7d493_3 (by decide) (fun q => absurd q (by decide)) (fun _ => ?_)
  refine lv_aload_n hx hb dJ0_coder_7d493_6 rfl (lv_at hl 0 rfl) ?_
  refine vk_getf hx hb (Z.1 t ht).2.1 hS hown (hts _ tw_fc) (fun _ h => h) dJ0_coder_7d493_7 ?_
  refine lv_goto (tgt := 14) hx hb dJ0_coder_7d493_10 (by decide) ?_
  exact W.zret (ty := .byte) hx hb hr (by decide) (fun u hu _ => ⟨rfl, hu⟩) (fun q h => absurd h List.not_mem_nil) dJ0_coder_7d493_14
theorem tx_lat {t : Nat} (ht : t < 15) : tx_Mt l adK adV b0 0 tJ_lat [.ref (adK t)] (some (.int 1)) := by
  refine am_ofW (cc := cJ0_isLatin1_aae02) (maxL := 1) (ret := some .boolean) tp_1 rfl ?_
  intro p e s m args below meth c s₁ B hml hv
  obtain ⟨rfl, Z⟩ := hv
  have hts := fun w hw => atoms_spec (ws := am_wm tJ_lat) B.pre w (List.mem_cons_of_mem _ hw)
  have hown : s.vm.findClass RJ0 = some m.cls := findClass_of_methodNamed B.named
  have hlocks := B.notSynchronized
  have hr := B.returns
  have hb := B.bytes
  have hx := B.exec
  have hS : va_S (fun q : Nat => b0 ≤ q) s.heap s.heap [] := va_S.rf
  have hl := lv_entry ([.ref (adK t)]) (n := 1) (Nat.le_of_ble_eq_true rfl)
  rw [lg_entry_eq]
  generalize (lg_sl ([.ref (adK t)]) ++ List.replicate (1 - (lg_sl ([.ref (adK t)])).length) Slot.unset).toArray = ls at hl ⊢
  have hl : lv_has ls 1 [(0, .ref (adK t))] := hl
  refine va_gets hx hb Z.2.1 hS hown (hts _ tw_cs) (fun _ h => h) dJ0_isLatin1_aae02_0 ?_
  refine lv_if_eq (tgt := 17) hx hb dJ0_isLatin1_aae02_3 (by decide) (fun q => absurd q (by decide)) (fun _ => ?_)
  refine lv_aload_n hx hb dJ0_isLatin1_aae02_6 rfl (lv_at hl 0 rfl) ?_
  refine vk_getf hx hb (Z.1 t ht).2.1 hS hown (hts _ tw_fc) (fun _ h => h) dJ0_isLatin1_aae02_7 ?_
  refine lv_if_ne (tgt := 17) hx hb dJ0_isLatin1_aae02_10 (by decide) (fun q => absurd rfl q) (fun _ => ?_)
  refine lv_iconst (v := 1) hx hb dJ0_isLatin1_aae02_13 (by decide) ?_
  refine lv_goto (tgt := 18) hx hb dJ0_isLatin1_aae02_14 (by decide) ?_
  exact W.zret (ty := .boolean) hx hb hr (by decide) (fun u hu _ => ⟨rfl, hu⟩) (fun q h => absurd h List.not_mem_nil) dJ0_isLatin1_aae02_18
theorem tx_len {t : Nat} (ht : t < 15) : tx_Mt l adK adV b0 1 tJ_len [.ref (adK t)] (some (.int (nI (am_by.getD t []).length))) := by
  have h20 := tx_l0 ⟨t, ht⟩
  simp only at h20
  refine am_ofW (cc := cJ0_length_8abf5) (maxL := 1) (ret := some .int) tp_2 rfl ?_
  intro p e s m args below meth c s₁ B hml hv
  obtain ⟨rfl, Z⟩ := hv
  have hts := fun w hw => atoms_spec (ws := am_wm tJ_len) B.pre w (List.mem_cons_of_mem _ hw)
  have hown : s.vm.findClass RJ0 = some m.cls := findClass_of_methodNamed B.named
  have hlocks := B.notSynchronized
  have hr := B.returns
  have hb := B.bytes
  have hx := B.exec
  have hS : va_S (fun q : Nat => b0 ≤ q) s.heap s.heap [] := va_S.rf
  have hl := lv_entry ([.ref (adK t)]) (n := 1) (Nat.le_of_ble_eq_true rfl)
  rw [lg_entry_eq]
  generalize (lg_sl ([.ref (adK t)]) ++ List.replicate (1 - (lg_sl ([.ref (adK t)])).length) Slot.unset).toArray = ls at hl ⊢
  have hl : lv_has ls 1 [(0, .ref (adK t))] := hl
  refine lv_aload_n hx hb dJ0_length_8abf5_0 rfl (lv_at hl 0 rfl) ?_
  refine vk_getf hx hb (Z.1 t ht).2.2.1 hS hown (hts _ tw_fv) (fun _ h => h) dJ0_length_8abf5_1 ?_
  refine va_tlen (v := nI (am_by.getD t []).length) hx hb (Z.1 t ht).2.2.2 hS rfl dJ0_length_8abf5_4 ?_
  refine lv_aload_n hx hb dJ0_length_8abf5_5 rfl (lv_at hl 0 rfl) ?_
  refine tx_runV (As := []) (rest := [.int (nI (am_by.getD t []).length)]) hx hb hml hown hts Z ht (tx_coder ht) tw_cod3 tw_iS tw_cod0 tw_cod1 tw_cod2 (by decide +kernel) ⟨Nat.le_of_ble_eq_true rfl, Nat.le_of_ble_eq_true rfl⟩ hS rfl hl.1 (Nat.le_of_ble_eq_true rfl) dJ0_length_8abf5_6 ⟨Nat.zero_le _, Nat.zero_le _⟩ ?_
  refine lv_ishr hx hb dJ0_length_8abf5_9 ?_
  rw [tx_shr ⟨(am_by.getD t []).length, by omega⟩]
  exact W.iret hx hb hr (fun u hu _ => ⟨rfl, hu⟩) (fun q h => absurd h List.not_mem_nil) dJ0_length_8abf5_10
theorem tx_pre {i : Int32} {n : Nat} {v : Value} (hi : vp_in i n) (hn : n ≤ 20) (hv3 : v = .null ∨ ∃ q, v = .ref q) : tx_Mt l adK adV b0 0 tJ_pre [.int i, .int (nI n), v] (some (.int i)) := by
  obtain ⟨h1, h2⟩ := tx_lt hi hn
  refine am_ofW (cc := cJ3_checkIndex_8e157) (maxL := 3) (ret := some .int) tp_3 rfl ?_
  intro p e s m args below meth c s₁ B hml hv
  obtain ⟨rfl, Z⟩ := hv
  have hlocks := B.notSynchronized
  have hr := B.returns
  have hb := B.bytes
  have hx := B.exec
  have fin : ∀ ls : Array Slot, lv_has ls 3 [(0, .int i), (1, .int (nI n)), (2, v)] → W p l e (headSpec (am_wm tJ_pre) (tx_rm 0)).room s m [.int i, .int (nI n), v].toArray below meth c s.heap [] 0 0 (MQ below (tx_Qc (some (.int i))) [.int i, .int (nI n), v].toArray s 0 0 (fun _ => False)) (F0 m 0 ls []) := by
    intro ls hl
    refine lv_iload_n hx hb dJ3_checkIndex_8e157_0 rfl (lv_at hl 0 rfl) ?_
    refine lv_if_lt (tgt := 9) hx hb dJ3_checkIndex_8e157_1 (by decide) (fun q => absurd q h1) (fun _ => ?_)
    refine lv_iload_n hx hb dJ3_checkIndex_8e157_4 rfl (lv_at hl 0 rfl) ?_
    refine lv_iload_n hx hb dJ3_checkIndex_8e157_5 rfl (lv_at hl 1 rfl) ?_
    refine lv_icmp_lt (tgt := 16) hx hb dJ3_checkIndex_8e157_6 (by decide) (fun _ => ?_) (fun q => absurd h2 q)
    refine lv_iload_n hx hb dJ3_checkIndex_8e157_16 rfl (lv_at hl 0 rfl) ?_
    exact W.iret hx hb hr (fun u hu _ => ⟨rfl, hu⟩) (fun q h => absurd h List.not_mem_nil) dJ3_checkIndex_8e157_17
  rcases hv3 with rfl | ⟨q, rfl⟩
  · have hl := lv_entry ([.int i, .int (nI n), .null]) (n := 3) (Nat.le_of_ble_eq_true rfl)
    rw [lg_entry_eq]
    generalize (lg_sl ([.int i, .int (nI n), .null]) ++ List.replicate (3 - (lg_sl ([.int i, .int (nI n), .null])).length) Slot.unset).toArray = ls at hl ⊢
    exact fin ls hl
  · have hl := lv_entry ([.int i, .int (nI n), .ref q]) (n := 3) (Nat.le_of_ble_eq_true rfl)
    rw [lg_entry_eq]
    generalize (lg_sl ([.int i, .int (nI n), .ref q]) ++ List.replicate (3 - (lg_sl ([.int i, .int (nI n), .ref q])).length) Slot.unset).toArray = ls at hl ⊢
    exact fin ls hl
theorem tx_chk {i : Int32} {n : Nat} (hi : vp_in i n) (hn : n ≤ 20) : tx_Mt l adK adV b0 1 tJ_chk [.int i, .int (nI n)] none := by
  refine am_ofW (cc := cJ0_checkIndex_df160) (maxL := 2) (ret := none) tp_4 rfl ?_
  intro p e s m args below meth c s₁ B hml hv
  obtain ⟨rfl, Z⟩ := hv
  have hts := fun w hw => atoms_spec (ws := am_wm tJ_chk) B.pre w (List.mem_cons_of_mem _ hw)
  have hown : s.vm.findClass RJ0 = some m.cls := findClass_of_methodNamed B.named
  have hlocks := B.notSynchronized
  have hr := B.returns
  have hb := B.bytes
  have hx := B.exec
  have hS : va_S (fun q : Nat => b0 ≤ q) s.heap s.heap [] := va_S.rf
  have hl := lv_entry ([.int i, .int (nI n)]) (n := 2) (Nat.le_of_ble_eq_true rfl)
  rw [lg_entry_eq]
  generalize (lg_sl ([.int i, .int (nI n)]) ++ List.replicate (2 - (lg_sl ([.int i, .int (nI n)])).length) Slot.unset).toArray = ls at hl ⊢
  have hl : lv_has ls 2 [(0, .int i), (1, .int (nI n))] := hl
  refine lv_iload_n hx hb dJ0_checkIndex_df160_0 rfl (lv_at hl 0 rfl) ?_
  refine lv_iload_n hx hb dJ0_checkIndex_df160_1 rfl (lv_at hl 1 rfl) ?_
  have go : ∀ v : Value, (v = .null ∨ ∃ q, v = .ref q) → va_Z RJ3 "SIOOBE_FORMATTER" "Ljava/util/function/BiFunction;" v (fun q : Nat => b0 ≤ q) s s.heap → W p l e (headSpec (am_wm tJ_chk) (tx_rm 1)).room s m [.int i, .int (nI n)].toArray below meth c s.heap [] 0 0 (MQ below (tx_Qc none) [.int i, .int (nI n)].toArray s 0 0 (fun _ => False)) (F0 m 2 ls [.int (nI n), .int i]) := by
    intro v h3 hz
    refine va_gets hx hb hz hS hown (hts _ tw_sf) (fun _ h => h) dJ0_checkIndex_df160_2 ?_
    refine tx_runS (n := 3) (As := [.int i, .int (nI n), v]) (rest := []) hx hb hml hown hts Z (tx_pre hi hn h3) tw_pc3 tw_iP tw_pc0 tw_pc1 (by decide +kernel) ⟨Nat.le_of_ble_eq_true rfl, Nat.le_of_ble_eq_true rfl⟩ hS rfl hl.1 (Nat.le_of_ble_eq_true rfl) dJ0_checkIndex_df160_5 ⟨Nat.zero_le _, Nat.zero_le _⟩ ?_
    refine lv_pop hx hb dJ0_checkIndex_df160_8 rfl ?_
    exact W.vret hx hb hr (fun u hu _ => ⟨rfl, hu⟩) (fun q h => absurd h List.not_mem_nil) dJ0_checkIndex_df160_9
  rcases Z.2.2 with hz | ⟨q, hz⟩
  · exact go _ (Or.inl rfl) hz
  · exact go _ (Or.inr ⟨q, rfl⟩) hz
theorem tx_lch {t : Nat} {i : Int32} (ht : t < 15) (hi : vp_in i (am_by.getD t []).length) : tx_Mt l adK adV b0 2 tJ_lch [.ref (adV t), .int i] (some (.int (nI ((am_by.getD t []).getD i.toNatClampNeg 0)))) := by
  have h20 := tx_l0 ⟨t, ht⟩
  simp only at h20
  have hil : i.toNatClampNeg < (am_by.getD t []).length := Nat.not_le.mp (fun q => hi (Or.inr q))
  have h255 := tx_b0 ⟨t, ht⟩ ⟨i.toNatClampNeg, by omega⟩
  simp only at h255
  obtain ⟨n1, n2⟩ := tx_chr ⟨(am_by.getD t []).getD i.toNatClampNeg 0, by omega⟩
  simp only at n1 n2
  refine am_ofW (cc := cJ1_charAt_3b067) (maxL := 2) (ret := some .char) tp_5 rfl ?_
  intro p e s m args below meth c s₁ B hml hv
  obtain ⟨rfl, Z⟩ := hv
  have hts := fun w hw => atoms_spec (ws := am_wm tJ_lch) B.pre w (List.mem_cons_of_mem _ hw)
  have hown : s.vm.findClass RJ1 = some m.cls := findClass_of_methodNamed B.named
  have hlocks := B.notSynchronized
  have hr := B.returns
  have hb := B.bytes
  have hx := B.exec
  have hS : va_S (fun q : Nat => b0 ≤ q) s.heap s.heap [] := va_S.rf
  have hl := lv_entry ([.ref (adV t), .int i]) (n := 2) (Nat.le_of_ble_eq_true rfl)
  rw [lg_entry_eq]
  generalize (lg_sl ([.ref (adV t), .int i]) ++ List.replicate (2 - (lg_sl ([.ref (adV t), .int i])).length) Slot.unset).toArray = ls at hl ⊢
  have hl : lv_has ls 2 [(0, .ref (adV t)), (1, .int i)] := hl
  refine lv_iload_n hx hb dJ1_charAt_3b067_0 rfl (lv_at hl 1 rfl) ?_
  refine lv_aload_n hx hb dJ1_charAt_3b067_1 rfl (lv_at hl 0 rfl) ?_
  refine va_tlen (v := nI (am_by.getD t []).length) hx hb (Z.1 t ht).2.2.2 hS rfl dJ1_charAt_3b067_2 ?_
  refine tx_runS (n := 2) (As := [.int i, .int (nI (am_by.getD t []).length)]) (rest := []) hx hb hml hown hts Z (tx_chk hi h20) tw_ci3 tw_iS tw_ci0 tw_ci1 (by decide +kernel) ⟨Nat.le_of_ble_eq_true rfl, Nat.le_of_ble_eq_true rfl⟩ hS rfl hl.1 (Nat.le_of_ble_eq_true rfl) dJ1_charAt_3b067_3 ⟨Nat.zero_le _, Nat.zero_le _⟩ ?_
  refine lv_aload_n hx hb dJ1_charAt_3b067_6 rfl (lv_at hl 0 rfl) ?_
  refine lv_iload_n hx hb dJ1_charAt_3b067_7 rfl (lv_at hl 1 rfl) ?_
  refine va_tb (v := .int (nI ((am_by.getD t []).getD i.toNatClampNeg 0))) hx hb (Z.1 t ht).2.2.2 hS hi rfl dJ1_charAt_3b067_8 ?_
  refine lv_sipush (v := 255) hx hb dJ1_charAt_3b067_9 (by decide) ?_
  refine lv_iand hx hb dJ1_charAt_3b067_12 ?_
  refine lv_i2c hx hb dJ1_charAt_3b067_13 n1 ?_
  exact W.zret (ty := .char) hx hb hr n2 (fun u hu _ => ⟨rfl, hu⟩) (fun q h => absurd h List.not_mem_nil) dJ1_charAt_3b067_14
theorem tx_chrA {t : Nat} {i : Int32} (ht : t < 15) (hi : vp_in i (am_by.getD t []).length) : tx_Mt l adK adV b0 3 tJ_chr [.ref (adK t), .int i] (some (.int (nI ((am_by.getD t []).getD i.toNatClampNeg 0)))) := by
  have h20 := tx_l0 ⟨t, ht⟩
  simp only at h20
  have hil : i.toNatClampNeg < (am_by.getD t []).length := Nat.not_le.mp (fun q => hi (Or.inr q))
  have h255 := tx_b0 ⟨t, ht⟩ ⟨i.toNatClampNeg, by omega⟩
  simp only at h255
  obtain ⟨n1, n2⟩ := tx_chr ⟨(am_by.getD t []).getD i.toNatClampNeg 0, by omega⟩
  simp only at n1 n2
  refine am_ofW (cc := cJ0_charAt_5068e) (maxL := 2) (ret := some .char) tp_6 rfl ?_
  intro p e s m args below meth c s₁ B hml hv
  obtain ⟨rfl, Z⟩ := hv
  have hts := fun w hw => atoms_spec (ws := am_wm tJ_chr) B.pre w (List.mem_cons_of_mem _ hw)
  have hown : s.vm.findClass RJ0 = some m.cls := findClass_of_methodNamed B.named
  have hlocks := B.notSynchronized
  have hr := B.returns
  have hb := B.bytes
  have hx := B.exec
  have hS : va_S (fun q : Nat => b0 ≤ q) s.heap s.heap [] := va_S.rf
  have hl := lv_entry ([.ref (adK t), .int i]) (n := 2) (Nat.le_of_ble_eq_true rfl)
  rw [lg_entry_eq]
  generalize (lg_sl ([.ref (adK t), .int i]) ++ List.replicate (2 - (lg_sl ([.ref (adK t), .int i])).length) Slot.unset).toArray = ls at hl ⊢
  have hl : lv_has ls 2 [(0, .ref (adK t)), (1, .int i)] := hl
  refine lv_aload_n hx hb dJ0_charAt_5068e_0 rfl (lv_at hl 0 rfl) ?_
  refine tx_runV (As := []) (rest := []) hx hb hml hown hts Z ht (tx_lat ht) tw_lat3 tw_iS tw_lat0 tw_lat1 tw_lat2 (by decide +kernel) ⟨Nat.le_of_ble_eq_true rfl, Nat.le_of_ble_eq_true rfl⟩ hS rfl hl.1 (Nat.le_of_ble_eq_true rfl) dJ0_charAt_5068e_1 ⟨Nat.zero_le _, Nat.zero_le _⟩ ?_
  refine lv_if_eq (tgt := 16) hx hb dJ0_charAt_5068e_4 (by decide) (fun q => absurd q (by decide)) (fun _ => ?_)
  refine lv_aload_n hx hb dJ0_charAt_5068e_7 rfl (lv_at hl 0 rfl) ?_
  refine vk_getf hx hb (Z.1 t ht).2.2.1 hS hown (hts _ tw_fv) (fun _ h => h) dJ0_charAt_5068e_8 ?_
  refine lv_iload_n hx hb dJ0_charAt_5068e_11 rfl (lv_at hl 1 rfl) ?_
  refine tx_runS (n := 2) (As := [.ref (adV t), .int i]) (rest := []) hx hb hml hown hts Z (tx_lch ht hi) tw_lc3 tw_iL tw_lc0 tw_lc1 (by decide +kernel) ⟨Nat.le_of_ble_eq_true rfl, Nat.le_of_ble_eq_true rfl⟩ hS rfl hl.1 (Nat.le_of_ble_eq_true rfl) dJ0_charAt_5068e_12 ⟨Nat.zero_le _, Nat.zero_le _⟩ ?_
  exact W.zret (ty := .char) hx hb hr n2 (fun u hu _ => ⟨rfl, hu⟩) (fun q h => absurd h List.not_mem_nil) dJ0_charAt_5068e_15
theorem tx_ok {D : va_G} {cA : Nat → ClassId} : am_TX l D b0 adK adV cA := by
  intro p e R s m args below meth c Q y F K Z h8 h300
  obtain ⟨hx, hb, hml, hown, hts, hname⟩ := F
  refine ⟨?_, ?_⟩
  · intro t ht pc idx cells slots rest H locs ls hS hls w0 hdg hrest hc hsl kk
    exact tx_runV (As := []) hx hb hml hown hts Z ht (tx_len ht) tw_len3 tw_iS w0 tw_len1 tw_len2 (by decide +kernel) ⟨by show 1 + 1 ≤ R.frames; omega, by show 8 + (1 + 11) + 40 * 1 ≤ R.locals; omega⟩ hS rfl hls hrest hdg ⟨hc, hsl⟩ kk
  · intro t ht pc idx cells slots i hi rest H locs ls hS hls w0 hdg hrest hc hsl kk
    exact tx_runV (n := 1) (As := [.int i]) hx hb hml hown hts Z ht (tx_chrA ht hi) tw_chr3 tw_iS w0 tw_chr1 tw_chr2 (by decide +kernel) ⟨by show 3 + 1 ≤ R.frames; omega, by show 8 + (2 + 11) + 40 * 3 ≤ R.locals; omega⟩ hS rfl hls hrest hdg ⟨hc, hsl⟩ kk
end TY
