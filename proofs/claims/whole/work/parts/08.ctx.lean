/-! what the small machine stands on at a state: classes, rows, nest mates, texts -/
def am_tys (cA : Nat → ClassId) : List (ClassId × FieldType) := [(cA 0, .int), (cA 1, .object RX5), (cA 2, .object RX4), (cA 3, .object "java/lang/String")]
def am_Z (adK adV : Nat → Nat) (b0 : Nat) (U : State) (H : Heap) : Prop :=
  (∀ i : Nat, i < 15 → va_O "java/lang/String" (adK i) (fun q : Nat => b0 ≤ q) U H ∧ va_OF "java/lang/String" "coder" "B" (.int 0) (adK i) (fun q : Nat => b0 ≤ q) U H ∧ va_OF "java/lang/String" "value" "[B" (.ref (adV i)) (adK i) (fun q : Nat => b0 ≤ q) U H ∧ va_T .byte (adV i) (am_by.getD i []).length (fun j => .int (nI ((am_by.getD i []).getD j 0))) (fun q : Nat => b0 ≤ q) U H)
  ∧ va_Z "java/lang/String" "COMPACT_STRINGS" "Z" (.int 1) (fun q : Nat => b0 ≤ q) U H ∧ va_Zq "jdk/internal/util/Preconditions" "SIOOBE_FORMATTER" "Ljava/util/function/BiFunction;" (fun q : Nat => b0 ≤ q) U H
theorem am_Z.moved {adK adV : Nat → Nat} {b0 : Nat} {u U : State} {H : Heap} (hvm : u.vm.Alike U.vm) (h : am_Z adK adV b0 u H) : am_Z adK adV b0 U H :=
  ⟨fun i hi => ⟨va_O.moved hvm (h.1 i hi).1, va_OF.moved hvm (h.1 i hi).2.1, va_OF.moved hvm (h.1 i hi).2.2.1, va_T.moved hvm (h.1 i hi).2.2.2⟩, va_Z.moved hvm h.2.1, va_Zq.moved hvm h.2.2⟩
theorem am_Z.kept {adK adV : Nat → Nat} {b0 : Nat} {U : State} {H H1 : Heap} (h : am_Z adK adV b0 U H) (hq : ∀ a : Nat, a < H.size → ¬ b0 ≤ a → H1[a]? = H[a]?) : am_Z adK adV b0 U H1 :=
  ⟨fun i hi => ⟨(h.1 i hi).1.kept hq, (h.1 i hi).2.1.kept hq, (h.1 i hi).2.2.1.kept hq, (h.1 i hi).2.2.2.kept hq⟩, h.2.1.kept hq, h.2.2.kept hq⟩
/-- of the tables alone -/
def am_KT (D : va_G) (adK : Nat → Nat) (cA : Nat → ClassId) (U : State) : Prop :=
  va_K D am_cl (am_tys cA) U ∧ (∀ (a : String) (i : Nat) (x : MethodName) (h : String), Cond.methodLinkNest a i x h ∈ lw_tbl → va_Nw (.methodLinkNest a i x h) U) ∧ (va_AO RX5 U ∧ va_AO RX4 U ∧ va_AO "java/lang/String" U) ∧ ∀ e ∈ am_S, vk_R (am_cn e.1) e.2.1 (am_tx.getD e.2.2.1 "") (adK e.2.2.1) U
theorem am_KT.warm {D : va_G} {adK : Nat → Nat} {cA : Nat → ClassId} {s U : State} (hW : s.WarmedH U.vm) (h : am_KT D adK cA s) : am_KT D adK cA U :=
  ⟨va_K.moved hW.alike h.1, fun a i x q hm => va_Nw.warmM hW (h.2.1 a i x q hm), ⟨h.2.2.1.1.moved hW.alike, h.2.2.1.2.1.moved hW.alike, h.2.2.1.2.2.moved hW.alike⟩, fun e he => vk_R.warm hW (h.2.2.2 e he)⟩
theorem am_KT.same {D : va_G} {adK : Nat → Nat} {cA : Nat → ClassId} {s U : State} (hv : U.vm = s.vm) (h : am_KT D adK cA s) : am_KT D adK cA U :=
  ⟨va_K.moved (by rw [hv]; exact Vm.Alike.refl _) h.1, fun a i x q hm => va_Nw.same rfl hv.symm (h.2.1 a i x q hm), ⟨h.2.2.1.1.moved (by rw [hv]; exact Vm.Alike.refl _), h.2.2.1.2.1.moved (by rw [hv]; exact Vm.Alike.refl _), h.2.2.1.2.2.moved (by rw [hv]; exact Vm.Alike.refl _)⟩, fun e he => vk_R.same hv (h.2.2.2 e he)⟩
/-- the frame: its machine, code, class, words, name -/
def am_FX (p : Program) (s : State) (m : MethodId) (args : Array Value) (meth : Method) (c : Code) (y : am_MI) : Prop :=
  p.tables.exec = Jvm.exec ∧ c.code = y.2.2.1 ∧ c.maxLocals = y.2.2.2.1 ∧ s.vm.findClass (am_cn y.1) = some m.cls ∧ (∀ w ∈ am_tG, w.before args s = true) ∧ meth.name = y.2.1.name
theorem am_iv_some {v : Option Value} {k : Int32 → Option am_C} {z : am_C} (h : am_iv v k = some z) : ∃ x, v = some (.int x) ∧ k x = some z := by
  unfold am_iv at h
  split at h
  · exact ⟨_, rfl, h⟩
  · cases h
theorem am_rv_some {v : Option Value} {k : Nat → Option am_C} {z : am_C} (h : am_rv v k = some z) : ∃ x, v = some (.ref x) ∧ k x = some z := by
  unfold am_rv at h
  split at h
  · exact ⟨_, rfl, h⟩
  · cases h
theorem am_1i_some {st : List Value} {k : Int32 → List Value → Option am_C} {z : am_C} (h : am_1i st k = some z) : ∃ x r, st = .int x :: r ∧ k x r = some z := by
  unfold am_1i at h
  split at h
  · exact ⟨_, _, rfl, h⟩
  · cases h
theorem am_2i_some {st : List Value} {k : Int32 → Int32 → List Value → Option am_C} {z : am_C} (h : am_2i st k = some z) : ∃ x y r, st = .int y :: .int x :: r ∧ k x y r = some z := by
  unfold am_2i at h
  split at h
  · exact ⟨_, _, _, rfl, h⟩
  · cases h
theorem am_1r_some {st : List Value} {k : Nat → List Value → Option am_C} {z : am_C} (h : am_1r st k = some z) : ∃ x r, st = .ref x :: r ∧ k x r = some z := by
  unfold am_1r at h
  split at h
  · exact ⟨_, _, rfl, h⟩
  · cases h
theorem am_2l_some {st : List Value} {k : Int64 → Int64 → List Value → Option am_C} {z : am_C} (h : am_2l st k = some z) : ∃ x y r, st = .long y :: .long x :: r ∧ k x y r = some z := by
  unfold am_2l at h
  split at h
  · exact ⟨_, _, _, rfl, h⟩
  · cases h
theorem am_tg_some {pc : Nat} {off : Int} {k : Nat → Option am_C} {z : am_C} (h : am_tg pc off k = some z) : ∃ t : Nat, (pc : Int) + off = (t : Int) ∧ k t = some z := by
  unfold am_tg at h
  split at h
  · rename_i h0
    exact ⟨_, (Int.toNat_of_nonneg h0).symm, h⟩
  · cases h
theorem am_ite_some {c : Prop} [Decidable c] {a : Option am_C} {z : am_C} (h : (if c then a else none) = some z) : c ∧ a = some z := by
  split at h
  · exact ⟨‹_›, h⟩
  · cases h
theorem am_adr_lt {b0 : Nat} {adK : Nat → Nat} {a : Nat} (h : (am_kd a).1 < 99) : am_adr b0 adK a = b0 + a := by
  have := am_kd_lt h
  unfold am_adr
  rw [if_pos (by omega)]
theorem am_adr_s {b0 : Nat} {adK : Nat → Nat} {t : Nat} : am_adr b0 adK (1000000 + t) = adK t := by
  unfold am_adr
  rw [if_neg (by omega), Nat.add_sub_cancel_left]
theorem am_ce_0 {b0 : Nat} {adK : Nat → Nat} {cA : Nat → ClassId} {a : Nat} {row : Nat → Value} (h : (am_kd a).1 = 0) : am_ce b0 adK cA a row = .inl (cA 0, ((am_kd a).2, .inl (fun j => am_ai (row j)))) := by
  unfold am_ce
  rw [h]
theorem am_ce_q {b0 : Nat} {adK : Nat → Nat} {cA : Nat → ClassId} {a t : Nat} {row : Nat → Value} (h : (am_kd a).1 = t) (h1 : 1 ≤ t) (h3 : t ≤ 3) : am_ce b0 adK cA a row = .inl (cA t, ((am_kd a).2, .inr (.inr (.inr (.inr (fun j => am_ar b0 adK (row j))))))) := by
  unfold am_ce
  match t, h, h1, h3 with
  | 1, h, _, _ => rw [h]
  | 2, h, _, _ => rw [h]
  | 3, h, _, _ => rw [h]
  | 0, _, h1, _ => exact absurd h1 (by decide)
  | t + 4, _, _, h3 => exact absurd h3 (by omega)
theorem am_ce_obj {b0 : Nat} {adK : Nat → Nat} {cA : Nat → ClassId} {a k : Nat} {row : Nat → Value} (h : (am_kd a).1 = 4 + k) : am_ce b0 adK cA a row = .inr (k, (List.range (am_kd a).2).map (fun j => am_tr b0 adK (row j))) := by
  unfold am_ce
  rw [h, Nat.add_comm]
theorem am_fs_get {b0 : Nat} {adK : Nat → Nat} {row : Nat → Value} {n k : Nat} (h : k < n) : ((List.range n).map (fun j => am_tr b0 adK (row j)))[k]? = some (am_tr b0 adK (row k)) := by
  simp [h]
theorem am_fs_set {b0 : Nat} {adK : Nat → Nat} {row : Nat → Value} {n k : Nat} {v : Value} : ((List.range n).map (fun j => am_tr b0 adK (row j))).set k (am_tr b0 adK v) = (List.range n).map (fun j => am_tr b0 adK (if j = k then v else row j)) := by
  apply List.ext_getElem?
  intro i
  by_cases hi : i < n
  · by_cases e : i = k
    · subst e
      simp [hi]
    · rw [List.getElem?_set_ne (fun q => e q.symm)]
      simp [hi, e]
  · rw [List.getElem?_eq_none (by simp; omega), List.getElem?_eq_none (by simp; omega)]
section AMW
variable {p : Program} {l : Launch} {e : Env} {R : Room} {s : State} {m : MethodId} {args : Array Value} {below : List Frame} {meth : Method} {c : Code} {H : Heap} {locs : List Loc} {cells slots : Nat} {Q : State → Prop}
theorem am_wsz {g : JFrame} (k : H.size ≤ s.heap.size + cells → W p l e R s m args below meth c H locs cells slots Q g) : W p l e R s m args below meth c H locs cells slots Q g := by
  intro T hT X
  refine k ?_ T hT X
  have h := X.same.2.2.1
  rw [← hT]
  exact h
theorem am_ldcSw {cc : ByteArray} {pc : Nat} {ls : Array Slot} {rest : List Value} (hexec : p.tables.exec = Jvm.exec) (hb : c.code = cc) {own tx : String} {index q : Nat} (hown : s.vm.findClass own = some m.cls) (hZ : vk_R own index tx q s) (hdg : decode cc pc = .ok (.ldc_w index, 3))
    (k : W p l e R s m args below meth c H locs cells slots Q (F0 m (pc + 3) ls (.ref q :: rest))) : W p l e R s m args below meth c H locs cells slots Q (F0 m pc ls rest) := by
  intro T hT X
  obtain ⟨t, a1, b1⟩ := k T hT X
  exact ⟨t, X.ldcStringW hexec hown (text := tx) (a := q) hZ.1 hZ.2 (g := F0 m pc ls rest) rfl (by rw [hb]; exact hdg) t a1, b1⟩
end AMW
theorem am_fresh {D : va_G} {b0 : Nat} {adK : Nat → Nat} {cA : Nat → ClassId} {hp : am_H} {q : Nat} {z : va_E} {H : Heap} (hP : va_P D am_cl (am_ws b0 adK cA hp ++ [(q, z)]) H) (hD : va_D (fun q : Nat => b0 ≤ q) (am_ws b0 adK cA hp ++ [(q, z)])) (hz : H.size ≤ b0 + hp.1 + 1) : q = b0 + hp.1 := by
  have hlen : (am_ws b0 adK cA hp).length = hp.1 := by simp [am_ws]
  have hq : (am_ws b0 adK cA hp ++ [(q, z)])[hp.1]? = some (q, z) := by
    rw [List.getElem?_append_right (by omega), hlen]
    simp
  have h1 : q < H.size := (hP _ _ hq).lt
  have h2 : b0 ≤ q := hD.2 _ _ hq
  rcases Nat.lt_or_ge q (b0 + hp.1) with h3 | h3
  · exfalso
    have hi : q - b0 < hp.1 := by omega
    have hg : (am_ws b0 adK cA hp ++ [(q, z)])[q - b0]? = some (b0 + (q - b0), am_ce b0 adK cA (q - b0) (hp.2 (q - b0))) := by
      rw [List.getElem?_append_left (by omega)]
      exact am_ws_get hi
    have := hD.1 _ _ _ _ hg hq (by simp only; omega)
    omega
  · omega
