/-! what the Statement gives of the start: classes, rows, texts -/
def sx_L : List Cond := flatC (Jvm.Cond.and given_1 narrow_1)
def sx_ix (t : Nat) : Nat := [123, 125, 127, 129, 131, 133, 135, 96, 98, 75, 104, 112, 84, 89, 90].getD t 0
def sx_tm (t : Nat) : Term := .string RX0 (sx_ix t)
def sx_fv (t : Nat) : Term := .field (sx_tm t) "java/lang/String" "value" "[B"
def sx_T (t : Nat) : Bool := decide (Cond.exactly (sx_tm t) "java/lang/String" ∈ sx_L) && (decide (Cond.eq (.field (sx_tm t) "java/lang/String" "coder" "B") (.int 0) ∈ sx_L) && (decide (Cond.arrayOf (sx_fv t) .byte ∈ sx_L) && (decide (Cond.eq (.length (sx_fv t)) (.int (Int32.ofNat (am_by.getD t []).length)) ∈ sx_L) && (List.range (am_by.getD t []).length).all (fun j => decide (Cond.eq (.elem (sx_fv t) (.int (Int32.ofNat j))) (.int (nI ((am_by.getD t []).getD j 0))) ∈ sx_L)))))
set_option maxRecDepth 100000 in
theorem sx_c : (List.range 15).all sx_T = true := by decide +kernel
def sx_S (e : Nat × Nat × Nat × Nat) : Bool := am_wt e.2.2.2 (.stringRef (am_cn e.1) e.2.1 (am_tx.getD e.2.2.1 "")) && (decide (e.2.2.1 < 15) && (decide (e.1 = 0 ∧ e.2.1 = sx_ix e.2.2.1) || decide (Cond.eq (sx_tm e.2.2.1) (.string (am_cn e.1) e.2.1) ∈ sx_L)))
set_option maxRecDepth 100000 in
theorem sx_Sc : am_S.all sx_S = true := by decide +kernel
set_option maxRecDepth 100000 in
theorem sx_m : Cond.eq (.static "java/lang/String" "COMPACT_STRINGS" "Z") (.int 1) ∈ sx_L ∧ Cond.isRef (.static "jdk/internal/util/Preconditions" "SIOOBE_FORMATTER" "Ljava/util/function/BiFunction;") ∈ sx_L := by decide +kernel
theorem sx_w1 : Cond.laysStatic "java/lang/String" "COMPACT_STRINGS" "Z" ∈ lw_tbl := am_wt_in (i := 3235) (by decide +kernel)
theorem sx_w2 : Cond.laysStatic "jdk/internal/util/Preconditions" "SIOOBE_FORMATTER" "Ljava/util/function/BiFunction;" ∈ lw_tbl := am_wt_in (i := 4011) (by decide +kernel)
theorem sx_ao : Cond.arrayOver (.object RX5) ∈ lw_tbl ∧ Cond.arrayOver (.object RX4) ∈ lw_tbl ∧ Cond.arrayOver (.object "java/lang/String") ∈ lw_tbl := by decide +kernel
theorem sx_Z {b : Nat} {s : State} (hts : ∀ w ∈ lw_tbl, w.before #[Value.ref b] s = true) (hgv : (Jvm.Cond.and given_1 narrow_1).before #[Value.ref b] s = true) : ∃ adK adV : Nat → Nat, am_Z adK adV s.heap.size s s.heap ∧ ∀ i : Nat, i < 15 → (sx_tm i).eval #[Value.ref b] s none [] s = some (.ref (adK i)) := by
  have hs : ∀ c ∈ sx_L, c.before #[Value.ref b] s = true := flat_of_before _ hgv
  have hA : ∀ a : Nat, a < s.heap.size → ¬ (fun q : Nat => s.heap.size ≤ q) a := fun a h => Nat.not_le.mpr h
  have h0 : ∀ i : Nat, ∃ q : Nat × Nat, i < 15 → (sx_tm i).eval #[Value.ref b] s none [] s = some (.ref q.1) ∧ va_O "java/lang/String" q.1 (fun q : Nat => s.heap.size ≤ q) s s.heap ∧ va_OF "java/lang/String" "coder" "B" (.int 0) q.1 (fun q : Nat => s.heap.size ≤ q) s s.heap ∧ va_OF "java/lang/String" "value" "[B" (.ref q.2) q.1 (fun q : Nat => s.heap.size ≤ q) s s.heap ∧ va_T .byte q.2 (am_by.getD i []).length (fun j => .int (nI ((am_by.getD i []).getD j 0))) (fun q : Nat => s.heap.size ≤ q) s s.heap := by
    intro i
    by_cases hi : i < 15
    · have hT := List.all_eq_true.mp sx_c i (List.mem_range.mpr hi)
      simp only [sx_T, Bool.and_eq_true, decide_eq_true_eq, List.all_eq_true, List.mem_range] at hT
      obtain ⟨t1, t2, t3, t4, t5⟩ := hT
      have hl20 := tx_l0 ⟨i, hi⟩
      simp only at hl20
      obtain ⟨a, c, cA, kA, q1, q2, q3, q4, q5, q6, -⟩ := Cond.exactly_spec (args := #[Value.ref b]) (first := s) (o := none) (s := s) (idx := []) (t := sx_tm i) (cls := "java/lang/String") (hs _ t1)
      obtain ⟨t, ht, hT⟩ := va_Tof (f := fun j => .int (nI ((am_by.getD i []).getD j 0))) (A := fun q : Nat => s.heap.size ≤ q) (show (am_by.getD i []).length < 2 ^ 31 by omega) (hs _ t3) (va_eqt (hs _ t4)) (fun j hj => va_eqt (hs _ (t5 j hj))) hA
      exact ⟨(a, t), fun _ => ⟨q1, ⟨cA, q3, q5, by rw [q6]; exact q2, hA a (Array.getElem?_eq_some_iff.mp q3).1⟩, vk_OFof q1 (va_eqt (hs _ t2)) hA, vk_OFof q1 ht hA, hT⟩⟩
    · exact ⟨(0, 0), fun h => absurd h hi⟩
  obtain ⟨ad, had⟩ := Classical.axiomOfChoice h0
  refine ⟨fun i => (ad i).1, fun i => (ad i).2, ⟨fun i hi => (had i hi).2, ?_, ?_⟩, fun i hi => (had i hi).1⟩
  · exact va_Zof (hts _ sx_w1) (hts _ (am_tG_tbl _ tw_iS)) (va_eqi (hs _ sx_m.1)) hA
  · exact va_Zqof (hts _ sx_w2) (hts _ (am_tG_tbl _ tw_iP)) (hs _ sx_m.2) hA
theorem sx_arr {b : Nat} {s : State} {C : String} (h : (Cond.arrayOver (.object C)).before #[Value.ref b] s = true) : ∃ cA : ClassId, ArrOfT s cA (.object C) ∧ va_RA s cA (.object C) := by
  obtain ⟨comp, cA, kA, hcomp, hidx, hkA, hkindA, hnameA⟩ := Cond.arrayOver_spec h
  exact ⟨cA, fun N z => ⟨(fun k h => by cases h), kA, hkA, comp, hkindA⟩, kA, comp, hkA, hkindA, hcomp, hnameA⟩
theorem sx_K {b : Nat} {s : State} {adK : Nat → Nat} (hts : ∀ w ∈ lw_tbl, w.before #[Value.ref b] s = true) (hgv : (Jvm.Cond.and given_1 narrow_1).before #[Value.ref b] s = true) (hK : ∀ i : Nat, i < 15 → (sx_tm i).eval #[Value.ref b] s none [] s = some (.ref (adK i))) : ∃ (D : va_G) (cA : Nat → ClassId), am_KT D adK cA s := by
  have hs : ∀ c ∈ sx_L, c.before #[Value.ref b] s = true := flat_of_before _ hgv
  have h0 : ∀ c : Nat, ∃ q : ClassId × (Nat → Nat), c < 9 → u_Kn s (am_cn c) (am_T c) (am_nf c) q.1 q.2 := by
    intro c
    by_cases hc : c < 9
    · obtain ⟨cC, iS, h⟩ := u_known (C := am_cn c) (T := am_T c) (N := am_nf c) (n := am_nf c) (fun w hw => hts w (am_tG_tbl w hw)) (am_lay hc) (hts _ (am_tG_tbl _ (am_inst_c ⟨c, hc⟩).1))
      exact ⟨(cC, iS), fun _ => h⟩
    · exact ⟨(0, fun _ => 0), fun h => absurd h hc⟩
  obtain ⟨ad, had⟩ := Classical.axiomOfChoice h0
  obtain ⟨c0, k0, comp0, g1, g2, g3⟩ := Cond.arrayClass_spec (hts _ (am_tG_tbl _ am_misc.2.2.2.2.2))
  obtain ⟨c1, a1, r1⟩ := sx_arr (hts _ sx_ao.1)
  obtain ⟨c2, a2, r2⟩ := sx_arr (hts _ sx_ao.2.1)
  obtain ⟨c3, a3, r3⟩ := sx_arr (hts _ sx_ao.2.2)
  refine ⟨(fun c => (ad c).1, fun c => (ad c).2), fun t => match t with | 0 => c0 | 1 => c1 | 2 => c2 | _ => c3, ⟨fun c q hq => ?_, fun k q hq => ?_⟩, fun a i x h hm => va_Nw.of rfl (hts _ hm), ⟨va_AO.of (hts _ sx_ao.1), va_AO.of (hts _ sx_ao.2.1), va_AO.of (hts _ sx_ao.2.2)⟩, fun e he => ?_⟩
  · have hc : c < 9 := (List.getElem?_eq_some_iff.mp hq).1
    rw [am_cl_get hc] at hq
    cases hq
    exact had c hc
  · match k, hq with
    | 0, hq => cases hq; exact ⟨fun N z => ⟨(fun k h => by cases h), k0, g2, comp0, g3⟩, g1⟩
    | 1, hq => cases hq; exact ⟨a1, r1⟩
    | 2, hq => cases hq; exact ⟨a2, r2⟩
    | 3, hq => cases hq; exact ⟨a3, r3⟩
    | k + 4, hq => simp [am_tys] at hq
  · have hS := List.all_eq_true.mp sx_Sc e he
    simp only [sx_S, Bool.and_eq_true, Bool.or_eq_true, decide_eq_true_eq] at hS
    obtain ⟨q1, q2, q3⟩ := hS
    refine vk_R.of (hts _ (am_wt_in q1)) ?_
    rcases q3 with ⟨z1, z2⟩ | z
    · have := hK e.2.2.1 q2
      rw [z1, z2]
      exact this
    · exact va_eqR (hs _ z) (hK e.2.2.1 q2)
