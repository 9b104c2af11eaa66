/-! the class's towns copied and grown; her scene -/
section CV
variable {d : Nat} {h : hT} {K : Int → hT → Prop} {KV : hT → Prop} {T : Int} {N : Int → Int}
/-- the neighbours of a corner -/
def nbP (N : Int → Int) (w c : Int) : Nat → Bool := fun j => decide (0 ≤ byF N w c (j : Int))
def nbF (N : Int → Int) (w c : Int) : Int := ((mkS (nbP N w c) 8 : Nat) : Int)
theorem byF_ex {N : Int → Int} {w c j : Int} (h8 : 0 ≤ N 8) : 0 ≤ byF N w c j ↔ ∃ s, 0 ≤ s ∧ s < N 8 ∧ endsP N w c j s = true := by
  constructor
  · intro hq
    rcases fsM_b (endsP N w c j) (N 8).toNat 0 (by omega) with q | ⟨q1, q2, q3⟩
    · unfold byF at hq; omega
    · exact ⟨_, q1, by omega, q3⟩
  · rintro ⟨s, s0, s1, hs⟩
    have key : ∀ (n : Nat) (k : Int), 0 ≤ k → k ≤ s → s < k + n → 0 ≤ fsM (endsP N w c j) k n := by
      intro n
      induction n with
      | zero => intro k _ h1 h2; omega
      | succ n ih =>
        intro k k0 h1 h2
        rw [fsM]
        split
        · exact k0
        · rename_i hk
          by_cases e : k = s
          · subst e; exact absurd hs hk
          · exact ih (k + 1) (by omega) (by omega) (by omega)
    exact key _ 0 (by omega) s0 (by omega)
theorem c_neighbours {c : Int} (hT : tw T) (hR : RT h T N) (hO : okT N) (hc : 0 ≤ c ∧ c ≤ 7) (k : K (nbF N (-1) c) h) : ClI (d + 2) mX6_neighbours [vr T, vi c] h K := by
  have h8 := hO.1
  have key : ∀ (n : Nat) (i : Int) (m : Nat), 0 ≤ i → i + n = N 8 → m < 256 → (∀ j : Nat, m.testBit j = true ↔ j < 8 ∧ ∃ s, 0 ≤ s ∧ s < i ∧ endsP N (-1) c (j : Int) s = true) → ∀ w, Yr (d + 1) mX6_neighbours 4 [vr T, vi c, vi (m : Int), vi i, w] [] h (rI K) := by
    intro n
    induction n with
    | zero =>
      intro i m hi hn hm hb w
      refine yr_iload_n (pq := 5) rfl dX6_neighbours_4 rfl ?_
      refine yr_aload_n (pq := 6) rfl dX6_neighbours_5 rfl ?_
      refine yr_getI (pq := 9) 1 rfl dX6_neighbours_6 kF_6_17 (by decide) rfl (tw_c hT) ?_
      rw [hR.1]
      refine yr_ic_ge (pq := 12) (t := 42) rfl dX6_neighbours_9 rfl (by omega) (by omega) (fun _ => ?_) (fun q9 => absurd (by omega) q9)
      refine yr_iload_n (pq := 43) rfl dX6_neighbours_42 rfl ?_
      have e : m = mkS (nbP N (-1) c) 8 := by
        refine mkS_eq (fun j => ?_)
        have := hb j
        rw [Bool.eq_iff_iff, Bool.and_eq_true, decide_eq_true_eq, this]
        unfold nbP
        rw [decide_eq_true_eq, byF_ex h8.1]
        rw [show i = N 8 by omega]
      rw [e]
      exact yr_iret dX6_neighbours_43 rfl (k)
    | succ n ih =>
      intro i m hi hn hm hb w
      obtain ⟨b1, b2, b3⟩ := rt_ends hR hO hi (by omega)
      have ea := fun b (hb : 0 ≤ b) => rt_acr hR hO hi (by omega) hb (a := c)
      refine yr_iload_n (pq := 5) rfl dX6_neighbours_4 rfl ?_
      refine yr_aload_n (pq := 6) rfl dX6_neighbours_5 rfl ?_
      refine yr_getI (pq := 9) 1 rfl dX6_neighbours_6 kF_6_17 (by decide) rfl (tw_c hT) ?_
      rw [hR.1]
      refine yr_ic_ge (pq := 12) (t := 42) rfl dX6_neighbours_9 rfl (by omega) (by omega) (fun q9 => absurd q9 (by omega)) (fun _ => ?_)
      refine yr_aload_n (pq := 13) rfl dX6_neighbours_12 rfl ?_
      refine yr_getR (pq := 16) 0 rfl dX6_neighbours_13 kF_6_11 (tw_c hT) (fr_6_0 hT) ?_
      refine yr_iload_n (pq := 17) rfl dX6_neighbours_16 rfl ?_
      refine yr_aald (pq := 18) rfl dX6_neighbours_17 (tw_k1 hT) (by decide) (by omega) (st_q hT (by omega) (by omega)) ?_
      refine yr_iload_n (pq := 19) rfl dX6_neighbours_18 rfl ?_
      refine yr_vI1 (pq := 22) rfl dX6_neighbours_19 kM_6_68 (by decide) (st_c hT (by omega) (by omega)) cat0 (c_across (st_c hT (by omega) (by omega)) (by omega) (by omega) (by omega) ?_)
      have hz : -1 ≤ (if c = h (T + 6 + i) 1 then h (T + 6 + i) 2 else if c = h (T + 6 + i) 2 then h (T + 6 + i) 1 else -1) ∧ (if c = h (T + 6 + i) 1 then h (T + 6 + i) 2 else if c = h (T + 6 + i) 2 then h (T + 6 + i) 1 else -1) ≤ 7 := by
        split
        · omega
        · split <;> omega
      generalize (if c = h (T + 6 + i) 1 then h (T + 6 + i) 2 else if c = h (T + 6 + i) 2 then h (T + 6 + i) 1 else -1) = z at ea hz ⊢
      refine yr_istore4 (pq := 24) rfl dX6_neighbours_22 ?_
      refine yr_iload (pq := 26) rfl dX6_neighbours_24 rfl ?_
      refine yr_if_lt (pq := 29) (t := 36) rfl dX6_neighbours_26 rfl (by omega) (fun q => ?_) (fun q => ?_)
      · refine yr_iinc3 (pq := 39) rfl dX6_neighbours_36 ?_
        refine yr_goto (t := 4) dX6_neighbours_39 rfl ?_
        refine ih _ m (by omega) (by omega) hm (fun j => ?_) _
        rw [hb j]
        constructor
        · rintro ⟨j8, s, s0, s1, hs⟩
          exact ⟨j8, s, s0, by omega, hs⟩
        · rintro ⟨j8, s, s0, s1, hs⟩
          refine ⟨j8, s, s0, ?_, hs⟩
          by_cases e : s = i
          · subst e
            have := (ea j (by omega)).mpr hs
            omega
          · omega
      · refine yr_iload_n (pq := 30) rfl dX6_neighbours_29 rfl ?_
        refine yr_iconst (pq := 31) rfl dX6_neighbours_30 ?_
        refine yr_iload (pq := 33) rfl dX6_neighbours_31 rfl ?_
        refine yr_ishl (pq := 34) rfl dX6_neighbours_33 ?_
        refine yr_ior (pq := 35) rfl dX6_neighbours_34 ?_
        refine yr_istore2 (pq := 36) rfl dX6_neighbours_35 ?_
        refine yr_iinc3 (pq := 39) rfl dX6_neighbours_36 ?_
        refine yr_goto (t := 4) dX6_neighbours_39 rfl ?_
        obtain ⟨f, rfl⟩ := Int.eq_ofNat_of_zero_le (show 0 ≤ z by omega)
        have hp : 2 ^ f < 256 := Nat.pow_lt_pow_right (m := f) (n := 8) (by decide) (by omega)
        rw [il_nat (by omega), io_nat (by omega) (by omega)]
        refine ih _ (m ||| 2 ^ f) (by omega) (by omega) (Nat.or_lt_two_pow (n := 8) hm hp) (fun j => ?_) _
        rw [Nat.testBit_or, Bool.or_eq_true, hb j, Nat.testBit_two_pow, decide_eq_true_eq]
        constructor
        · rintro (⟨j8, s, s0, s1, hs⟩ | rfl)
          · exact ⟨j8, s, s0, by omega, hs⟩
          · exact ⟨by omega, i, hi, by omega, (ea f (by omega)).mp rfl⟩
        · rintro ⟨j8, s, s0, s1, hs⟩
          by_cases e : s = i
          · subst e
            right
            have := (ea j (by omega)).mpr hs
            omega
          · exact Or.inl ⟨j8, s, s0, by omega, hs⟩
  refine cl_in (al := [vr T, vi c, .null, .null, .null]) rfl (Nat.le_of_ble_eq_true rfl) (by simp [vi_cat, vr_cat, vs_cat]) ?_
  refine yr_iconst (pq := 1) rfl dX6_neighbours_0 ?_
  refine yr_istore2 (pq := 2) rfl dX6_neighbours_1 ?_
  refine yr_iconst (pq := 3) rfl dX6_neighbours_2 ?_
  refine yr_istore3 (pq := 4) rfl dX6_neighbours_3 ?_
  exact key (N 8).toNat 0 0 (by omega) (by omega) (by decide) (fun j => by
    rw [Nat.zero_testBit]
    constructor
    · intro q; cases q
    · rintro ⟨-, s, s0, s1, -⟩; omega) _
/-- a new street -/
def addN (N : Int → Int) (kd a b l u : Int) : Int → Int := ur (ur (ur (ur (ur (ur N (53 + 5 * N 8 + 0) kd) (53 + 5 * N 8 + 1) (min a b)) (53 + 5 * N 8 + 2) (max a b)) (53 + 5 * N 8 + 3) l) (53 + 5 * N 8 + 4) u) 8 (N 8 + 1)
theorem addN_ok {kd a b l u : Int} (hO : okT N) (h14 : N 8 < 14) (hk : 0 ≤ kd ∧ kd ≤ 6) (ha : 0 ≤ a ∧ a ≤ 7) (hb : 0 ≤ b ∧ b ≤ 7) (hab : a ≠ b) (hl : 1 ≤ l ∧ l ≤ 20) (hu : 0 ≤ u ∧ u ≤ 1) : okT (addN N kd a b l u) := by
  have h8 := hO.1
  have e8 : addN N kd a b l u 8 = N 8 + 1 := by unfold addN; rw [ur_s]
  have lo : ∀ j, j < 53 → j ≠ 8 → addN N kd a b l u j = N j := fun j j1 j2 => by
    unfold addN
    rw [ur_o j2, ur_o (by omega), ur_o (by omega), ur_o (by omega), ur_o (by omega), ur_o (by omega)]
  have hi : ∀ s f, 0 ≤ s → s < N 8 → 0 ≤ f → f ≤ 4 → addN N kd a b l u (53 + 5 * s + f) = N (53 + 5 * s + f) := fun s f s0 s1 f0 f1 => by
    unfold addN
    rw [ur_o (by omega), ur_o (by omega), ur_o (by omega), ur_o (by omega), ur_o (by omega), ur_o (by omega)]
  refine ⟨by rw [e8]; omega, fun c c0 c1 => by rw [lo c (by omega) (by omega)]; exact hO.2.1 c c0 c1, fun i i0 i1 => by rw [lo _ (by omega) (by omega)]; exact hO.2.2.1 i i0 i1, fun i i0 i1 => by rw [lo _ (by omega) (by omega)]; exact hO.2.2.2.1 i i0 i1, fun s s0 s1 => ?_⟩
  rw [e8] at s1
  by_cases e : s = N 8
  · subst e
    have f0 : addN N kd a b l u (53 + 5 * N 8 + 0) = kd := by unfold addN; rw [ur_o (by omega), ur_o (by omega), ur_o (by omega), ur_o (by omega), ur_o (by omega), ur_s]
    have f1 : addN N kd a b l u (53 + 5 * N 8 + 1) = min a b := by unfold addN; rw [ur_o (by omega), ur_o (by omega), ur_o (by omega), ur_o (by omega), ur_s]
    have f2 : addN N kd a b l u (53 + 5 * N 8 + 2) = max a b := by unfold addN; rw [ur_o (by omega), ur_o (by omega), ur_o (by omega), ur_s]
    have f3 : addN N kd a b l u (53 + 5 * N 8 + 3) = l := by unfold addN; rw [ur_o (by omega), ur_o (by omega), ur_s]
    have f4 : addN N kd a b l u (53 + 5 * N 8 + 4) = u := by unfold addN; rw [ur_o (by omega), ur_s]
    rw [f0, f1, f2, f3, f4]
    omega
  · have s1 : s < N 8 := by omega
    rw [hi s 0 s0 s1 (by omega) (by omega), hi s 1 s0 s1 (by omega) (by omega), hi s 2 s0 s1 (by omega) (by omega), hi s 3 s0 s1 (by omega) (by omega), hi s 4 s0 s1 (by omega) (by omega)]
    exact hO.2.2.2.2 s s0 s1
theorem c_add {kd a b l u : Int} (hT : tw T) (hR : RT h T N) (hO : okT N) (h14 : N 8 < 14)
    (k : ∀ h', (∀ c, c ≠ T → c ≠ T + 6 + N 8 → h' c = h c) → RT h' T (addN N kd a b l u) → K (N 8) h') : ClI (d + 2) mX6_add [vr T, vi kd, vi a, vi b, vi l, vi u] h K := by
  have h8 := hO.1
  refine cl_in (al := [vr T, vi kd, vi a, vi b, vi l, vi u, .null]) rfl (Nat.le_of_ble_eq_true rfl) (by simp [vi_cat, vr_cat, vs_cat]) ?_
  refine yr_aload_n (pq := 1) rfl dX6_add_0 rfl ?_
  refine yr_vI0 (pq := 4) rfl dX6_add_1 kM_6_49 (by decide) (tw_c hT) cat0 (c_isFull hT hR.1 h8 (fun q => ?_) (fun q => ?_))
  · omega
  · refine yr_if_eq (pq := 7) (t := 9) rfl dX6_add_4 rfl (by decide) (fun _ => ?_) (fun q9 => absurd (by decide) q9)
    refine yr_aload_n (pq := 10) rfl dX6_add_9 rfl ?_
    refine yr_getR (pq := 13) 0 rfl dX6_add_10 kF_6_11 (tw_c hT) (fr_6_0 hT) ?_
    refine yr_aload_n (pq := 14) rfl dX6_add_13 rfl ?_
    refine yr_getI (pq := 17) 1 rfl dX6_add_14 kF_6_17 (by decide) rfl (tw_c hT) ?_
    rw [hR.1]
    refine yr_aald (pq := 18) rfl dX6_add_17 (tw_k1 hT) (by decide) (by omega) (st_q hT (by omega) (by omega)) ?_
    refine yr_astore6 (pq := 20) rfl dX6_add_18 ?_
    refine yr_aload (pq := 22) rfl dX6_add_20 rfl ?_
    refine yr_iload_n (pq := 23) rfl dX6_add_22 rfl ?_
    refine yr_putI (pq := 26) 0 rfl dX6_add_23 kF_6_53 (by decide) rfl rfl (st_c hT (by omega) (by omega)) ?_
    refine yr_aload (pq := 28) rfl dX6_add_26 rfl ?_
    refine yr_iload_n (pq := 29) rfl dX6_add_28 rfl ?_
    refine yr_putI (pq := 32) 1 rfl dX6_add_29 kF_6_56 (by decide) rfl rfl (st_c hT (by omega) (by omega)) ?_
    refine yr_aload (pq := 34) rfl dX6_add_32 rfl ?_
    refine yr_iload_n (pq := 35) rfl dX6_add_34 rfl ?_
    refine yr_putI (pq := 38) 2 rfl dX6_add_35 kF_6_59 (by decide) rfl rfl (st_c hT (by omega) (by omega)) ?_
    refine yr_aload (pq := 40) rfl dX6_add_38 rfl ?_
    refine yr_iload (pq := 42) rfl dX6_add_40 rfl ?_
    refine yr_putI (pq := 45) 3 rfl dX6_add_42 kF_6_62 (by decide) rfl rfl (st_c hT (by omega) (by omega)) ?_
    refine yr_aload (pq := 47) rfl dX6_add_45 rfl ?_
    refine yr_iload (pq := 49) rfl dX6_add_47 rfl ?_
    refine yr_putI (pq := 52) 4 rfl dX6_add_49 kF_6_65 (by decide) rfl rfl (st_c hT (by omega) (by omega)) ?_
    refine yr_aload_n (pq := 53) rfl dX6_add_52 rfl ?_
    refine yr_dup (pq := 54) rfl dX6_add_53 rfl ?_
    refine yr_getI (pq := 57) 1 rfl dX6_add_54 kF_6_17 (by decide) rfl (tw_c hT) ?_
    refine yr_iconst (pq := 58) rfl dX6_add_57 ?_
    refine yr_iadd (pq := 59) rfl dX6_add_58 ?_
    refine yr_putI (pq := 62) 1 rfl dX6_add_59 kF_6_17 (by decide) rfl rfl (tw_c hT) ?_
    refine yr_aload_n (pq := 63) rfl dX6_add_62 rfl ?_
    refine yr_getI (pq := 66) 1 rfl dX6_add_63 kF_6_17 (by decide) rfl (tw_c hT) ?_
    refine yr_iconst (pq := 67) rfl dX6_add_66 ?_
    refine yr_isub (pq := 68) rfl dX6_add_67 ?_
    simp (disch := omega) only [up_o, up_k, up_s, hR.1]
    rw [show N 8 + 1 - 1 = N 8 by omega]
    refine yr_iret dX6_add_68 rfl (k _ (fun c q1 q2 => ?_) ?_)
    · rw [up_ne q1, up_ne q2, up_ne q2, up_ne q2, up_ne q2, up_ne q2]
    · have e8 : addN N kd a b l u 8 = N 8 + 1 := by unfold addN; rw [ur_s]
      have lo : ∀ j, j < 53 → j ≠ 8 → addN N kd a b l u j = N j := fun j j1 j2 => by
        unfold addN
        rw [ur_o j2, ur_o (by omega), ur_o (by omega), ur_o (by omega), ur_o (by omega), ur_o (by omega)]
      have hi : ∀ s f, 0 ≤ s → s < N 8 → 0 ≤ f → f ≤ 4 → addN N kd a b l u (53 + 5 * s + f) = N (53 + 5 * s + f) := fun s f s0 s1 f0 f1 => by
        unfold addN
        rw [ur_o (by omega), ur_o (by omega), ur_o (by omega), ur_o (by omega), ur_o (by omega), ur_o (by omega)]
      refine ⟨?_, fun c c0 c1 => ?_, fun i i0 i1 => ?_, fun i i0 i1 => ?_, fun s s0 s1 => ?_⟩
      · rw [e8, up_s]
      · rw [lo c (by omega) (by omega), up_ne (by omega), up_ne (by omega), up_ne (by omega), up_ne (by omega), up_ne (by omega), up_ne (by omega)]
        exact hR.2.1 c c0 c1
      · rw [lo _ (by omega) (by omega), up_ne (by omega), up_ne (by omega), up_ne (by omega), up_ne (by omega), up_ne (by omega), up_ne (by omega)]
        exact hR.2.2.1 i i0 i1
      · rw [lo _ (by omega) (by omega), up_ne (by omega), up_ne (by omega), up_ne (by omega), up_ne (by omega), up_ne (by omega), up_ne (by omega)]
        exact hR.2.2.2.1 i i0 i1
      · rw [e8] at s1
        by_cases e : s = N 8
        · subst e
          have f0 : addN N kd a b l u (53 + 5 * N 8 + 0) = kd := by unfold addN; rw [ur_o (by omega), ur_o (by omega), ur_o (by omega), ur_o (by omega), ur_o (by omega), ur_s]
          have f1 : addN N kd a b l u (53 + 5 * N 8 + 1) = min a b := by unfold addN; rw [ur_o (by omega), ur_o (by omega), ur_o (by omega), ur_o (by omega), ur_s]
          have f2 : addN N kd a b l u (53 + 5 * N 8 + 2) = max a b := by unfold addN; rw [ur_o (by omega), ur_o (by omega), ur_o (by omega), ur_s]
          have f3 : addN N kd a b l u (53 + 5 * N 8 + 3) = l := by unfold addN; rw [ur_o (by omega), ur_o (by omega), ur_s]
          have f4 : addN N kd a b l u (53 + 5 * N 8 + 4) = u := by unfold addN; rw [ur_o (by omega), ur_s]
          rw [f0, f1, f2, f3, f4]
          simp (disch := omega) only [up_o, up_k, up_s]
          exact ⟨trivial, trivial, trivial, trivial, trivial⟩
        · have s1 : s < N 8 := by omega
          rw [hi s 0 s0 s1 (by omega) (by omega), hi s 1 s0 s1 (by omega) (by omega), hi s 2 s0 s1 (by omega) (by omega), hi s 3 s0 s1 (by omega) (by omega), hi s 4 s0 s1 (by omega) (by omega)]
          rw [up_ne (by omega), up_ne (by omega), up_ne (by omega), up_ne (by omega), up_ne (by omega), up_ne (by omega)]
          exact hR.2.2.2.2 s s0 s1
theorem c_stTake {a b : Int} (ha : is_c 5 a) (hb : is_c 5 b) (hab : a ≠ b) (k : ∀ h', (∀ c, c ≠ a → h' c = h c) → (∀ j, 0 ≤ j → j ≤ 4 → h' a j = h b j) → KV h') : ClV (d + 1) mX5_takeFrom [vr a, vr b] h KV := by
  refine cl_in (al := [vr a, vr b]) rfl (Nat.le_of_ble_eq_true rfl) (by simp [vi_cat, vr_cat, vs_cat]) ?_
  refine yr_aload_n (pq := 1) rfl dX5_takeFrom_0 rfl ?_
  refine yr_aload_n (pq := 2) rfl dX5_takeFrom_1 rfl ?_
  refine yr_getI (pq := 5) 0 rfl dX5_takeFrom_2 kF_5_9 (by decide) rfl hb ?_
  refine yr_putI (pq := 8) 0 rfl dX5_takeFrom_5 kF_5_9 (by decide) rfl rfl ha ?_
  refine yr_aload_n (pq := 9) rfl dX5_takeFrom_8 rfl ?_
  refine yr_aload_n (pq := 10) rfl dX5_takeFrom_9 rfl ?_
  refine yr_getI (pq := 13) 1 rfl dX5_takeFrom_10 kF_5_15 (by decide) rfl hb ?_
  refine yr_putI (pq := 16) 1 rfl dX5_takeFrom_13 kF_5_15 (by decide) rfl rfl ha ?_
  refine yr_aload_n (pq := 17) rfl dX5_takeFrom_16 rfl ?_
  refine yr_aload_n (pq := 18) rfl dX5_takeFrom_17 rfl ?_
  refine yr_getI (pq := 21) 2 rfl dX5_takeFrom_18 kF_5_18 (by decide) rfl hb ?_
  refine yr_putI (pq := 24) 2 rfl dX5_takeFrom_21 kF_5_18 (by decide) rfl rfl ha ?_
  refine yr_aload_n (pq := 25) rfl dX5_takeFrom_24 rfl ?_
  refine yr_aload_n (pq := 26) rfl dX5_takeFrom_25 rfl ?_
  refine yr_getI (pq := 29) 3 rfl dX5_takeFrom_26 kF_5_21 (by decide) rfl hb ?_
  refine yr_putI (pq := 32) 3 rfl dX5_takeFrom_29 kF_5_21 (by decide) rfl rfl ha ?_
  refine yr_aload_n (pq := 33) rfl dX5_takeFrom_32 rfl ?_
  refine yr_aload_n (pq := 34) rfl dX5_takeFrom_33 rfl ?_
  refine yr_getI (pq := 37) 4 rfl dX5_takeFrom_34 kF_5_24 (by decide) rfl hb ?_
  refine yr_putI (pq := 40) 4 rfl dX5_takeFrom_37 kF_5_24 (by decide) rfl rfl ha ?_
  refine yr_vret dX5_takeFrom_40 rfl (k _ (fun c q => ?_) (fun j j0 j1 => ?_))
  · rw [up_ne q, up_ne q, up_ne q, up_ne q, up_ne q]
  · have nb : b ≠ a := fun q => hab q.symm
    rcases (show j = 0 ∨ j = 1 ∨ j = 2 ∨ j = 3 ∨ j = 4 by omega) with rfl | rfl | rfl | rfl | rfl <;> simp [up, nb]
theorem tw_far {T U : Int} (hT : tw T) (hU : tw U) (hne : T ≠ U) : T + 19 < U ∨ U + 19 < T := by
  rcases hT with rfl | rfl | rfl | rfl <;> rcases hU with rfl | rfl | rfl | rfl <;> omega
theorem c_twTake {U : Int} (hT : tw T) (hU : tw U) (hne : T ≠ U) (hR : RT h U N) (hO : okT N) (k : ∀ h', (∀ c, c < T ∨ T + 19 < c → h' c = h c) → RT h' T N → KV h') : ClV (d + 2) mX6_takeFrom [vr T, vr U] h KV := by
  have h8 := hO.1
  have hf := tw_far hT hU hne
  have key : ∀ (n : Nat) (i : Int) (g : Int → Int → Int), 0 ≤ i → i + n = N 8 → (∀ c, c < T ∨ T + 19 < c → g c = h c) → g T 1 = N 8 → (∀ s, 0 ≤ s → s < i → ∀ j, 0 ≤ j → j ≤ 4 → g (T + 6 + s) j = h (U + 6 + s) j) → Yr (d + 1) mX6_takeFrom 10 [vr T, vr U, vi i] [] g (rV KV) := by
    intro n
    induction n with
    | zero =>
      intro i g hi hn g1 g2 g3
      refine yr_iload_n (pq := 11) rfl dX6_takeFrom_10 rfl ?_
      refine yr_aload_n (pq := 12) rfl dX6_takeFrom_11 rfl ?_
      refine yr_getI (pq := 15) 1 rfl dX6_takeFrom_12 kF_6_17 (by decide) rfl (tw_c hT) ?_
      rw [g2]
      refine yr_ic_ge (pq := 18) (t := 39) rfl dX6_takeFrom_15 rfl (by omega) (by omega) (fun _ => ?_) (fun q9 => absurd (by omega) q9)
      refine yr_aload_n (pq := 40) rfl dX6_takeFrom_39 rfl ?_
      refine yr_getR (pq := 43) 2 rfl dX6_takeFrom_40 kF_6_21 (tw_c hU) (fr_6_2 hU) ?_
      refine yr_iconst (pq := 44) rfl dX6_takeFrom_43 ?_
      refine yr_aload_n (pq := 45) rfl dX6_takeFrom_44 rfl ?_
      refine yr_getR (pq := 48) 2 rfl dX6_takeFrom_45 kF_6_21 (tw_c hT) (fr_6_2 hT) ?_
      refine yr_iconst (pq := 49) rfl dX6_takeFrom_48 ?_
      refine yr_bipush (pq := 51) rfl dX6_takeFrom_49 rfl ?_
      refine yr_cpy (pq := 54) rfl dX6_takeFrom_51 kO_6_39 kX_6_39 (tw_k2 hU) (tw_k2 hT) ⟨(tw_n hU 2 (by decide)), (tw_n hT 2 (by decide))⟩ (by omega) (by omega) (by omega) cat0 ?_
      refine yr_aload_n (pq := 55) rfl dX6_takeFrom_54 rfl ?_
      refine yr_getR (pq := 58) 3 rfl dX6_takeFrom_55 kF_6_25 (tw_c hU) (fr_6_3 hU) ?_
      refine yr_iconst (pq := 59) rfl dX6_takeFrom_58 ?_
      refine yr_aload_n (pq := 60) rfl dX6_takeFrom_59 rfl ?_
      refine yr_getR (pq := 63) 3 rfl dX6_takeFrom_60 kF_6_25 (tw_c hT) (fr_6_3 hT) ?_
      refine yr_iconst (pq := 64) rfl dX6_takeFrom_63 ?_
      refine yr_bipush (pq := 66) rfl dX6_takeFrom_64 rfl ?_
      refine yr_cpy (pq := 69) rfl dX6_takeFrom_66 kO_6_39 kX_6_39 (tw_k3 hU) (tw_k3 hT) ⟨(tw_n hU 3 (by decide)), (tw_n hT 3 (by decide))⟩ (by omega) (by omega) (by omega) cat0 ?_
      refine yr_aload_n (pq := 70) rfl dX6_takeFrom_69 rfl ?_
      refine yr_getR (pq := 73) 4 rfl dX6_takeFrom_70 kF_6_28 (tw_c hU) (fr_6_4 hU) ?_
      refine yr_iconst (pq := 74) rfl dX6_takeFrom_73 ?_
      refine yr_aload_n (pq := 75) rfl dX6_takeFrom_74 rfl ?_
      refine yr_getR (pq := 78) 4 rfl dX6_takeFrom_75 kF_6_28 (tw_c hT) (fr_6_4 hT) ?_
      refine yr_iconst (pq := 79) rfl dX6_takeFrom_78 ?_
      refine yr_bipush (pq := 81) rfl dX6_takeFrom_79 rfl ?_
      refine yr_cpy (pq := 84) rfl dX6_takeFrom_81 kO_6_39 kX_6_39 (tw_k4 hU) (tw_k4 hT) ⟨(tw_n hU 4 (by decide)), (tw_n hT 4 (by decide))⟩ (by omega) (by omega) (by omega) cat0 ?_
      have gU : ∀ j, 0 ≤ j → j < 20 → g (U + j) = h (U + j) := fun j j0 j1 => g1 _ (by omega)
      refine yr_vret dX6_takeFrom_84 rfl (k _ (fun c q => ?_) ⟨?_, fun c c0 c1 => ?_, fun j j0 j1 => ?_, fun j j0 j1 => ?_, fun s s0 s1 => ?_⟩)
      · rw [cp_o (by omega), cp_o (by omega), cp_o (by omega)]
        exact g1 c q
      · rw [cp_o (by omega), cp_o (by omega), cp_o (by omega)]
        exact g2
      · rw [cp_o (by omega), cp_o (by omega), cp_i (by omega) (by omega), gU 2 (by omega) (by omega), show (0 : Int) + (c - 0) = c by omega]
        exact hR.2.1 c c0 c1
      · rw [cp_o (by omega), cp_i (by omega) (by omega), cp_o (by omega), gU 3 (by omega) (by omega), show (0 : Int) + (j - 0) = j by omega]
        exact hR.2.2.1 j j0 j1
      · rw [cp_i (by omega) (by omega), cp_o (by omega), cp_o (by omega), gU 4 (by omega) (by omega), show (0 : Int) + (j - 0) = j by omega]
        exact hR.2.2.2.1 j j0 j1
      · have w := g3 s s0 (by omega)
        rw [cp_o (by omega), cp_o (by omega), cp_o (by omega), w 0 (by omega) (by omega), w 1 (by omega) (by omega), w 2 (by omega) (by omega), w 3 (by omega) (by omega), w 4 (by omega) (by omega)]
        exact hR.2.2.2.2 s s0 s1
    | succ n ih =>
      intro i g hi hn g1 g2 g3
      refine yr_iload_n (pq := 11) rfl dX6_takeFrom_10 rfl ?_
      refine yr_aload_n (pq := 12) rfl dX6_takeFrom_11 rfl ?_
      refine yr_getI (pq := 15) 1 rfl dX6_takeFrom_12 kF_6_17 (by decide) rfl (tw_c hT) ?_
      rw [g2]
      refine yr_ic_ge (pq := 18) (t := 39) rfl dX6_takeFrom_15 rfl (by omega) (by omega) (fun q9 => absurd q9 (by omega)) (fun _ => ?_)
      refine yr_aload_n (pq := 19) rfl dX6_takeFrom_18 rfl ?_
      refine yr_getR (pq := 22) 0 rfl dX6_takeFrom_19 kF_6_11 (tw_c hT) (fr_6_0 hT) ?_
      refine yr_iload_n (pq := 23) rfl dX6_takeFrom_22 rfl ?_
      refine yr_aald (pq := 24) rfl dX6_takeFrom_23 (tw_k1 hT) (by decide) (by omega) (st_q hT (by omega) (by omega)) ?_
      refine yr_aload_n (pq := 25) rfl dX6_takeFrom_24 rfl ?_
      refine yr_getR (pq := 28) 0 rfl dX6_takeFrom_25 kF_6_11 (tw_c hU) (fr_6_0 hU) ?_
      refine yr_iload_n (pq := 29) rfl dX6_takeFrom_28 rfl ?_
      refine yr_aald (pq := 30) rfl dX6_takeFrom_29 (tw_k1 hU) (by decide) (by omega) (st_q hU (by omega) (by omega)) ?_
      refine yr_vV1 (pq := 33) rfl dX6_takeFrom_30 kM_6_35 (by decide) (st_c hT (by omega) (by omega)) cat0 (c_stTake (st_c hT hi (by omega)) (st_c hU hi (by omega)) (by omega) (fun g' q1 q2 => ?_))
      refine yr_iinc2 (pq := 36) rfl dX6_takeFrom_33 ?_
      refine yr_goto (t := 10) dX6_takeFrom_36 rfl ?_
      refine ih _ g' (by omega) (by omega) (fun c q => ?_) ?_ (fun s s0 s1 j j0 j1 => ?_)
      · rw [q1 c (by omega)]; exact g1 c q
      · rw [q1 T (by omega)]; exact g2
      · by_cases e : s = i
        · subst e
          rw [q2 j j0 j1, g1 _ (by omega)]
        · rw [q1 _ (by omega)]
          exact g3 s s0 (by omega) j j0 j1
  refine cl_in (al := [vr T, vr U, .null]) rfl (Nat.le_of_ble_eq_true rfl) (by simp [vi_cat, vr_cat, vs_cat]) ?_
  refine yr_aload_n (pq := 1) rfl dX6_takeFrom_0 rfl ?_
  refine yr_aload_n (pq := 2) rfl dX6_takeFrom_1 rfl ?_
  refine yr_getI (pq := 5) 1 rfl dX6_takeFrom_2 kF_6_17 (by decide) rfl (tw_c hU) ?_
  refine yr_putI (pq := 8) 1 rfl dX6_takeFrom_5 kF_6_17 (by decide) rfl rfl (tw_c hT) ?_
  refine yr_iconst (pq := 9) rfl dX6_takeFrom_8 ?_
  refine yr_istore2 (pq := 10) rfl dX6_takeFrom_9 ?_
  refine key (N 8).toNat 0 _ (by omega) (by omega) (fun c q => ?_) ?_ (fun s s0 s1 => by omega)
  · rw [up_ne (by omega)]
  · rw [up_s, hR.1]
end CV
