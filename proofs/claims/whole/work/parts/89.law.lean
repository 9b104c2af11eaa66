/-! the law's own walk: both objects made, then the script, call by call -/
def R_law : String := "SugarSaintLaw"
def lw_P (b : Addr) (xs : List Int32) (args : Array Value) (s : State) : Prop := args = #[.ref b] ∧ s.IntsAt b xs ∧ xs.length ≤ 3072 ∧ (Jvm.Cond.and given_1 narrow_1).before args s = true
def lw_Q (_ : Array Value) (s : State) (o : Outcome) (t : State) : Prop := o = .returned (some (.int 1)) ∧ Framed s o t [] 600000 7302250
def lw_Z (below : List Frame) (a : Array Value) (s : State) : State → Prop := fun t => ∃ o, t.status = .running ∧ Ended t below o ∧ lw_Q a s o t
/-- the law's own end, with 1 on the stack, nothing written that was there before, its room as the claim has it -/
theorem lw_ret {p : Program} {l : Launch} {e : Env} {s : State} {m : MethodId} {below : List Frame} {meth : Method} {c : Code} {b : Nat} (hx : p.tables.exec = Jvm.exec) (hb : c.code = code) (hr : meth.sig.returnType = ret) (hlocks : meth.locks = false) {pc : Nat} {H : Heap} {ls : Array Slot} (hdg : decode code pc = .ok (.ireturn, 1)) : W p l e room_1 s m #[Value.ref b] below meth c H [] 600000 7302250 (lw_Z below #[Value.ref b] s) (F0 m pc ls [.int 1]) := by
  intro T hT X
  obtain ⟨fs, hret, hrun, hended, hW, hframe⟩ := X.leave (v := some (.int 1)) (hlocks := hlocks) (fun h => by rw [hr] at h; cases h)
  have hmeth' : T.vm.method? m = some meth := X.method'
  refine ⟨T.setFrames fs, ?_, .returned (some (.int 1)), hrun, hended, rfl, ⟨_, rfl⟩, hW, hframe⟩
  jvm_step X.here [X.here.top, hx, hb, hdg, hmeth', hr, ret, narrow_b1]
  (try refine ⟨rfl, ?_⟩); (try refine ⟨rfl, ?_⟩)
  first | (intro acts; rw [hret _ acts rfl rfl rfl]) | rw [hret _ _ rfl rfl rfl]
  exact Steps.refl _
/-- what holds at the law's entry: the machine, the code, the tables' words (any of lw_tbl by 'hts w (by decide +kernel)'), the script of L ints xs at the cell b, what the Statement gives of the start (any of its parts by flat_of_before) -/
def lw_At (p : Program) (s : State) (m : MethodId) (meth : Method) (c : Code) (b L : Nat) (xs : Nat → Int32) : Prop :=
  p.tables.exec = Jvm.exec ∧ c.code = code ∧ meth.sig.returnType = ret ∧ c.maxLocals = 4 ∧ s.vm.findClass R_law = some m.cls ∧ (∀ w ∈ lw_tbl, w.before #[Value.ref b] s = true) ∧ va_X b L xs s s.heap ∧ b < s.heap.size ∧ meth.locks = false ∧ (Jvm.Cond.and given_1 narrow_1).before #[Value.ref b] s = true ∧ meth.name = x.name
abbrev lw_y : am_MI := (9, x, code, 4, ret)
abbrev lw_pd (pc j : Nat) : Prop := decode code pc = .ok (.aload_n 0, 1) ∧ decode code (pc + 1) = .ok (.iload_n 3, 1) ∧ decode code (pc + 2) = .ok (.iconst (j : Int), 1) ∧ decode code (pc + 3) = .ok (.iadd, 1) ∧ decode code (pc + 4) = .ok (.iaload, 1)
abbrev lw_dc (p0 n ix im : Nat) : Prop := decode code p0 = .ok (.aload_n 1, 1) ∧ (∀ j, j < n → lw_pd (p0 + 1 + 5 * j) (j + 1)) ∧ decode code (p0 + 1 + 5 * n) = .ok (.invokevirtual ix, 3) ∧ decode code (p0 + 1 + 5 * n + 3) = .ok (.aload_n 2, 1) ∧ (∀ j, j < n → lw_pd (p0 + 1 + 5 * n + 3 + 1 + 5 * j) (j + 1)) ∧ decode code (p0 + 1 + 5 * n + 3 + 1 + 5 * n) = .ok (.invokevirtual im, 3) ∧ decode code (p0 + 1 + 5 * n + 3 + 1 + 5 * n + 3) = .ok (.if_icmp .eq (1444 - ((p0 + 1 + 5 * n + 3 + 1 + 5 * n + 3 : Nat) : Int)), 3)
def lw_vs (xs : Nat → Int32) (i : Nat) : Nat → List Value
  | 0 => []
  | n + 1 => .int (xs (i + (n + 1))) :: lw_vs xs i n
theorem lw_vs_len {xs : Nat → Int32} {i : Nat} : ∀ n, (lw_vs xs i n).length = n
  | 0 => rfl
  | n + 1 => congrArg (· + 1) (lw_vs_len n)
theorem lw_map {xs : Nat → Int32} {i b0 : Nat} {adK : Nat → Nat} {rest : List Value} : ∀ n, (lw_vs xs i n ++ rest).map (am_tr b0 adK) = lw_vs xs i n ++ rest.map (am_tr b0 adK)
  | 0 => rfl
  | n + 1 => by
    show am_tr b0 adK (.int (xs (i + (n + 1)))) :: (lw_vs xs i n ++ rest).map (am_tr b0 adK) = .int (xs (i + (n + 1))) :: (lw_vs xs i n ++ rest.map (am_tr b0 adK))
    rw [lw_map n]
    rfl
theorem lw_inv {xs : Nat → Int32} {i ix n b : Nat} {y : am_MI} {hp : am_H} {rest : List Value} (hk : am_lkM 9 ix = some (y, n, 0)) (h9 : y.1 < 9) (hb : b < hp.1) (hkd : (am_kd b).1 = 4 + y.1) (hr : (rest.map fun v => v.category).sum ≤ 8) : am_inv 9 (.invokevirtual ix) (lw_vs xs i n ++ Value.ref b :: rest) hp = some (y, .ref b :: (lw_vs xs i n).reverse, rest) := by
  have e1 : (lw_vs xs i n ++ Value.ref b :: rest).drop n = .ref b :: rest := List.drop_left' (lw_vs_len n)
  have e2 : (lw_vs xs i n ++ Value.ref b :: rest).take n = lw_vs xs i n := List.take_left' (lw_vs_len n)
  unfold am_inv
  simp only [hk, e1, e2]
  rw [if_pos ⟨trivial, h9, hb, hkd, hr⟩]
theorem lw_a0 {xs : Nat → Int32} {i : Nat} : (lw_vs xs i 0).reverse = [] := rfl
theorem lw_a1 {xs : Nat → Int32} {i : Nat} : (lw_vs xs i 1).reverse = [vi (xs (i + 1)).toInt] := by
  show [Value.int (xs (i + 1))] = _
  simp only [vi_of]
theorem lw_a2 {xs : Nat → Int32} {i : Nat} : (lw_vs xs i 2).reverse = [vi (xs (i + 1)).toInt, vi (xs (i + 2)).toInt] := by
  show [Value.int (xs (i + 1)), Value.int (xs (i + 2))] = _
  simp only [vi_of]
theorem lw_a3 {xs : Nat → Int32} {i : Nat} : (lw_vs xs i 3).reverse = [vi (xs (i + 1)).toInt, vi (xs (i + 2)).toInt, vi (xs (i + 3)).toInt] := by
  show [Value.int (xs (i + 1)), Value.int (xs (i + 2)), Value.int (xs (i + 3))] = _
  simp only [vi_of]
theorem lw_a4 {xs : Nat → Int32} {i : Nat} : (lw_vs xs i 4).reverse = [vi (xs (i + 1)).toInt, vi (xs (i + 2)).toInt, vi (xs (i + 3)).toInt, vi (xs (i + 4)).toInt] := by
  show [Value.int (xs (i + 1)), Value.int (xs (i + 2)), Value.int (xs (i + 3)), Value.int (xs (i + 4))] = _
  simp only [vi_of]
theorem lw_a5 {xs : Nat → Int32} {i : Nat} : (lw_vs xs i 5).reverse = [vi (xs (i + 1)).toInt, vi (xs (i + 2)).toInt, vi (xs (i + 3)).toInt, vi (xs (i + 4)).toInt, vi (xs (i + 5)).toInt] := by
  show [Value.int (xs (i + 1)), Value.int (xs (i + 2)), Value.int (xs (i + 3)), Value.int (xs (i + 4)), Value.int (xs (i + 5))] = _
  simp only [vi_of]
theorem lw_rg (x : Int32) : -2147483648 ≤ x.toInt ∧ x.toInt ≤ 2147483647 := by
  have h1 := Int32.le_toInt x
  have h2 := Int32.toInt_lt x
  omega
theorem lw_d0 : lw_dc 240 4 13 17 := by
  refine ⟨dL_law_240, fun j hj => ?_, dL_law_261, dL_law_264, fun j hj => ?_, dL_law_285, dL_law_288⟩
  · rcases (show j = 0 ∨ j = 1 ∨ j = 2 ∨ j = 3 by omega) with rfl | rfl | rfl | rfl
    · exact ⟨dL_law_241, dL_law_242, dL_law_243, dL_law_244, dL_law_245⟩
    · exact ⟨dL_law_246, dL_law_247, dL_law_248, dL_law_249, dL_law_250⟩
    · exact ⟨dL_law_251, dL_law_252, dL_law_253, dL_law_254, dL_law_255⟩
    · exact ⟨dL_law_256, dL_law_257, dL_law_258, dL_law_259, dL_law_260⟩
  · rcases (show j = 0 ∨ j = 1 ∨ j = 2 ∨ j = 3 by omega) with rfl | rfl | rfl | rfl
    · exact ⟨dL_law_265, dL_law_266, dL_law_267, dL_law_268, dL_law_269⟩
    · exact ⟨dL_law_270, dL_law_271, dL_law_272, dL_law_273, dL_law_274⟩
    · exact ⟨dL_law_275, dL_law_276, dL_law_277, dL_law_278, dL_law_279⟩
    · exact ⟨dL_law_280, dL_law_281, dL_law_282, dL_law_283, dL_law_284⟩
theorem lw_d1 : lw_dc 293 2 18 22 := by
  refine ⟨dL_law_293, fun j hj => ?_, dL_law_304, dL_law_307, fun j hj => ?_, dL_law_318, dL_law_321⟩
  · rcases (show j = 0 ∨ j = 1 by omega) with rfl | rfl
    · exact ⟨dL_law_294, dL_law_295, dL_law_296, dL_law_297, dL_law_298⟩
    · exact ⟨dL_law_299, dL_law_300, dL_law_301, dL_law_302, dL_law_303⟩
  · rcases (show j = 0 ∨ j = 1 by omega) with rfl | rfl
    · exact ⟨dL_law_308, dL_law_309, dL_law_310, dL_law_311, dL_law_312⟩
    · exact ⟨dL_law_313, dL_law_314, dL_law_315, dL_law_316, dL_law_317⟩
theorem lw_d2 : lw_dc 326 3 23 27 := by
  refine ⟨dL_law_326, fun j hj => ?_, dL_law_342, dL_law_345, fun j hj => ?_, dL_law_361, dL_law_364⟩
  · rcases (show j = 0 ∨ j = 1 ∨ j = 2 by omega) with rfl | rfl | rfl
    · exact ⟨dL_law_327, dL_law_328, dL_law_329, dL_law_330, dL_law_331⟩
    · exact ⟨dL_law_332, dL_law_333, dL_law_334, dL_law_335, dL_law_336⟩
    · exact ⟨dL_law_337, dL_law_338, dL_law_339, dL_law_340, dL_law_341⟩
  · rcases (show j = 0 ∨ j = 1 ∨ j = 2 by omega) with rfl | rfl | rfl
    · exact ⟨dL_law_346, dL_law_347, dL_law_348, dL_law_349, dL_law_350⟩
    · exact ⟨dL_law_351, dL_law_352, dL_law_353, dL_law_354, dL_law_355⟩
    · exact ⟨dL_law_356, dL_law_357, dL_law_358, dL_law_359, dL_law_360⟩
theorem lw_d3 : lw_dc 369 2 28 31 := by
  refine ⟨dL_law_369, fun j hj => ?_, dL_law_380, dL_law_383, fun j hj => ?_, dL_law_394, dL_law_397⟩
  · rcases (show j = 0 ∨ j = 1 by omega) with rfl | rfl
    · exact ⟨dL_law_370, dL_law_371, dL_law_372, dL_law_373, dL_law_374⟩
    · exact ⟨dL_law_375, dL_law_376, dL_law_377, dL_law_378, dL_law_379⟩
  · rcases (show j = 0 ∨ j = 1 by omega) with rfl | rfl
    · exact ⟨dL_law_384, dL_law_385, dL_law_386, dL_law_387, dL_law_388⟩
    · exact ⟨dL_law_389, dL_law_390, dL_law_391, dL_law_392, dL_law_393⟩
theorem lw_d4 : lw_dc 402 3 32 35 := by
  refine ⟨dL_law_402, fun j hj => ?_, dL_law_418, dL_law_421, fun j hj => ?_, dL_law_437, dL_law_440⟩
  · rcases (show j = 0 ∨ j = 1 ∨ j = 2 by omega) with rfl | rfl | rfl
    · exact ⟨dL_law_403, dL_law_404, dL_law_405, dL_law_406, dL_law_407⟩
    · exact ⟨dL_law_408, dL_law_409, dL_law_410, dL_law_411, dL_law_412⟩
    · exact ⟨dL_law_413, dL_law_414, dL_law_415, dL_law_416, dL_law_417⟩
  · rcases (show j = 0 ∨ j = 1 ∨ j = 2 by omega) with rfl | rfl | rfl
    · exact ⟨dL_law_422, dL_law_423, dL_law_424, dL_law_425, dL_law_426⟩
    · exact ⟨dL_law_427, dL_law_428, dL_law_429, dL_law_430, dL_law_431⟩
    · exact ⟨dL_law_432, dL_law_433, dL_law_434, dL_law_435, dL_law_436⟩
theorem lw_d5 : lw_dc 445 2 36 39 := by
  refine ⟨dL_law_445, fun j hj => ?_, dL_law_456, dL_law_459, fun j hj => ?_, dL_law_470, dL_law_473⟩
  · rcases (show j = 0 ∨ j = 1 by omega) with rfl | rfl
    · exact ⟨dL_law_446, dL_law_447, dL_law_448, dL_law_449, dL_law_450⟩
    · exact ⟨dL_law_451, dL_law_452, dL_law_453, dL_law_454, dL_law_455⟩
  · rcases (show j = 0 ∨ j = 1 by omega) with rfl | rfl
    · exact ⟨dL_law_460, dL_law_461, dL_law_462, dL_law_463, dL_law_464⟩
    · exact ⟨dL_law_465, dL_law_466, dL_law_467, dL_law_468, dL_law_469⟩
theorem lw_d6 : lw_dc 478 1 40 44 := by
  refine ⟨dL_law_478, fun j hj => ?_, dL_law_484, dL_law_487, fun j hj => ?_, dL_law_493, dL_law_496⟩
  · obtain rfl : j = 0 := by omega
    exact ⟨dL_law_479, dL_law_480, dL_law_481, dL_law_482, dL_law_483⟩
  · obtain rfl : j = 0 := by omega
    exact ⟨dL_law_488, dL_law_489, dL_law_490, dL_law_491, dL_law_492⟩
theorem lw_d7 : lw_dc 501 2 45 48 := by
  refine ⟨dL_law_501, fun j hj => ?_, dL_law_512, dL_law_515, fun j hj => ?_, dL_law_526, dL_law_529⟩
  · rcases (show j = 0 ∨ j = 1 by omega) with rfl | rfl
    · exact ⟨dL_law_502, dL_law_503, dL_law_504, dL_law_505, dL_law_506⟩
    · exact ⟨dL_law_507, dL_law_508, dL_law_509, dL_law_510, dL_law_511⟩
  · rcases (show j = 0 ∨ j = 1 by omega) with rfl | rfl
    · exact ⟨dL_law_516, dL_law_517, dL_law_518, dL_law_519, dL_law_520⟩
    · exact ⟨dL_law_521, dL_law_522, dL_law_523, dL_law_524, dL_law_525⟩
theorem lw_d8 : lw_dc 534 2 49 52 := by
  refine ⟨dL_law_534, fun j hj => ?_, dL_law_545, dL_law_548, fun j hj => ?_, dL_law_559, dL_law_562⟩
  · rcases (show j = 0 ∨ j = 1 by omega) with rfl | rfl
    · exact ⟨dL_law_535, dL_law_536, dL_law_537, dL_law_538, dL_law_539⟩
    · exact ⟨dL_law_540, dL_law_541, dL_law_542, dL_law_543, dL_law_544⟩
  · rcases (show j = 0 ∨ j = 1 by omega) with rfl | rfl
    · exact ⟨dL_law_549, dL_law_550, dL_law_551, dL_law_552, dL_law_553⟩
    · exact ⟨dL_law_554, dL_law_555, dL_law_556, dL_law_557, dL_law_558⟩
theorem lw_d9 : lw_dc 567 1 53 56 := by
  refine ⟨dL_law_567, fun j hj => ?_, dL_law_573, dL_law_576, fun j hj => ?_, dL_law_582, dL_law_585⟩
  · obtain rfl : j = 0 := by omega
    exact ⟨dL_law_568, dL_law_569, dL_law_570, dL_law_571, dL_law_572⟩
  · obtain rfl : j = 0 := by omega
    exact ⟨dL_law_577, dL_law_578, dL_law_579, dL_law_580, dL_law_581⟩
theorem lw_d10 : lw_dc 590 1 57 60 := by
  refine ⟨dL_law_590, fun j hj => ?_, dL_law_596, dL_law_599, fun j hj => ?_, dL_law_605, dL_law_608⟩
  · obtain rfl : j = 0 := by omega
    exact ⟨dL_law_591, dL_law_592, dL_law_593, dL_law_594, dL_law_595⟩
  · obtain rfl : j = 0 := by omega
    exact ⟨dL_law_600, dL_law_601, dL_law_602, dL_law_603, dL_law_604⟩
theorem lw_d11 : lw_dc 613 1 61 64 := by
  refine ⟨dL_law_613, fun j hj => ?_, dL_law_619, dL_law_622, fun j hj => ?_, dL_law_628, dL_law_631⟩
  · obtain rfl : j = 0 := by omega
    exact ⟨dL_law_614, dL_law_615, dL_law_616, dL_law_617, dL_law_618⟩
  · obtain rfl : j = 0 := by omega
    exact ⟨dL_law_623, dL_law_624, dL_law_625, dL_law_626, dL_law_627⟩
theorem lw_d12 : lw_dc 636 1 65 68 := by
  refine ⟨dL_law_636, fun j hj => ?_, dL_law_642, dL_law_645, fun j hj => ?_, dL_law_651, dL_law_654⟩
  · obtain rfl : j = 0 := by omega
    exact ⟨dL_law_637, dL_law_638, dL_law_639, dL_law_640, dL_law_641⟩
  · obtain rfl : j = 0 := by omega
    exact ⟨dL_law_646, dL_law_647, dL_law_648, dL_law_649, dL_law_650⟩
theorem lw_d13 : lw_dc 659 0 69 73 := by
  refine ⟨dL_law_659, fun j hj => ?_, dL_law_660, dL_law_663, fun j hj => ?_, dL_law_664, dL_law_667⟩
  · exact absurd hj (Nat.not_lt_zero j)
  · exact absurd hj (Nat.not_lt_zero j)
theorem lw_d14 : lw_dc 672 2 74 77 := by
  refine ⟨dL_law_672, fun j hj => ?_, dL_law_683, dL_law_686, fun j hj => ?_, dL_law_697, dL_law_700⟩
  · rcases (show j = 0 ∨ j = 1 by omega) with rfl | rfl
    · exact ⟨dL_law_673, dL_law_674, dL_law_675, dL_law_676, dL_law_677⟩
    · exact ⟨dL_law_678, dL_law_679, dL_law_680, dL_law_681, dL_law_682⟩
  · rcases (show j = 0 ∨ j = 1 by omega) with rfl | rfl
    · exact ⟨dL_law_687, dL_law_688, dL_law_689, dL_law_690, dL_law_691⟩
    · exact ⟨dL_law_692, dL_law_693, dL_law_694, dL_law_695, dL_law_696⟩
theorem lw_d15 : lw_dc 705 1 78 81 := by
  refine ⟨dL_law_705, fun j hj => ?_, dL_law_711, dL_law_714, fun j hj => ?_, dL_law_720, dL_law_723⟩
  · obtain rfl : j = 0 := by omega
    exact ⟨dL_law_706, dL_law_707, dL_law_708, dL_law_709, dL_law_710⟩
  · obtain rfl : j = 0 := by omega
    exact ⟨dL_law_715, dL_law_716, dL_law_717, dL_law_718, dL_law_719⟩
theorem lw_d16 : lw_dc 728 2 82 85 := by
  refine ⟨dL_law_728, fun j hj => ?_, dL_law_739, dL_law_742, fun j hj => ?_, dL_law_753, dL_law_756⟩
  · rcases (show j = 0 ∨ j = 1 by omega) with rfl | rfl
    · exact ⟨dL_law_729, dL_law_730, dL_law_731, dL_law_732, dL_law_733⟩
    · exact ⟨dL_law_734, dL_law_735, dL_law_736, dL_law_737, dL_law_738⟩
  · rcases (show j = 0 ∨ j = 1 by omega) with rfl | rfl
    · exact ⟨dL_law_743, dL_law_744, dL_law_745, dL_law_746, dL_law_747⟩
    · exact ⟨dL_law_748, dL_law_749, dL_law_750, dL_law_751, dL_law_752⟩
theorem lw_d17 : lw_dc 761 1 86 89 := by
  refine ⟨dL_law_761, fun j hj => ?_, dL_law_767, dL_law_770, fun j hj => ?_, dL_law_776, dL_law_779⟩
  · obtain rfl : j = 0 := by omega
    exact ⟨dL_law_762, dL_law_763, dL_law_764, dL_law_765, dL_law_766⟩
  · obtain rfl : j = 0 := by omega
    exact ⟨dL_law_771, dL_law_772, dL_law_773, dL_law_774, dL_law_775⟩
theorem lw_d18 : lw_dc 784 1 90 93 := by
  refine ⟨dL_law_784, fun j hj => ?_, dL_law_790, dL_law_793, fun j hj => ?_, dL_law_799, dL_law_802⟩
  · obtain rfl : j = 0 := by omega
    exact ⟨dL_law_785, dL_law_786, dL_law_787, dL_law_788, dL_law_789⟩
  · obtain rfl : j = 0 := by omega
    exact ⟨dL_law_794, dL_law_795, dL_law_796, dL_law_797, dL_law_798⟩
theorem lw_d19 : lw_dc 807 0 94 97 := by
  refine ⟨dL_law_807, fun j hj => ?_, dL_law_808, dL_law_811, fun j hj => ?_, dL_law_812, dL_law_815⟩
  · exact absurd hj (Nat.not_lt_zero j)
  · exact absurd hj (Nat.not_lt_zero j)
theorem lw_d20 : lw_dc 820 1 98 101 := by
  refine ⟨dL_law_820, fun j hj => ?_, dL_law_826, dL_law_829, fun j hj => ?_, dL_law_835, dL_law_838⟩
  · obtain rfl : j = 0 := by omega
    exact ⟨dL_law_821, dL_law_822, dL_law_823, dL_law_824, dL_law_825⟩
  · obtain rfl : j = 0 := by omega
    exact ⟨dL_law_830, dL_law_831, dL_law_832, dL_law_833, dL_law_834⟩
theorem lw_d21 : lw_dc 843 0 102 105 := by
  refine ⟨dL_law_843, fun j hj => ?_, dL_law_844, dL_law_847, fun j hj => ?_, dL_law_848, dL_law_851⟩
  · exact absurd hj (Nat.not_lt_zero j)
  · exact absurd hj (Nat.not_lt_zero j)
theorem lw_d22 : lw_dc 856 0 106 109 := by
  refine ⟨dL_law_856, fun j hj => ?_, dL_law_857, dL_law_860, fun j hj => ?_, dL_law_861, dL_law_864⟩
  · exact absurd hj (Nat.not_lt_zero j)
  · exact absurd hj (Nat.not_lt_zero j)
theorem lw_d23 : lw_dc 869 0 110 113 := by
  refine ⟨dL_law_869, fun j hj => ?_, dL_law_870, dL_law_873, fun j hj => ?_, dL_law_874, dL_law_877⟩
  · exact absurd hj (Nat.not_lt_zero j)
  · exact absurd hj (Nat.not_lt_zero j)
theorem lw_d24 : lw_dc 882 0 114 117 := by
  refine ⟨dL_law_882, fun j hj => ?_, dL_law_883, dL_law_886, fun j hj => ?_, dL_law_887, dL_law_890⟩
  · exact absurd hj (Nat.not_lt_zero j)
  · exact absurd hj (Nat.not_lt_zero j)
theorem lw_d25 : lw_dc 895 0 118 121 := by
  refine ⟨dL_law_895, fun j hj => ?_, dL_law_896, dL_law_899, fun j hj => ?_, dL_law_900, dL_law_903⟩
  · exact absurd hj (Nat.not_lt_zero j)
  · exact absurd hj (Nat.not_lt_zero j)
theorem lw_d26 : lw_dc 908 0 122 125 := by
  refine ⟨dL_law_908, fun j hj => ?_, dL_law_909, dL_law_912, fun j hj => ?_, dL_law_913, dL_law_916⟩
  · exact absurd hj (Nat.not_lt_zero j)
  · exact absurd hj (Nat.not_lt_zero j)
theorem lw_d27 : lw_dc 921 1 126 129 := by
  refine ⟨dL_law_921, fun j hj => ?_, dL_law_927, dL_law_930, fun j hj => ?_, dL_law_936, dL_law_939⟩
  · obtain rfl : j = 0 := by omega
    exact ⟨dL_law_922, dL_law_923, dL_law_924, dL_law_925, dL_law_926⟩
  · obtain rfl : j = 0 := by omega
    exact ⟨dL_law_931, dL_law_932, dL_law_933, dL_law_934, dL_law_935⟩
theorem lw_d28 : lw_dc 944 0 130 133 := by
  refine ⟨dL_law_944, fun j hj => ?_, dL_law_945, dL_law_948, fun j hj => ?_, dL_law_949, dL_law_952⟩
  · exact absurd hj (Nat.not_lt_zero j)
  · exact absurd hj (Nat.not_lt_zero j)
theorem lw_d29 : lw_dc 957 1 134 137 := by
  refine ⟨dL_law_957, fun j hj => ?_, dL_law_963, dL_law_966, fun j hj => ?_, dL_law_972, dL_law_975⟩
  · obtain rfl : j = 0 := by omega
    exact ⟨dL_law_958, dL_law_959, dL_law_960, dL_law_961, dL_law_962⟩
  · obtain rfl : j = 0 := by omega
    exact ⟨dL_law_967, dL_law_968, dL_law_969, dL_law_970, dL_law_971⟩
theorem lw_d30 : lw_dc 980 1 138 141 := by
  refine ⟨dL_law_980, fun j hj => ?_, dL_law_986, dL_law_989, fun j hj => ?_, dL_law_995, dL_law_998⟩
  · obtain rfl : j = 0 := by omega
    exact ⟨dL_law_981, dL_law_982, dL_law_983, dL_law_984, dL_law_985⟩
  · obtain rfl : j = 0 := by omega
    exact ⟨dL_law_990, dL_law_991, dL_law_992, dL_law_993, dL_law_994⟩
theorem lw_d31 : lw_dc 1003 0 142 145 := by
  refine ⟨dL_law_1003, fun j hj => ?_, dL_law_1004, dL_law_1007, fun j hj => ?_, dL_law_1008, dL_law_1011⟩
  · exact absurd hj (Nat.not_lt_zero j)
  · exact absurd hj (Nat.not_lt_zero j)
theorem lw_d32 : lw_dc 1016 1 146 149 := by
  refine ⟨dL_law_1016, fun j hj => ?_, dL_law_1022, dL_law_1025, fun j hj => ?_, dL_law_1031, dL_law_1034⟩
  · obtain rfl : j = 0 := by omega
    exact ⟨dL_law_1017, dL_law_1018, dL_law_1019, dL_law_1020, dL_law_1021⟩
  · obtain rfl : j = 0 := by omega
    exact ⟨dL_law_1026, dL_law_1027, dL_law_1028, dL_law_1029, dL_law_1030⟩
theorem lw_d33 : lw_dc 1039 2 150 153 := by
  refine ⟨dL_law_1039, fun j hj => ?_, dL_law_1050, dL_law_1053, fun j hj => ?_, dL_law_1064, dL_law_1067⟩
  · rcases (show j = 0 ∨ j = 1 by omega) with rfl | rfl
    · exact ⟨dL_law_1040, dL_law_1041, dL_law_1042, dL_law_1043, dL_law_1044⟩
    · exact ⟨dL_law_1045, dL_law_1046, dL_law_1047, dL_law_1048, dL_law_1049⟩
  · rcases (show j = 0 ∨ j = 1 by omega) with rfl | rfl
    · exact ⟨dL_law_1054, dL_law_1055, dL_law_1056, dL_law_1057, dL_law_1058⟩
    · exact ⟨dL_law_1059, dL_law_1060, dL_law_1061, dL_law_1062, dL_law_1063⟩
theorem lw_d34 : lw_dc 1072 0 154 157 := by
  refine ⟨dL_law_1072, fun j hj => ?_, dL_law_1073, dL_law_1076, fun j hj => ?_, dL_law_1077, dL_law_1080⟩
  · exact absurd hj (Nat.not_lt_zero j)
  · exact absurd hj (Nat.not_lt_zero j)
theorem lw_d35 : lw_dc 1085 0 158 161 := by
  refine ⟨dL_law_1085, fun j hj => ?_, dL_law_1086, dL_law_1089, fun j hj => ?_, dL_law_1090, dL_law_1093⟩
  · exact absurd hj (Nat.not_lt_zero j)
  · exact absurd hj (Nat.not_lt_zero j)
theorem lw_d36 : lw_dc 1098 2 162 165 := by
  refine ⟨dL_law_1098, fun j hj => ?_, dL_law_1109, dL_law_1112, fun j hj => ?_, dL_law_1123, dL_law_1126⟩
  · rcases (show j = 0 ∨ j = 1 by omega) with rfl | rfl
    · exact ⟨dL_law_1099, dL_law_1100, dL_law_1101, dL_law_1102, dL_law_1103⟩
    · exact ⟨dL_law_1104, dL_law_1105, dL_law_1106, dL_law_1107, dL_law_1108⟩
  · rcases (show j = 0 ∨ j = 1 by omega) with rfl | rfl
    · exact ⟨dL_law_1113, dL_law_1114, dL_law_1115, dL_law_1116, dL_law_1117⟩
    · exact ⟨dL_law_1118, dL_law_1119, dL_law_1120, dL_law_1121, dL_law_1122⟩
theorem lw_d37 : lw_dc 1131 2 166 169 := by
  refine ⟨dL_law_1131, fun j hj => ?_, dL_law_1142, dL_law_1145, fun j hj => ?_, dL_law_1156, dL_law_1159⟩
  · rcases (show j = 0 ∨ j = 1 by omega) with rfl | rfl
    · exact ⟨dL_law_1132, dL_law_1133, dL_law_1134, dL_law_1135, dL_law_1136⟩
    · exact ⟨dL_law_1137, dL_law_1138, dL_law_1139, dL_law_1140, dL_law_1141⟩
  · rcases (show j = 0 ∨ j = 1 by omega) with rfl | rfl
    · exact ⟨dL_law_1146, dL_law_1147, dL_law_1148, dL_law_1149, dL_law_1150⟩
    · exact ⟨dL_law_1151, dL_law_1152, dL_law_1153, dL_law_1154, dL_law_1155⟩
theorem lw_d38 : lw_dc 1164 3 170 173 := by
  refine ⟨dL_law_1164, fun j hj => ?_, dL_law_1180, dL_law_1183, fun j hj => ?_, dL_law_1199, dL_law_1202⟩
  · rcases (show j = 0 ∨ j = 1 ∨ j = 2 by omega) with rfl | rfl | rfl
    · exact ⟨dL_law_1165, dL_law_1166, dL_law_1167, dL_law_1168, dL_law_1169⟩
    · exact ⟨dL_law_1170, dL_law_1171, dL_law_1172, dL_law_1173, dL_law_1174⟩
    · exact ⟨dL_law_1175, dL_law_1176, dL_law_1177, dL_law_1178, dL_law_1179⟩
  · rcases (show j = 0 ∨ j = 1 ∨ j = 2 by omega) with rfl | rfl | rfl
    · exact ⟨dL_law_1184, dL_law_1185, dL_law_1186, dL_law_1187, dL_law_1188⟩
    · exact ⟨dL_law_1189, dL_law_1190, dL_law_1191, dL_law_1192, dL_law_1193⟩
    · exact ⟨dL_law_1194, dL_law_1195, dL_law_1196, dL_law_1197, dL_law_1198⟩
theorem lw_d39 : lw_dc 1207 3 174 177 := by
  refine ⟨dL_law_1207, fun j hj => ?_, dL_law_1223, dL_law_1226, fun j hj => ?_, dL_law_1242, dL_law_1245⟩
  · rcases (show j = 0 ∨ j = 1 ∨ j = 2 by omega) with rfl | rfl | rfl
    · exact ⟨dL_law_1208, dL_law_1209, dL_law_1210, dL_law_1211, dL_law_1212⟩
    · exact ⟨dL_law_1213, dL_law_1214, dL_law_1215, dL_law_1216, dL_law_1217⟩
    · exact ⟨dL_law_1218, dL_law_1219, dL_law_1220, dL_law_1221, dL_law_1222⟩
  · rcases (show j = 0 ∨ j = 1 ∨ j = 2 by omega) with rfl | rfl | rfl
    · exact ⟨dL_law_1227, dL_law_1228, dL_law_1229, dL_law_1230, dL_law_1231⟩
    · exact ⟨dL_law_1232, dL_law_1233, dL_law_1234, dL_law_1235, dL_law_1236⟩
    · exact ⟨dL_law_1237, dL_law_1238, dL_law_1239, dL_law_1240, dL_law_1241⟩
theorem lw_d40 : lw_dc 1250 5 178 182 := by
  refine ⟨dL_law_1250, fun j hj => ?_, dL_law_1276, dL_law_1279, fun j hj => ?_, dL_law_1305, dL_law_1308⟩
  · rcases (show j = 0 ∨ j = 1 ∨ j = 2 ∨ j = 3 ∨ j = 4 by omega) with rfl | rfl | rfl | rfl | rfl
    · exact ⟨dL_law_1251, dL_law_1252, dL_law_1253, dL_law_1254, dL_law_1255⟩
    · exact ⟨dL_law_1256, dL_law_1257, dL_law_1258, dL_law_1259, dL_law_1260⟩
    · exact ⟨dL_law_1261, dL_law_1262, dL_law_1263, dL_law_1264, dL_law_1265⟩
    · exact ⟨dL_law_1266, dL_law_1267, dL_law_1268, dL_law_1269, dL_law_1270⟩
    · exact ⟨dL_law_1271, dL_law_1272, dL_law_1273, dL_law_1274, dL_law_1275⟩
  · rcases (show j = 0 ∨ j = 1 ∨ j = 2 ∨ j = 3 ∨ j = 4 by omega) with rfl | rfl | rfl | rfl | rfl
    · exact ⟨dL_law_1280, dL_law_1281, dL_law_1282, dL_law_1283, dL_law_1284⟩
    · exact ⟨dL_law_1285, dL_law_1286, dL_law_1287, dL_law_1288, dL_law_1289⟩
    · exact ⟨dL_law_1290, dL_law_1291, dL_law_1292, dL_law_1293, dL_law_1294⟩
    · exact ⟨dL_law_1295, dL_law_1296, dL_law_1297, dL_law_1298, dL_law_1299⟩
    · exact ⟨dL_law_1300, dL_law_1301, dL_law_1302, dL_law_1303, dL_law_1304⟩
theorem lw_d41 : lw_dc 1313 1 183 186 := by
  refine ⟨dL_law_1313, fun j hj => ?_, dL_law_1319, dL_law_1322, fun j hj => ?_, dL_law_1328, dL_law_1331⟩
  · obtain rfl : j = 0 := by omega
    exact ⟨dL_law_1314, dL_law_1315, dL_law_1316, dL_law_1317, dL_law_1318⟩
  · obtain rfl : j = 0 := by omega
    exact ⟨dL_law_1323, dL_law_1324, dL_law_1325, dL_law_1326, dL_law_1327⟩
theorem lw_d42 : lw_dc 1336 1 187 190 := by
  refine ⟨dL_law_1336, fun j hj => ?_, dL_law_1342, dL_law_1345, fun j hj => ?_, dL_law_1351, dL_law_1354⟩
  · obtain rfl : j = 0 := by omega
    exact ⟨dL_law_1337, dL_law_1338, dL_law_1339, dL_law_1340, dL_law_1341⟩
  · obtain rfl : j = 0 := by omega
    exact ⟨dL_law_1346, dL_law_1347, dL_law_1348, dL_law_1349, dL_law_1350⟩
theorem lw_d43 : lw_dc 1359 0 191 194 := by
  refine ⟨dL_law_1359, fun j hj => ?_, dL_law_1360, dL_law_1363, fun j hj => ?_, dL_law_1364, dL_law_1367⟩
  · exact absurd hj (Nat.not_lt_zero j)
  · exact absurd hj (Nat.not_lt_zero j)
theorem lw_d44 : lw_dc 1372 0 195 198 := by
  refine ⟨dL_law_1372, fun j hj => ?_, dL_law_1373, dL_law_1376, fun j hj => ?_, dL_law_1377, dL_law_1380⟩
  · exact absurd hj (Nat.not_lt_zero j)
  · exact absurd hj (Nat.not_lt_zero j)
theorem lw_d45 : lw_dc 1385 0 199 202 := by
  refine ⟨dL_law_1385, fun j hj => ?_, dL_law_1386, dL_law_1389, fun j hj => ?_, dL_law_1390, dL_law_1393⟩
  · exact absurd hj (Nat.not_lt_zero j)
  · exact absurd hj (Nat.not_lt_zero j)
theorem lw_d46 : lw_dc 1398 1 203 206 := by
  refine ⟨dL_law_1398, fun j hj => ?_, dL_law_1404, dL_law_1407, fun j hj => ?_, dL_law_1413, dL_law_1416⟩
  · obtain rfl : j = 0 := by omega
    exact ⟨dL_law_1399, dL_law_1400, dL_law_1401, dL_law_1402, dL_law_1403⟩
  · obtain rfl : j = 0 := by omega
    exact ⟨dL_law_1408, dL_law_1409, dL_law_1410, dL_law_1411, dL_law_1412⟩
theorem lw_d47 : lw_dc 1421 1 207 210 := by
  refine ⟨dL_law_1421, fun j hj => ?_, dL_law_1427, dL_law_1430, fun j hj => ?_, dL_law_1436, dL_law_1439⟩
  · obtain rfl : j = 0 := by omega
    exact ⟨dL_law_1422, dL_law_1423, dL_law_1424, dL_law_1425, dL_law_1426⟩
  · obtain rfl : j = 0 := by omega
    exact ⟨dL_law_1431, dL_law_1432, dL_law_1433, dL_law_1434, dL_law_1435⟩
section
variable {p : Program} {l : Launch} {e : Env} {R : Room} {s : State} {m : MethodId} {args : Array Value} {below : List Frame} {meth : Method} {c : Code} {Q : State → Prop}
variable {D : va_G} {adK adV : Nat → Nat} {cA : Nat → ClassId}
theorem lw_push (hx : p.tables.exec = Jvm.exec) (hb : c.code = code) {b L i : Nat} {xs : Nat → Int32} {A : Nat → Prop} {H : Heap} {locs : List Loc} {cells slots : Nat} {ls : Array Slot} {rest : List Value} (hL : L ≤ 3072) (hX : va_X b L xs s s.heap) (hbl : b < s.heap.size) (hbA : ¬ A b) (hS : va_S A s.heap H locs) (h0 : ls[0]? = some (.val (.ref b))) (h3 : ls[3]? = some (.val (.int (nI i)))) (hi : i + 6 ≤ L) (pc : Nat) : ∀ n : Nat, n ≤ 5 → (∀ j, j < n → lw_pd (pc + 5 * j) (j + 1)) → W p l e R s m args below meth c H locs cells slots Q (F0 m (pc + 5 * n) ls (lw_vs xs i n ++ rest)) → W p l e R s m args below meth c H locs cells slots Q (F0 m pc ls rest) := by
  intro n
  induction n with
  | zero => intro _ _ k; exact k
  | succ n ih =>
    intro hn hd k
    refine ih (by omega) (fun j hj => hd j (by omega)) ?_
    obtain ⟨d0, d1, d2, d3, d4⟩ := hd n (by omega)
    have k' : W p l e R s m args below meth c H locs cells slots Q (F0 m (pc + 5 * n + 5) ls (lw_vs xs i (n + 1) ++ rest)) := by
      have e1 : pc + 5 * (n + 1) = pc + 5 * n + 5 := by omega
      rw [e1] at k
      exact k
    have ec : Int32.ofInt ((n + 1 : Nat) : Int) = nI (n + 1) := by
      have hc : n = 0 ∨ n = 1 ∨ n = 2 ∨ n = 3 ∨ n = 4 := by omega
      rcases hc with rfl | rfl | rfl | rfl | rfl <;> decide
    refine lv_aload_n hx hb d0 rfl h0 ?_
    refine lv_iload_n hx hb d1 rfl h3 ?_
    refine lv_iconst (v := nI (n + 1)) hx hb d2 ec ?_
    refine lv_iadd hx hb d3 ?_
    rw [nI_add]
    refine va_sld hx hb hX hbl hbA hS (vp_in_nI (by omega) (by omega)) d4 ?_
    rw [nI_clamp (by omega)]
    exact k'
set_option maxHeartbeats 1000000 in
theorem lw_case (F : am_FX p s m args meth c lw_y) (K : am_KT D adK cA s) (Z : am_Z adK adV s.heap.size s s.heap) {b L i : Nat} {xs : Nat → Int32} (hL : L ≤ 3072) (hX : va_X b L xs s s.heap) (hbl : b < s.heap.size) (hi : i + 6 ≤ L)
    (hRf : 0 + 30 + 9 ≤ R.frames) (hRl : 100 * (0 + 30) + 500 ≤ R.locals) (hRc : 123 - 0 ≤ R.cells) (hRs : am_sl 123 - am_sl 0 ≤ R.slots)
    {p0 n ix im : Nat} {y y' : am_MI} (hn : n ≤ 5) (hd : lw_dc p0 n ix im) (hk1 : am_lkM 9 ix = some (y, n, 0)) (hy1 : y.1 = 7) (hk2 : am_lkM 9 im = some (y', n, 0)) (hy2 : y'.1 = 8) {h : hT} (hsm : Sm (0 + 30) y y' (lw_vs xs i n).reverse h)
    {H : Heap} {locs : List Loc} {ls : Array Slot} (hls : lv_has ls 4 [(3, .int (nI i)), (2, .ref (s.heap.size + 108)), (1, .ref (s.heap.size + 0)), (0, .ref b)]) (hP : va_P D am_cl (am_ws s.heap.size adK cA (sh_H h)) H) (hS : va_S (fun q : Nat => s.heap.size ≤ q) s.heap H locs)
    (kk : ∀ (h' : hT) (H' : Heap) (locs' : List Loc), Inv h' → va_P D am_cl (am_ws s.heap.size adK cA (sh_H h')) H' → va_S (fun q : Nat => s.heap.size ≤ q) s.heap H' locs' → W p l e R s m args below meth c H' locs' (123 - 0) (am_sl 123 - am_sl 0) Q (F0 m 1444 ls [])) :
    W p l e R s m args below meth c H locs (123 - 0) (am_sl 123 - am_sl 0) Q (F0 m p0 ls []) := by
  obtain ⟨hx, hb, hml, hown, hts, hname⟩ := id F
  obtain ⟨d1, d2, d3, d4, d5, d6, d7⟩ := hd
  obtain ⟨f1, r1, h1, e1, z, rfl, f2, r2, h2, e2, z2, rfl, rfl, hI⟩ := hsm
  have hbA : ¬ (fun q : Nat => s.heap.size ≤ q) b := Nat.not_le.mpr hbl
  have i1 : am_inv 9 (.invokevirtual ix) (lw_vs xs i n ++ Value.ref 0 :: []) (sh_H h) = some (y, .ref 0 :: (lw_vs xs i n).reverse, []) := lw_inv hk1 (by omega) (by show 0 < 123; decide) (by rw [hy1]; decide +kernel) (by decide)
  have i2 : am_inv 9 (.invokevirtual im) (lw_vs xs i n ++ Value.ref 108 :: [vi z2]) (sh_H h1) = some (y', .ref 108 :: (lw_vs xs i n).reverse, [vi z2]) := lw_inv hk2 (by omega) (by show 108 < 123; decide) (by rw [hy2]; decide +kernel) (by show 1 + 0 ≤ 8; decide)
  have M1 := am_met (l := l) (D := D) (b0 := s.heap.size) (adK := adK) (adV := adV) (cA := cA) tx_ok f1 (0 + 30) y _ _ _ _ e1 (am_inv_ok i1).1 (am_inv_ok i1).2
  have M2 := am_met (l := l) (D := D) (b0 := s.heap.size) (adK := adK) (adV := adV) (cA := cA) tx_ok f2 (0 + 30) y' _ _ _ _ e2 (am_inv_ok i2).1 (am_inv_ok i2).2
  refine lv_aload_n hx hb d1 rfl (lv_at hls 2 rfl) ?_
  refine lw_push hx hb hL hX hbl hbA hS (lv_at hls 3 rfl) (lv_at hls 0 rfl) hi (p0 + 1) n hn d2 ?_
  have q1 : lw_vs xs i n ++ [Value.ref (s.heap.size + 0)] = (lw_vs xs i n ++ Value.ref 0 :: []).map (am_tr s.heap.size adK) := by
    rw [lw_map]
    rfl
  rw [q1]
  refine am_soundC (y := lw_y) (d := 0 + 30) (n0 := 0) (hp := sh_H h) (hp' := sh_H h1) F K Z rfl hRf hRl (Nat.zero_le _) (Nat.le_refl _) d3 rfl i1 M1 hP hS hls.1 hRc hRs (fun H1 locs1 hP1 hS1 => ?_)
  refine lv_aload_n hx hb d4 rfl (lv_at hls 1 rfl) ?_
  refine lw_push hx hb hL hX hbl hbA hS1 (lv_at hls 3 rfl) (lv_at hls 0 rfl) hi (p0 + 1 + 5 * n + 3 + 1) n hn d5 ?_
  have q2 : lw_vs xs i n ++ Value.ref (s.heap.size + 108) :: ((some (vi z2)).toList ++ []).map (am_tr s.heap.size adK) = (lw_vs xs i n ++ Value.ref 108 :: [vi z2]).map (am_tr s.heap.size adK) := by
    rw [lw_map]
    rfl
  rw [q2]
  refine am_soundC (y := lw_y) (d := 0 + 30) (n0 := 0) (hp := sh_H h1) (hp' := sh_H h2) F K Z rfl hRf hRl (Nat.zero_le _) (Nat.le_refl _) d6 rfl i2 M2 hP1 hS1 hls.1 hRc hRs (fun H2 locs2 hP2 hS2 => ?_)
  exact lv_icmp_eq (x := Int32.ofInt z2) (y := Int32.ofInt z2) (rest := []) (tgt := 1444) hx hb d7 (by omega) (fun _ => kk h2 H2 locs2 hI hP2 hS2) (fun c => absurd rfl c)
theorem lw_new (F : am_FX p s m args meth c lw_y) (K : am_KT D adK cA s) {idx ci pc : Nat} {hp : am_H} {H : Heap} {locs : List Loc} {ls : Array Slot} {rest : List Value} (hF : am_lkL 9 idx = some ci) (h9 : ci < 9) (hk : (am_kd hp.1).1 = 4 + ci) (hd : decode code pc = .ok (.new idx, 3))
    (hP : va_P D am_cl (am_ws s.heap.size adK cA hp) H) (hS : va_S (fun q : Nat => s.heap.size ≤ q) s.heap H locs) (hR1 : hp.1 + 1 - 0 ≤ R.cells) (hR2 : am_sl (hp.1 + 1) - am_sl 0 ≤ R.slots)
    (kk : ∀ H' : Heap, va_P D am_cl (am_ws s.heap.size adK cA (hp.1 + 1, am_new hp.2 hp.1)) H' → va_S (fun q : Nat => s.heap.size ≤ q) s.heap H' locs → W p l e R s m args below meth c H' locs (hp.1 + 1 - 0) (am_sl (hp.1 + 1) - am_sl 0) Q (F0 m (pc + 3) ls (.ref (s.heap.size + hp.1) :: rest))) :
    W p l e R s m args below meth c H locs (hp.1 - 0) (am_sl hp.1 - am_sl 0) Q (F0 m pc ls rest) := by
  obtain ⟨hx, hb, hml, hown, hts, hname⟩ := id F
  have hA : ∀ q : Nat, s.heap.size ≤ q → (fun q : Nat => s.heap.size ≤ q) q := fun q h => h
  obtain ⟨-, h2⟩ := am_kd_obj hk h9
  have hi := am_inst_c ⟨ci, h9⟩
  have e1 : am_sl (hp.1 + 1) = am_sl hp.1 + am_nf ci := by rw [← h2]; rfl
  have e0 : am_sl 0 = 0 := rfl
  refine va_new hx hb hts (am_lay h9) (am_ty ci) (am_ty_ok h9) hown (hts _ ((am_L_ok hF).1 h9)) (hts _ hi.1) (hts _ hi.2) K.1 hP (am_ws_D _ _ _ _) hS hA (am_cl_get h9) (fs := (List.range (am_nf ci)).map (fun j => am_tr s.heap.size adK (am_dv hp.1 j))) (fun j hj => ?_) (by omega) (by omega) hd (fun q H1 q1 q2 q3 => ?_)
  · have ed : am_dv hp.1 j = defaultValue (am_ty ci j) := by unfold am_dv; rw [hk, Nat.add_comm]
    rw [vp_V, List.getD_eq_getElem?_getD, am_fs_get hj, ed]
    cases am_ty ci j <;> rfl
  · refine am_wsz (fun hz => ?_)
    have hq := am_fresh q1 q2 (by omega)
    subst hq
    rw [← h2, ← am_ce_obj (cA := cA) hk, ← am_ws_push] at q1
    refine W.cs (cells' := hp.1 + 1 - 0) (slots' := am_sl (hp.1 + 1) - am_sl 0) (by omega) (by omega) ?_
    exact kk _ q1 q3
theorem lw_invS {idx b : Nat} {y : am_MI} {hp : am_H} {rest : List Value} (hk : am_lkM 9 idx = some (y, 0, 2)) (h9 : y.1 < 9) (hb : b < hp.1) (hkd : (am_kd b).1 = 4 + y.1) (hr : (rest.map fun v => v.category).sum ≤ 8) : am_inv 9 (.invokespecial idx) (.ref b :: rest) hp = some (y, [.ref b], rest) := by
  unfold am_inv
  simp only [hk]
  show (if (True ∨ 2 = 5) ∧ y.1 < 9 ∧ b < hp.1 ∧ (am_kd b).1 = 4 + y.1 ∧ (rest.map fun v => v.category).sum ≤ 8 then some (y, [Value.ref b], rest) else none) = _
  rw [if_pos ⟨Or.inl trivial, h9, hb, hkd, hr⟩]
end
theorem lw_k108 : (am_kd 108).1 = 4 + 8 := by decide +kernel
theorem lw_n108 : 108 - 0 ≤ room_1.cells := by decide
theorem lw_n109 : 108 + 1 - 0 ≤ room_1.cells := by decide
theorem lw_n123 : 123 - 0 ≤ room_1.cells := by decide
theorem lw_s108 : am_sl 108 - am_sl 0 ≤ room_1.slots := by decide +kernel
theorem lw_s109 : am_sl (108 + 1) - am_sl 0 ≤ room_1.slots := by decide +kernel
theorem lw_s123 : am_sl 123 - am_sl 0 ≤ room_1.slots := by decide +kernel
theorem lw_sub6 {i L : Nat} (hi : i ≤ 3072) (hL : L ≤ 3072) : nI L - 6 < nI i ↔ L < i + 6 := by
  rw [Int32.lt_iff_toInt_lt, Int32.toInt_sub, nI_toInt (by omega), nI_toInt (by omega), show (6 : Int32).toInt = 6 from rfl, Int.bmod_eq_of_le (by omega) (by omega)]
  omega
theorem lw_and63 (x : Int32) : ∃ k : Nat, k < 64 ∧ (x &&& 63).toInt = (k : Int) := by
  have h : (x &&& 63).toBitVec = x.toBitVec &&& 63#32 := rfl
  have h2 : (x &&& 63).toBitVec.toNat ≤ 63 := by
    rw [h, BitVec.toNat_and]
    exact Nat.and_le_right
  refine ⟨(x &&& 63).toBitVec.toNat, by omega, ?_⟩
  show (x &&& 63).toBitVec.toInt = _
  rw [BitVec.toInt_eq_toNat_of_lt (by omega)]
set_option maxHeartbeats 4000000 in
set_option maxRecDepth 100000 in
theorem law_loop {p : Program} {l : Launch} {e : Env} {s : State} {m : MethodId} {below : List Frame} {meth : Method} {c : Code} {D : va_G} {adK adV : Nat → Nat} {cA : Nat → ClassId} {b L : Nat} {xs : Nat → Int32} (hL : L ≤ 3072) (C0 : lw_At p s m meth c b L xs) (F : am_FX p s m #[Value.ref b] meth c lw_y) (K : am_KT D adK cA s) (Z : am_Z adK adV s.heap.size s s.heap) :
    ∀ (n i : Nat), i ≤ L → L + 1 ≤ i + n → ∀ (h : hT) (H : Heap) (locs : List Loc) (ls : Array Slot), Inv h → va_P D am_cl (am_ws s.heap.size adK cA (sh_H h)) H → va_S (fun q : Nat => s.heap.size ≤ q) s.heap H locs → lv_has ls 4 [(3, .int (nI i)), (2, .ref (s.heap.size + 108)), (1, .ref (s.heap.size + 0)), (0, .ref b)] →
      W p l e room_1 s m #[Value.ref b] below meth c H locs (123 - 0) (am_sl 123 - am_sl 0) (lw_Z below #[Value.ref b] s) (F0 m 18 ls []) := by
  obtain ⟨hx, hb, hr, hml, hown, hts, hX, hbl, hlocks, hgv, hnm⟩ := id C0
  have hbA : ¬ (fun q : Nat => s.heap.size ≤ q) b := Nat.not_le.mpr hbl
  intro n
  induction n with
  | zero => intro i h1 h2; omega
  | succ n ih =>
    intro i hi hn h H locs ls hI hP hS hls
    refine lv_iload_n hx hb dL_law_18 rfl (lv_at hls 0 rfl) ?_
    refine lv_aload_n hx hb dL_law_19 rfl (lv_at hls 3 rfl) ?_
    refine va_slen hx hb hX hbl hbA hS dL_law_20 ?_
    refine lv_bipush (v := 6) hx hb dL_law_21 (by decide) ?_
    refine lv_isub hx hb dL_law_23 ?_
    refine lv_icmp_gt (tgt := 1450) hx hb dL_law_24 (by decide) (fun hc => ?_) (fun hc => ?_)
    · refine lv_iconst (v := 1) hx hb dL_law_1450 (by decide) ?_
      refine va_forget (fun q hq => hS.2.2 q hq) ?_
      refine W.widen (k := 600000) (n := 7302250) (by decide +kernel) (by decide +kernel) ?_
      exact lw_ret hx hb hr hlocks dL_law_1451
    · have hi6 : i + 6 ≤ L := by
        have hc2 : ¬ nI L - 6 < nI i := hc
        rw [lw_sub6 (by omega) hL] at hc2
        omega
      refine lv_aload_n hx hb dL_law_27 rfl (lv_at hls 3 rfl) ?_
      refine lv_iload_n hx hb dL_law_28 rfl (lv_at hls 0 rfl) ?_
      refine va_sld hx hb hX hbl hbA hS (vp_in_nI (by omega) (by omega)) dL_law_29 ?_
      refine lv_bipush (v := 63) hx hb dL_law_30 (by decide) ?_
      refine lv_iand hx hb dL_law_32 ?_
      have kk : ∀ (h' : hT) (H' : Heap) (locs' : List Loc), Inv h' → va_P D am_cl (am_ws s.heap.size adK cA (sh_H h')) H' → va_S (fun q : Nat => s.heap.size ≤ q) s.heap H' locs' → W p l e room_1 s m #[Value.ref b] below meth c H' locs' (123 - 0) (am_sl 123 - am_sl 0) (lw_Z below #[Value.ref b] s) (F0 m 1444 ls []) := by
        intro h' H' locs' hI' hP' hS'
        refine lv_iinc (v := nI (i + 6)) (lv' := [(3, .int (nI (i + 6))), (2, .ref (s.heap.size + 108)), (1, .ref (s.heap.size + 0)), (0, .ref b)]) hx hb dL_law_1444 hls (k := 0) rfl (nI_add i 6) (by decide) rfl (fun ls' hl' => ?_)
        refine lv_goto (tgt := 18) hx hb dL_law_1447 (by decide) ?_
        exact ih (i + 6) hi6 (by omega) h' H' locs' ls' hI' hP' hS' hl'
      obtain ⟨k, hk, ek⟩ := lw_and63 (xs (nI i).toNatClampNeg)
      generalize xs (nI i).toNatClampNeg &&& 63 = x0 at ek ⊢
      have go : ∀ (p0 n ix im : Nat) (y y' : am_MI), ¬ (47 : Int) < (k : Int) → (#[207, 260, 293, 336, 369, 412, 445, 468, 501, 534, 557, 580, 603, 626, 639, 672, 695, 728, 751, 774, 787, 810, 823, 836, 849, 862, 875, 888, 911, 924, 947, 970, 983, 1006, 1039, 1052, 1065, 1098, 1131, 1174, 1217, 1280, 1303, 1326, 1339, 1352, 1365, 1388] : Array Int)[k]? = some ((p0 : Int) - 33) → n ≤ 5 → lw_dc p0 n ix im → am_lkM 9 ix = some (y, n, 0) → y.1 = 7 → am_lkM 9 im = some (y', n, 0) → y'.1 = 8 → Sm (0 + 30) y y' (lw_vs xs i n).reverse h → W p l e room_1 s m #[Value.ref b] below meth c H locs (123 - 0) (am_sl 123 - am_sl 0) (lw_Z below #[Value.ref b] s) (F0 m 33 ls [.int x0]) := by
        intro p0 n ix im y y' g1 g2 g3 g4 g5 g6 g7 g8 g9
        refine lv_tableIn (tgt := p0) (off := (p0 : Int) - 33) hx hb dL_law_33 (by omega) (by omega) ?_ (by omega) ?_
        · rw [ek, Int.sub_zero, Int.toNat_natCast]
          exact g2
        · exact lw_case F K Z hL hX hbl hi6 (by decide) (by decide) (by decide) (by decide +kernel) g3 g4 g5 g6 g7 g8 g9 hls hP hS kk
      by_cases hk48 : k < 48
      · match k, hk48, go with
        | 0, _, go => exact go 240 4 13 17 mX7_street mX8_street (by decide) rfl (by decide) lw_d0 kM_9_13 rfl kM_9_17 rfl (by rw [lw_a4]; exact s_street hI (lw_rg _) (lw_rg _) (lw_rg _) (lw_rg _))
        | 1, _, go => exact go 293 2 18 22 mX7_of mX8_of (by decide) rfl (by decide) lw_d1 kM_9_18 rfl kM_9_22 rfl (by rw [lw_a2]; exact s_of hI (lw_rg _) (lw_rg _))
        | 2, _, go => exact go 326 3 23 27 mX7_change mX8_change (by decide) rfl (by decide) lw_d2 kM_9_23 rfl kM_9_27 rfl (by rw [lw_a3]; exact s_change hI (lw_rg _) (lw_rg _) (lw_rg _))
        | 3, _, go => exact go 369 2 28 31 mX7_quarter mX8_quarter (by decide) rfl (by decide) lw_d3 kM_9_28 rfl kM_9_31 rfl (by rw [lw_a2]; exact s_quarter hI (lw_rg _) (lw_rg _))
        | 4, _, go => exact go 402 3 32 35 mX7_spell mX8_spell (by decide) rfl (by decide) lw_d4 kM_9_32 rfl kM_9_35 rfl (by rw [lw_a3]; exact s_spell hI (lw_rg _) (lw_rg _) (lw_rg _))
        | 5, _, go => exact go 445 2 36 39 mX7_loss mX8_loss (by decide) rfl (by decide) lw_d5 kM_9_36 rfl kM_9_39 rfl (by rw [lw_a2]; exact s_loss hI (lw_rg _) (lw_rg _))
        | 6, _, go => exact go 478 1 40 44 mX7_next mX8_next (by decide) rfl (by decide) lw_d6 kM_9_40 rfl kM_9_44 rfl (by rw [lw_a1]; exact s_next hI (lw_rg _))
        | 7, _, go => exact go 501 2 45 48 mX7_by mX8_by (by decide) rfl (by decide) lw_d7 kM_9_45 rfl kM_9_48 rfl (by rw [lw_a2]; exact s_by hI (lw_rg _) (lw_rg _))
        | 8, _, go => exact go 534 2 49 52 mX7_grains mX8_grains (by decide) rfl (by decide) lw_d8 kM_9_49 rfl kM_9_52 rfl (by rw [lw_a2]; exact s_grains hI (lw_rg _) (lw_rg _))
        | 9, _, go => exact go 567 1 53 56 mX7_now mX8_now (by decide) rfl (by decide) lw_d9 kM_9_53 rfl kM_9_56 rfl (by rw [lw_a1]; exact s_now hI (lw_rg _))
        | 10, _, go => exact go 590 1 57 60 mX7_made mX8_made (by decide) rfl (by decide) lw_d10 kM_9_57 rfl kM_9_60 rfl (by rw [lw_a1]; exact s_made hI (lw_rg _))
        | 11, _, go => exact go 613 1 61 64 mX7_carry mX8_carry (by decide) rfl (by decide) lw_d11 kM_9_61 rfl kM_9_64 rfl (by rw [lw_a1]; exact s_carry hI (lw_rg _))
        | 12, _, go => exact go 636 1 65 68 mX7_wait mX8_wait (by decide) rfl (by decide) lw_d12 kM_9_65 rfl kM_9_68 rfl (by rw [lw_a1]; exact s_wait hI (lw_rg _))
        | 13, _, go => exact go 659 0 69 73 mX7_day mX8_day (by decide) rfl (by decide) lw_d13 kM_9_69 rfl kM_9_73 rfl (by rw [lw_a0]; exact s_day hI)
        | 14, _, go => exact go 672 2 74 77 mX7_costs mX8_costs (by decide) rfl (by decide) lw_d14 kM_9_74 rfl kM_9_77 rfl (by rw [lw_a2]; exact s_costs hI (lw_rg _) (lw_rg _))
        | 15, _, go => exact go 705 1 78 81 mX7_most mX8_most (by decide) rfl (by decide) lw_d15 kM_9_78 rfl kM_9_81 rfl (by rw [lw_a1]; exact s_most hI (lw_rg _))
        | 16, _, go => exact go 728 2 82 85 mX7_way mX8_way (by decide) rfl (by decide) lw_d16 kM_9_82 rfl kM_9_85 rfl (by rw [lw_a2]; exact s_way hI (lw_rg _) (lw_rg _))
        | 17, _, go => exact go 761 1 86 89 mX7_soonest mX8_soonest (by decide) rfl (by decide) lw_d17 kM_9_86 rfl kM_9_89 rfl (by rw [lw_a1]; exact s_soonest hI (lw_rg _))
        | 18, _, go => exact go 784 1 90 93 mX7_ways mX8_ways (by decide) rfl (by decide) lw_d18 kM_9_90 rfl kM_9_93 rfl (by rw [lw_a1]; exact s_ways hI (lw_rg _))
        | 19, _, go => exact go 807 0 94 97 mX7_round mX8_round (by decide) rfl (by decide) lw_d19 kM_9_94 rfl kM_9_97 rfl (by rw [lw_a0]; exact s_round hI)
        | 20, _, go => exact go 820 1 98 101 mX7_ith mX8_ith (by decide) rfl (by decide) lw_d20 kM_9_98 rfl kM_9_101 rfl (by rw [lw_a1]; exact s_ith hI (lw_rg _))
        | 21, _, go => exact go 843 0 102 105 mX7_rounds mX8_rounds (by decide) rfl (by decide) lw_d21 kM_9_102 rfl kM_9_105 rfl (by rw [lw_a0]; exact s_rounds hI)
        | 22, _, go => exact go 856 0 106 109 mX7_start mX8_start (by decide) rfl (by decide) lw_d22 kM_9_106 rfl kM_9_109 rfl (by rw [lw_a0]; exact s_start hI)
        | 23, _, go => exact go 869 0 110 113 mX7_better mX8_better (by decide) rfl (by decide) lw_d23 kM_9_110 rfl kM_9_113 rfl (by rw [lw_a0]; exact s_better hI)
        | 24, _, go => exact go 882 0 114 117 mX7_umbrella mX8_umbrella (by decide) rfl (by decide) lw_d24 kM_9_114 rfl kM_9_117 rfl (by rw [lw_a0]; exact s_umbrella hI)
        | 25, _, go => exact go 895 0 118 121 mX7_shade mX8_shade (by decide) rfl (by decide) lw_d25 kM_9_118 rfl kM_9_121 rfl (by rw [lw_a0]; exact s_shade hI)
        | 26, _, go => exact go 908 0 122 125 mX7_needed mX8_needed (by decide) rfl (by decide) lw_d26 kM_9_122 rfl kM_9_125 rfl (by rw [lw_a0]; exact s_needed hI)
        | 27, _, go => exact go 921 1 126 129 mX7_kindFor mX8_kindFor (by decide) rfl (by decide) lw_d27 kM_9_126 rfl kM_9_129 rfl (by rw [lw_a1]; exact s_kindFor hI (lw_rg _))
        | 28, _, go => exact go 944 0 130 133 mX7_reach mX8_reach (by decide) rfl (by decide) lw_d28 kM_9_130 rfl kM_9_133 rfl (by rw [lw_a0]; exact s_reach hI)
        | 29, _, go => exact go 957 1 134 137 mX7_sky mX8_sky (by decide) rfl (by decide) lw_d29 kM_9_134 rfl kM_9_137 rfl (by rw [lw_a1]; exact s_sky hI (lw_rg _))
        | 30, _, go => exact go 980 1 138 141 mX7_stray mX8_stray (by decide) rfl (by decide) lw_d30 kM_9_138 rfl kM_9_141 rfl (by rw [lw_a1]; exact s_stray hI (lw_rg _))
        | 31, _, go => exact go 1003 0 142 145 mX7_year mX8_year (by decide) rfl (by decide) lw_d31 kM_9_142 rfl kM_9_145 rfl (by rw [lw_a0]; exact s_year hI)
        | 32, _, go => exact go 1016 1 146 149 mX7_seed mX8_seed (by decide) rfl (by decide) lw_d32 kM_9_146 rfl kM_9_149 rfl (by rw [lw_a1]; exact s_seed hI (lw_rg _))
        | 33, _, go => exact go 1039 2 150 153 mX7_feed mX8_feed (by decide) rfl (by decide) lw_d33 kM_9_150 rfl kM_9_153 rfl (by rw [lw_a2]; exact s_feed hI (lw_rg _) (lw_rg _))
        | 34, _, go => exact go 1072 0 154 157 mX7_wipe mX8_wipe (by decide) rfl (by decide) lw_d34 kM_9_154 rfl kM_9_157 rfl (by rw [lw_a0]; exact s_wipe hI)
        | 35, _, go => exact go 1085 0 158 161 mX7_text mX8_text (by decide) rfl (by decide) lw_d35 kM_9_158 rfl kM_9_161 rfl (by rw [lw_a0]; exact s_text hI)
        | 36, _, go => exact go 1098 2 162 165 mX7_hold mX8_hold (by decide) rfl (by decide) lw_d36 kM_9_162 rfl kM_9_165 rfl (by rw [lw_a2]; exact s_hold hI (lw_rg _) (lw_rg _))
        | 37, _, go => exact go 1131 2 166 169 mX7_as mX8_as (by decide) rfl (by decide) lw_d37 kM_9_166 rfl kM_9_169 rfl (by rw [lw_a2]; exact s_as hI (lw_rg _) (lw_rg _))
        | 38, _, go => exact go 1164 3 170 173 mX7_sheet mX8_sheet (by decide) rfl (by decide) lw_d38 kM_9_170 rfl kM_9_173 rfl (by rw [lw_a3]; exact s_sheet hI (lw_rg _) (lw_rg _) (lw_rg _))
        | 39, _, go => exact go 1207 3 174 177 mX7_write mX8_write (by decide) rfl (by decide) lw_d39 kM_9_174 rfl kM_9_177 rfl (by rw [lw_a3]; exact s_write hI (lw_rg _) (lw_rg _) (lw_rg _))
        | 40, _, go => exact go 1250 5 178 182 mX7_copy mX8_copy (by decide) rfl (by decide) lw_d40 kM_9_178 rfl kM_9_182 rfl (by rw [lw_a5]; exact s_copy hI (lw_rg _) (lw_rg _) (lw_rg _) (lw_rg _) (lw_rg _))
        | 41, _, go => exact go 1313 1 183 186 mX7_load mX8_load (by decide) rfl (by decide) lw_d41 kM_9_183 rfl kM_9_186 rfl (by rw [lw_a1]; exact s_load hI (lw_rg _))
        | 42, _, go => exact go 1336 1 187 190 mX7_judge mX8_judge (by decide) rfl (by decide) lw_d42 kM_9_187 rfl kM_9_190 rfl (by rw [lw_a1]; exact s_judge hI (lw_rg _))
        | 43, _, go => exact go 1359 0 191 194 mX7_image mX8_image (by decide) rfl (by decide) lw_d43 kM_9_191 rfl kM_9_194 rfl (by rw [lw_a0]; exact s_image hI)
        | 44, _, go => exact go 1372 0 195 198 mX7_undo mX8_undo (by decide) rfl (by decide) lw_d44 kM_9_195 rfl kM_9_198 rfl (by rw [lw_a0]; exact s_undo hI)
        | 45, _, go => exact go 1385 0 199 202 mX7_tear mX8_tear (by decide) rfl (by decide) lw_d45 kM_9_199 rfl kM_9_202 rfl (by rw [lw_a0]; exact s_tear hI)
        | 46, _, go => exact go 1398 1 203 206 mX7_count mX8_count (by decide) rfl (by decide) lw_d46 kM_9_203 rfl kM_9_206 rfl (by rw [lw_a1]; exact s_count hI (lw_rg _))
        | 47, _, go => exact go 1421 1 207 210 mX7_status mX8_status (by decide) rfl (by decide) lw_d47 kM_9_207 rfl kM_9_210 rfl (by rw [lw_a1]; exact s_status hI (lw_rg _))
        | k + 48, q, _ => omega
      · exact lv_tableOut (tgt := 1444) hx hb dL_law_33 (Or.inr (by omega)) (by decide) (kk h H locs hI hP hS)
set_option maxHeartbeats 4000000 in
set_option maxRecDepth 100000 in
/-- from the entry, for every script of at most 3072 ints, the law comes to its end with true -/
theorem whole_start {p : Program} {e : Env} {s : State} {m : MethodId} {below : List Frame} {meth : Method} {c : Code} (l : Launch) {b L : Nat} {xs : Nat → Int32} (hL : L ≤ 3072) (C0 : lw_At p s m meth c b L xs) : W p l e room_1 s m #[Value.ref b] below meth c s.heap [] 0 0 (lw_Z below #[Value.ref b] s) (entryFrame m ([Value.ref b] : List Value).toArray 4) := by
  obtain ⟨hx, hb, hr, hml, hown, hts, hX, hbl, hlocks, hgv, hnm⟩ := id C0
  obtain ⟨adK, adV, Z, hK⟩ := sx_Z hts hgv
  obtain ⟨D, cA, K⟩ := sx_K hts hgv hK
  have F : am_FX p s m #[Value.ref b] meth c lw_y := ⟨hx, hb, hml, hown, fun w hw => hts w (am_tG_tbl w hw), hnm⟩
  obtain ⟨⟨n1, g1⟩, ⟨n2, g2⟩, e1, q1, e2, q2, e3⟩ := ct_both
  subst q1
  subst q2
  have hl := lv_entry ([.ref b]) (n := 4) (Nat.le_of_ble_eq_true rfl)
  rw [lg_entry_eq]
  generalize (lg_sl ([.ref b]) ++ List.replicate (4 - (lg_sl ([.ref b])).length) Slot.unset).toArray = ls at hl ⊢
  have hl : lv_has ls 4 [(0, .ref b)] := hl
  have hS : va_S (fun q : Nat => s.heap.size ≤ q) s.heap s.heap [] := va_S.rf
  have hP : va_P D am_cl (am_ws s.heap.size adK cA (0, ct_g0)) s.heap := fun k q h => by simp [am_ws] at h
  have i1 : am_inv 9 (.invokespecial 9) (.ref 0 :: [.ref 0]) (1, am_new ct_g0 0) = some (mX7_init, [.ref 0], [.ref 0]) := lw_invS kM_9_9 (by decide) (by decide) (by decide +kernel) (by decide)
  have i2 : am_inv 9 (.invokespecial 12) (.ref 108 :: [.ref 108]) (109, am_new g1 108) = some (mX8_init, [.ref 108], [.ref 108]) := lw_invS kM_9_12 (by decide) (by show 108 < 109; decide) (by decide +kernel) (by decide)
  have M1 := am_met (l := l) (D := D) (b0 := s.heap.size) (adK := adK) (adV := adV) (cA := cA) tx_ok 1000 5 mX7_init _ _ _ _ e1 (am_inv_ok i1).1 (am_inv_ok i1).2
  have M2 := am_met (l := l) (D := D) (b0 := s.heap.size) (adK := adK) (adV := adV) (cA := cA) tx_ok 1000 5 mX8_init _ _ _ _ e2 (am_inv_ok i2).1 (am_inv_ok i2).2
  have w0 : W p l e room_1 s m #[Value.ref b] below meth c s.heap [] (0 - 0) (am_sl 0 - am_sl 0) (lw_Z below #[Value.ref b] s) (F0 m 0 ls []) := by
    refine lw_new (hp := (0, ct_g0)) (idx := 7) (ci := 7) F K (by decide +kernel) (by decide) (by decide +kernel) dL_law_0 hP hS (by decide) (by decide +kernel) (fun H1 hP1 hS1 => ?_)
    refine lv_dup hx hb dL_law_3 rfl ?_
    refine am_soundC (y := lw_y) (d := 5) (n0 := 0) (st := Value.ref 0 :: [Value.ref 0]) (hp := (1, am_new ct_g0 0)) (hp' := (108, g1)) F K Z rfl (by decide) (by decide) (Nat.zero_le _) (show 1 ≤ 108 by decide) dL_law_4 rfl i1 M1 hP1 hS1 hl.1 lw_n108 lw_s108 (fun H2 locs2 hP2 hS2 => ?_)
    refine lv_astore_n (x := s.heap.size + 0) (rest := []) (lv' := [(1, .ref (s.heap.size + 0)), (0, .ref b)]) hx hb dL_law_7 rfl hl (by decide) rfl (fun ls1 hl1 => ?_)
    refine lw_new (hp := (108, g1)) (idx := 10) (ci := 8) F K (by decide +kernel) (by decide) lw_k108 dL_law_8 hP2 hS2 lw_n109 lw_s109 (fun H3 hP3 hS3 => ?_)
    refine lv_dup hx hb dL_law_11 rfl ?_
    refine am_soundC (y := lw_y) (d := 5) (n0 := 0) (st := Value.ref 108 :: [Value.ref 108]) (hp := (109, am_new g1 108)) (hp' := (123, g2)) F K Z rfl (by decide) (by decide) (Nat.zero_le _) (show 109 ≤ 123 by decide) dL_law_12 rfl i2 M2 hP3 hS3 hl1.1 lw_n123 lw_s123 (fun H4 locs4 hP4 hS4 => ?_)
    have hP5 : va_P D am_cl (am_ws s.heap.size adK cA (sh_H ct_h0)) H4 := am_P_cong (Nat.le_refl _) hP4 e3
    refine lv_astore_n (x := s.heap.size + 108) (rest := []) (lv' := [(2, .ref (s.heap.size + 108)), (1, .ref (s.heap.size + 0)), (0, .ref b)]) hx hb dL_law_15 rfl hl1 (by decide) rfl (fun ls2 hl2 => ?_)
    refine lv_iconst (v := 0) hx hb dL_law_16 (by decide) ?_
    refine lv_istore_n (lv' := [(3, .int 0), (2, .ref (s.heap.size + 108)), (1, .ref (s.heap.size + 0)), (0, .ref b)]) hx hb dL_law_17 rfl hl2 (by decide) rfl (fun ls3 hl3 => ?_)
    exact law_loop hL C0 F K Z (L + 1) 0 (Nat.zero_le L) (by omega) ct_h0 H4 locs4 ls3 iv_0 hP5 hS4 hl3
  exact w0
