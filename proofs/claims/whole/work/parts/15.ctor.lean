/-! the constructors, run by the kernel -/
def ct_g0 : Nat → Nat → Value := fun _ _ => .null
/-- the heap behind both constructors, as whole numbers -/
def ct_h0 : hT := fun a k =>
  if a = 2 + 2 ∨ a = 26 + 2 ∨ a = 49 + 2 ∨ a = 78 + 2 then k % 4
  else if a = 2 + 3 ∨ a = 26 + 3 ∨ a = 49 + 3 ∨ a = 78 + 3 then 3
  else if a = 23 ∨ a = 47 then (if k = 0 then 100 else if k = 3 then 500 else 200)
  else if a = 24 ∨ a = 48 then -1
  else if a = 1 ∨ a = 25 then (if k = 3 then 1 else 0)
  else if a = 69 then (if k = 9 then -1 else if k = 13 then -1 else 0)
  else if (8 ≤ a ∧ a ≤ 21) ∨ (32 ≤ a ∧ a ≤ 45) ∨ (55 ≤ a ∧ a ≤ 68) ∨ (84 ≤ a ∧ a ≤ 97) then (if k = 2 then 1 else if k = 3 then 5 else 0)
  else if a = 108 then (if k = 5 then -1 else 0)
  else if a = 109 then (if k < 8 then k % 4 else if k = 9 then 1 else if 10 ≤ k ∧ k < 20 then -1 else if 20 ≤ k ∧ k < 32 then 3 else if k = 45 then 100 else if k = 46 then 200 else if k = 47 then 200 else if k = 48 then 500 else 0)
  else 0
def ct_chk (lo n : Nat) (r : Option (Option Value × am_H)) : Bool := match r with
  | some (none, (n', g)) => n' == n && (List.range n).all (fun a => a < lo || (List.range (am_kd a).2).all (fun k => g a k == sh_e ct_h0 a k))
  | _ => false

def ct_t0 : List (Nat × Instr × Nat) := [(0, .aload_n 0, 1), (1, .invokespecial 3, 3), (4, .aload_n 0, 1), (5, .bipush 120, 2), (7, .newarray .int, 2), (9, .putfield 9, 3), (12, .aload_n 0, 1), (13, .iconst 0, 1), (14, .putfield 15, 3), (17, .aload_n 0, 1), (18, .new 19, 3), (21, .dup, 1), (22, .invokespecial 21, 3), (25, .putfield 22, 3), (28, .aload_n 0, 1), (29, .iconst 0, 1), (30, .putfield 26, 3), (33, .aload_n 0, 1), (34, .iconst 0, 1), (35, .putfield 29, 3), (38, .aload_n 0, 1), (39, .iconst 0, 1), (40, .putfield 32, 3), (43, .aload_n 0, 1), (44, .iconst 0, 1), (45, .putfield 35, 3), (48, .aload_n 0, 1), (49, .iconst 0, 1), (50, .putfield 38, 3), (53, .return_, 1)]
def ct_t1 : List (Nat × Instr × Nat) := [(0, .aload_n 0, 1), (1, .invokespecial 3, 3), (4, .aload_n 0, 1), (5, .iconst 4, 1), (6, .newarray .int, 2), (8, .putfield 9, 3), (11, .aload_n 0, 1), (12, .iconst 0, 1), (13, .putfield 15, 3), (16, .aload_n 0, 1), (17, .iconst 0, 1), (18, .putfield 19, 3), (21, .aload_n 0, 1), (22, .iconst 0, 1), (23, .putfield 22, 3), (26, .aload_n 0, 1), (27, .iconst 0, 1), (28, .putfield 25, 3), (31, .aload_n 0, 1), (32, .iconst 0, 1), (33, .putfield 28, 3), (36, .aload_n 0, 1), (37, .getfield 9, 3), (40, .iconst 0, 1), (41, .bipush 100, 2), (43, .iastore, 1), (44, .aload_n 0, 1), (45, .getfield 9, 3), (48, .iconst 1, 1), (49, .sipush 200, 3), (52, .iastore, 1), (53, .aload_n 0, 1), (54, .getfield 9, 3), (57, .iconst 2, 1), (58, .sipush 200, 3), (61, .iastore, 1), (62, .aload_n 0, 1), (63, .getfield 9, 3), (66, .iconst 3, 1), (67, .sipush 500, 3), (70, .iastore, 1), (71, .return_, 1)]
def ct_t2 : List (Nat × Instr × Nat) := [(0, .aload_n 0, 1), (1, .invokespecial 3, 3), (4, .aload_n 0, 1), (5, .new 9, 3), (8, .dup, 1), (9, .invokespecial 11, 3), (12, .putfield 12, 3), (15, .aload_n 0, 1), (16, .new 18, 3), (19, .dup, 1), (20, .invokespecial 20, 3), (23, .putfield 21, 3), (26, .aload_n 0, 1), (27, .bipush 10, 2), (29, .newarray .int, 2), (31, .putfield 25, 3), (34, .aload_n 0, 1), (35, .iconst 1, 1), (36, .putfield 29, 3), (39, .iconst 0, 1), (40, .istore_n 1, 1), (41, .iload_n 1, 1), (42, .bipush 10, 2), (44, .if_icmp .ge 16, 3), (47, .aload_n 0, 1), (48, .getfield 25, 3), (51, .iload_n 1, 1), (52, .iconst (-1), 1), (53, .iastore, 1), (54, .iinc 1 1, 3), (57, .goto (-16), 3), (60, .return_, 1)]
def ct_t3 : List (Nat × Instr × Nat) := [(0, .aload_n 0, 1), (1, .invokespecial 3, 3), (4, .aload_n 0, 1), (5, .bipush 64, 2), (7, .newarray .int, 2), (9, .putfield 9, 3), (12, .aload_n 0, 1), (13, .bipush 14, 2), (15, .newarray .int, 2), (17, .putfield 15, 3), (20, .aload_n 0, 1), (21, .sipush 168, 3), (24, .newarray .int, 2), (26, .putfield 18, 3), (29, .aload_n 0, 1), (30, .bipush 8, 2), (32, .newarray .int, 2), (34, .putfield 21, 3), (37, .aload_n 0, 1), (38, .iconst 0, 1), (39, .putfield 24, 3), (42, .aload_n 0, 1), (43, .iconst 0, 1), (44, .putfield 28, 3), (47, .aload_n 0, 1), (48, .iconst 0, 1), (49, .putfield 31, 3), (52, .aload_n 0, 1), (53, .iconst 0, 1), (54, .putfield 34, 3), (57, .aload_n 0, 1), (58, .iconst 0, 1), (59, .putfield 37, 3), (62, .aload_n 0, 1), (63, .iconst (-1), 1), (64, .putfield 40, 3), (67, .aload_n 0, 1), (68, .iconst 0, 1), (69, .putfield 43, 3), (72, .aload_n 0, 1), (73, .bipush 7, 2), (75, .newarray .int, 2), (77, .putfield 46, 3), (80, .aload_n 0, 1), (81, .iconst 0, 1), (82, .putfield 49, 3), (85, .aload_n 0, 1), (86, .iconst (-1), 1), (87, .putfield 52, 3), (90, .aload_n 0, 1), (91, .iconst 0, 1), (92, .putfield 55, 3), (95, .aload_n 0, 1), (96, .bipush 7, 2), (98, .newarray .int, 2), (100, .putfield 58, 3), (103, .aload_n 0, 1), (104, .iconst 0, 1), (105, .putfield 61, 3), (108, .return_, 1)]
def ct_t4 : List (Nat × Instr × Nat) := [(0, .aload_n 0, 1), (1, .invokespecial 3, 3), (4, .aload_n 0, 1), (5, .iconst 0, 1), (6, .putfield 9, 3), (9, .aload_n 0, 1), (10, .iconst 0, 1), (11, .putfield 15, 3), (14, .aload_n 0, 1), (15, .bipush 40, 2), (17, .newarray .int, 2), (19, .putfield 18, 3), (22, .return_, 1)]
def ct_t5 : List (Nat × Instr × Nat) := [(0, .aload_n 0, 1), (1, .invokespecial 3, 3), (4, .aload_n 0, 1), (5, .iconst 0, 1), (6, .putfield 9, 3), (9, .aload_n 0, 1), (10, .iconst 0, 1), (11, .putfield 15, 3), (14, .aload_n 0, 1), (15, .iconst 1, 1), (16, .putfield 18, 3), (19, .aload_n 0, 1), (20, .iconst 5, 1), (21, .putfield 21, 3), (24, .aload_n 0, 1), (25, .iconst 0, 1), (26, .putfield 24, 3), (29, .return_, 1)]
def ct_t6 : List (Nat × Instr × Nat) := [(0, .aload_n 0, 1), (1, .invokespecial 3, 3), (4, .aload_n 0, 1), (5, .bipush 14, 2), (7, .anewarray 9, 3), (10, .putfield 11, 3), (13, .aload_n 0, 1), (14, .iconst 0, 1), (15, .putfield 17, 3), (18, .aload_n 0, 1), (19, .bipush 8, 2), (21, .newarray .int, 2), (23, .putfield 21, 3), (26, .aload_n 0, 1), (27, .bipush 12, 2), (29, .newarray .int, 2), (31, .putfield 25, 3), (34, .aload_n 0, 1), (35, .bipush 12, 2), (37, .newarray .int, 2), (39, .putfield 28, 3), (42, .aload_n 0, 1), (43, .bipush 12, 2), (45, .newarray .int, 2), (47, .putfield 31, 3), (50, .iconst 0, 1), (51, .istore_n 1, 1), (52, .iload_n 1, 1), (53, .bipush 14, 2), (55, .if_icmp .ge 22, 3), (58, .aload_n 0, 1), (59, .getfield 11, 3), (62, .iload_n 1, 1), (63, .new 9, 3), (66, .dup, 1), (67, .invokespecial 34, 3), (70, .aastore, 1), (71, .iinc 1 1, 3), (74, .goto (-22), 3), (77, .iconst 0, 1), (78, .istore_n 1, 1), (79, .iload_n 1, 1), (80, .bipush 8, 2), (82, .if_icmp .ge 18, 3), (85, .aload_n 0, 1), (86, .getfield 21, 3), (89, .iload_n 1, 1), (90, .iload_n 1, 1), (91, .iconst 4, 1), (92, .irem, 1), (93, .iastore, 1), (94, .iinc 1 1, 3), (97, .goto (-18), 3), (100, .iconst 0, 1), (101, .istore_n 1, 1), (102, .iload_n 1, 1), (103, .bipush 12, 2), (105, .if_icmp .ge 16, 3), (108, .aload_n 0, 1), (109, .getfield 25, 3), (112, .iload_n 1, 1), (113, .iconst 3, 1), (114, .iastore, 1), (115, .iinc 1 1, 3), (118, .goto (-16), 3), (121, .return_, 1)]
def ct_t7 : List (Nat × Instr × Nat) := [(0, .aload_n 0, 1), (1, .invokespecial 1, 3), (4, .aload_n 0, 1), (5, .new 7, 3), (8, .dup, 1), (9, .invokespecial 9, 3), (12, .putfield 10, 3), (15, .aload_n 0, 1), (16, .new 7, 3), (19, .dup, 1), (20, .invokespecial 9, 3), (23, .putfield 16, 3), (26, .aload_n 0, 1), (27, .iconst 0, 1), (28, .putfield 19, 3), (31, .aload_n 0, 1), (32, .new 23, 3), (35, .dup, 1), (36, .invokespecial 25, 3), (39, .putfield 26, 3), (42, .aload_n 0, 1), (43, .new 30, 3), (46, .dup, 1), (47, .invokespecial 32, 3), (50, .putfield 33, 3), (53, .aload_n 0, 1), (54, .new 37, 3), (57, .dup, 1), (58, .invokespecial 39, 3), (61, .putfield 40, 3), (64, .aload_n 0, 1), (65, .iconst 4, 1), (66, .anewarray 44, 3), (69, .putfield 46, 3), (72, .aload_n 0, 1), (73, .bipush 7, 2), (75, .newarray .int, 2), (77, .putfield 50, 3), (80, .iconst 0, 1), (81, .istore_n 1, 1), (82, .iload_n 1, 1), (83, .iconst 4, 1), (84, .if_icmp .ge 22, 3), (87, .aload_n 0, 1), (88, .getfield 46, 3), (91, .iload_n 1, 1), (92, .new 44, 3), (95, .dup, 1), (96, .invokespecial 54, 3), (99, .aastore, 1), (100, .iinc 1 1, 3), (103, .goto (-21), 3), (106, .return_, 1)]
def ct_t8 : List (Nat × Instr × Nat) := [(0, .aload_n 0, 1), (1, .invokespecial 1, 3), (4, .aload_n 0, 1), (5, .bipush 123, 2), (7, .newarray .int, 2), (9, .putfield 9, 3), (12, .aload_n 0, 1), (13, .bipush 123, 2), (15, .newarray .int, 2), (17, .putfield 13, 3), (20, .aload_n 0, 1), (21, .bipush 123, 2), (23, .newarray .int, 2), (25, .putfield 16, 3), (28, .aload_n 0, 1), (29, .bipush 8, 2), (31, .newarray .int, 2), (33, .putfield 19, 3), (36, .aload_n 0, 1), (37, .iconst (-1), 1), (38, .putfield 22, 3), (41, .aload_n 0, 1), (42, .bipush 72, 2), (44, .newarray .int, 2), (46, .putfield 26, 3), (49, .aload_n 0, 1), (50, .bipush 8, 2), (52, .newarray .int, 2), (54, .putfield 29, 3), (57, .aload_n 0, 1), (58, .bipush 8, 2), (60, .newarray .int, 2), (62, .putfield 32, 3), (65, .aload_n 0, 1), (66, .bipush 120, 2), (68, .newarray .int, 2), (70, .putfield 35, 3), (73, .aload_n 0, 1), (74, .bipush 7, 2), (76, .anewarray 38, 3), (79, .dup, 1), (80, .iconst 0, 1), (81, .ldc 40, 2), (83, .aastore, 1), (84, .dup, 1), (85, .iconst 1, 1), (86, .ldc 42, 2), (88, .aastore, 1), (89, .dup, 1), (90, .iconst 2, 1), (91, .ldc 44, 2), (93, .aastore, 1), (94, .dup, 1), (95, .iconst 3, 1), (96, .ldc 46, 2), (98, .aastore, 1), (99, .dup, 1), (100, .iconst 4, 1), (101, .ldc 48, 2), (103, .aastore, 1), (104, .dup, 1), (105, .iconst 5, 1), (106, .ldc 50, 2), (108, .aastore, 1), (109, .dup, 1), (110, .bipush 6, 2), (112, .ldc 52, 2), (114, .aastore, 1), (115, .putfield 54, 3), (118, .aload_n 0, 1), (119, .sipush 1200, 3), (122, .newarray .int, 2), (124, .putfield 58, 3), (127, .aload_n 0, 1), (128, .iconst 4, 1), (129, .newarray .int, 2), (131, .putfield 61, 3), (134, .aload_n 0, 1), (135, .iconst 4, 1), (136, .newarray .int, 2), (138, .putfield 64, 3), (141, .aload_n 0, 1), (142, .sipush 160, 3), (145, .newarray .int, 2), (147, .putfield 67, 3), (150, .aload_n 0, 1), (151, .bipush 40, 2), (153, .newarray .int, 2), (155, .putfield 70, 3), (158, .iconst 0, 1), (159, .istore_n 1, 1), (160, .iload_n 1, 1), (161, .bipush 8, 2), (163, .if_icmp .ge 20, 3), (166, .aload_n 0, 1), (167, .getfield 9, 3), (170, .iconst 0, 1), (171, .iload_n 1, 1), (172, .iadd, 1), (173, .iload_n 1, 1), (174, .iconst 4, 1), (175, .irem, 1), (176, .iastore, 1), (177, .iinc 1 1, 3), (180, .goto (-20), 3), (183, .iconst 0, 1), (184, .istore_n 1, 1), (185, .iload_n 1, 1), (186, .bipush 12, 2), (188, .if_icmp .ge 19, 3), (191, .aload_n 0, 1), (192, .getfield 9, 3), (195, .bipush 20, 2), (197, .iload_n 1, 1), (198, .iadd, 1), (199, .iconst 3, 1), (200, .iastore, 1), (201, .iinc 1 1, 3), (204, .goto (-19), 3), (207, .aload_n 0, 1), (208, .getfield 9, 3), (211, .bipush 45, 2), (213, .bipush 100, 2), (215, .iastore, 1), (216, .aload_n 0, 1), (217, .getfield 9, 3), (220, .bipush 46, 2), (222, .sipush 200, 3), (225, .iastore, 1), (226, .aload_n 0, 1), (227, .getfield 9, 3), (230, .bipush 47, 2), (232, .sipush 200, 3), (235, .iastore, 1), (236, .aload_n 0, 1), (237, .getfield 9, 3), (240, .bipush 48, 2), (242, .sipush 500, 3), (245, .iastore, 1), (246, .aload_n 0, 1), (247, .getfield 9, 3), (250, .bipush 9, 2), (252, .iconst 1, 1), (253, .iastore, 1), (254, .iconst 0, 1), (255, .istore_n 1, 1), (256, .iload_n 1, 1), (257, .bipush 10, 2), (259, .if_icmp .ge 19, 3), (262, .aload_n 0, 1), (263, .getfield 9, 3), (266, .bipush 10, 2), (268, .iload_n 1, 1), (269, .iadd, 1), (270, .iconst (-1), 1), (271, .iastore, 1), (272, .iinc 1 1, 3), (275, .goto (-19), 3), (278, .return_, 1)]
def ct_tb : Nat → List (Nat × Instr × Nat) := fun c => match c with
  | 0 => ct_t0
  | 1 => ct_t1
  | 2 => ct_t2
  | 3 => ct_t3
  | 4 => ct_t4
  | 5 => ct_t5
  | 6 => ct_t6
  | 7 => ct_t7
  | 8 => ct_t8
  | _ => []
theorem ct_k0 : ∀ e ∈ ct_t0, decode cX0_init e.1 = .ok e.2 := by
  intro e he
  simp only [ct_t0, List.mem_cons, List.not_mem_nil, or_false] at he
  rcases he with rfl | rfl | rfl | rfl | rfl | rfl | rfl | rfl | rfl | rfl | rfl | rfl | rfl | rfl | rfl | rfl | rfl | rfl | rfl | rfl | rfl | rfl | rfl | rfl | rfl | rfl | rfl | rfl | rfl | rfl
  · exact dX0_init_0
  · exact dX0_init_1
  · exact dX0_init_4
  · exact dX0_init_5
  · exact dX0_init_7
  · exact dX0_init_9
  · exact dX0_init_12
  · exact dX0_init_13
  · exact dX0_init_14
  · exact dX0_init_17
  · exact dX0_init_18
  · exact dX0_init_21
  · exact dX0_init_22
  · exact dX0_init_25
  · exact dX0_init_28
  · exact dX0_init_29
  · exact dX0_init_30
  · exact dX0_init_33
  · exact dX0_init_34
  · exact dX0_init_35
  · exact dX0_init_38
  · exact dX0_init_39
  · exact dX0_init_40
  · exact dX0_init_43
  · exact dX0_init_44
  · exact dX0_init_45
  · exact dX0_init_48
  · exact dX0_init_49
  · exact dX0_init_50
  · exact dX0_init_53
theorem ct_k1 : ∀ e ∈ ct_t1, decode cX1_init e.1 = .ok e.2 := by
  intro e he
  simp only [ct_t1, List.mem_cons, List.not_mem_nil, or_false] at he
  rcases he with rfl | rfl | rfl | rfl | rfl | rfl | rfl | rfl | rfl | rfl | rfl | rfl | rfl | rfl | rfl | rfl | rfl | rfl | rfl | rfl | rfl | rfl | rfl | rfl | rfl | rfl | rfl | rfl | rfl | rfl | rfl | rfl | rfl | rfl | rfl | rfl | rfl | rfl | rfl | rfl | rfl | rfl
  · exact dX1_init_0
  · exact dX1_init_1
  · exact dX1_init_4
  · exact dX1_init_5
  · exact dX1_init_6
  · exact dX1_init_8
  · exact dX1_init_11
  · exact dX1_init_12
  · exact dX1_init_13
  · exact dX1_init_16
  · exact dX1_init_17
  · exact dX1_init_18
  · exact dX1_init_21
  · exact dX1_init_22
  · exact dX1_init_23
  · exact dX1_init_26
  · exact dX1_init_27
  · exact dX1_init_28
  · exact dX1_init_31
  · exact dX1_init_32
  · exact dX1_init_33
  · exact dX1_init_36
  · exact dX1_init_37
  · exact dX1_init_40
  · exact dX1_init_41
  · exact dX1_init_43
  · exact dX1_init_44
  · exact dX1_init_45
  · exact dX1_init_48
  · exact dX1_init_49
  · exact dX1_init_52
  · exact dX1_init_53
  · exact dX1_init_54
  · exact dX1_init_57
  · exact dX1_init_58
  · exact dX1_init_61
  · exact dX1_init_62
  · exact dX1_init_63
  · exact dX1_init_66
  · exact dX1_init_67
  · exact dX1_init_70
  · exact dX1_init_71
theorem ct_k2 : ∀ e ∈ ct_t2, decode cX2_init e.1 = .ok e.2 := by
  intro e he
  simp only [ct_t2, List.mem_cons, List.not_mem_nil, or_false] at he
  rcases he with rfl | rfl | rfl | rfl | rfl | rfl | rfl | rfl | rfl | rfl | rfl | rfl | rfl | rfl | rfl | rfl | rfl | rfl | rfl | rfl | rfl | rfl | rfl | rfl | rfl | rfl | rfl | rfl | rfl | rfl | rfl | rfl
  · exact dX2_init_0
  · exact dX2_init_1
  · exact dX2_init_4
  · exact dX2_init_5
  · exact dX2_init_8
  · exact dX2_init_9
  · exact dX2_init_12
  · exact dX2_init_15
  · exact dX2_init_16
  · exact dX2_init_19
  · exact dX2_init_20
  · exact dX2_init_23
  · exact dX2_init_26
  · exact dX2_init_27
  · exact dX2_init_29
  · exact dX2_init_31
  · exact dX2_init_34
  · exact dX2_init_35
  · exact dX2_init_36
  · exact dX2_init_39
  · exact dX2_init_40
  · exact dX2_init_41
  · exact dX2_init_42
  · exact dX2_init_44
  · exact dX2_init_47
  · exact dX2_init_48
  · exact dX2_init_51
  · exact dX2_init_52
  · exact dX2_init_53
  · exact dX2_init_54
  · exact dX2_init_57
  · exact dX2_init_60
theorem ct_k3 : ∀ e ∈ ct_t3, decode cX3_init e.1 = .ok e.2 := by
  intro e he
  simp only [ct_t3, List.mem_cons, List.not_mem_nil, or_false] at he
  rcases he with rfl | rfl | rfl | rfl | rfl | rfl | rfl | rfl | rfl | rfl | rfl | rfl | rfl | rfl | rfl | rfl | rfl | rfl | rfl | rfl | rfl | rfl | rfl | rfl | rfl | rfl | rfl | rfl | rfl | rfl | rfl | rfl | rfl | rfl | rfl | rfl | rfl | rfl | rfl | rfl | rfl | rfl | rfl | rfl | rfl | rfl | rfl | rfl | rfl | rfl | rfl | rfl | rfl | rfl | rfl | rfl | rfl | rfl | rfl | rfl
  · exact dX3_init_0
  · exact dX3_init_1
  · exact dX3_init_4
  · exact dX3_init_5
  · exact dX3_init_7
  · exact dX3_init_9
  · exact dX3_init_12
  · exact dX3_init_13
  · exact dX3_init_15
  · exact dX3_init_17
  · exact dX3_init_20
  · exact dX3_init_21
  · exact dX3_init_24
  · exact dX3_init_26
  · exact dX3_init_29
  · exact dX3_init_30
  · exact dX3_init_32
  · exact dX3_init_34
  · exact dX3_init_37
  · exact dX3_init_38
  · exact dX3_init_39
  · exact dX3_init_42
  · exact dX3_init_43
  · exact dX3_init_44
  · exact dX3_init_47
  · exact dX3_init_48
  · exact dX3_init_49
  · exact dX3_init_52
  · exact dX3_init_53
  · exact dX3_init_54
  · exact dX3_init_57
  · exact dX3_init_58
  · exact dX3_init_59
  · exact dX3_init_62
  · exact dX3_init_63
  · exact dX3_init_64
  · exact dX3_init_67
  · exact dX3_init_68
  · exact dX3_init_69
  · exact dX3_init_72
  · exact dX3_init_73
  · exact dX3_init_75
  · exact dX3_init_77
  · exact dX3_init_80
  · exact dX3_init_81
  · exact dX3_init_82
  · exact dX3_init_85
  · exact dX3_init_86
  · exact dX3_init_87
  · exact dX3_init_90
  · exact dX3_init_91
  · exact dX3_init_92
  · exact dX3_init_95
  · exact dX3_init_96
  · exact dX3_init_98
  · exact dX3_init_100
  · exact dX3_init_103
  · exact dX3_init_104
  · exact dX3_init_105
  · exact dX3_init_108
theorem ct_k4 : ∀ e ∈ ct_t4, decode cX4_init e.1 = .ok e.2 := by
  intro e he
  simp only [ct_t4, List.mem_cons, List.not_mem_nil, or_false] at he
  rcases he with rfl | rfl | rfl | rfl | rfl | rfl | rfl | rfl | rfl | rfl | rfl | rfl | rfl
  · exact dX4_init_0
  · exact dX4_init_1
  · exact dX4_init_4
  · exact dX4_init_5
  · exact dX4_init_6
  · exact dX4_init_9
  · exact dX4_init_10
  · exact dX4_init_11
  · exact dX4_init_14
  · exact dX4_init_15
  · exact dX4_init_17
  · exact dX4_init_19
  · exact dX4_init_22
theorem ct_k5 : ∀ e ∈ ct_t5, decode cX5_init e.1 = .ok e.2 := by
  intro e he
  simp only [ct_t5, List.mem_cons, List.not_mem_nil, or_false] at he
  rcases he with rfl | rfl | rfl | rfl | rfl | rfl | rfl | rfl | rfl | rfl | rfl | rfl | rfl | rfl | rfl | rfl | rfl | rfl
  · exact dX5_init_0
  · exact dX5_init_1
  · exact dX5_init_4
  · exact dX5_init_5
  · exact dX5_init_6
  · exact dX5_init_9
  · exact dX5_init_10
  · exact dX5_init_11
  · exact dX5_init_14
  · exact dX5_init_15
  · exact dX5_init_16
  · exact dX5_init_19
  · exact dX5_init_20
  · exact dX5_init_21
  · exact dX5_init_24
  · exact dX5_init_25
  · exact dX5_init_26
  · exact dX5_init_29
theorem ct_k6 : ∀ e ∈ ct_t6, decode cX6_init e.1 = .ok e.2 := by
  intro e he
  simp only [ct_t6, List.mem_cons, List.not_mem_nil, or_false] at he
  rcases he with rfl | rfl | rfl | rfl | rfl | rfl | rfl | rfl | rfl | rfl | rfl | rfl | rfl | rfl | rfl | rfl | rfl | rfl | rfl | rfl | rfl | rfl | rfl | rfl | rfl | rfl | rfl | rfl | rfl | rfl | rfl | rfl | rfl | rfl | rfl | rfl | rfl | rfl | rfl | rfl | rfl | rfl | rfl | rfl | rfl | rfl | rfl | rfl | rfl | rfl | rfl | rfl | rfl | rfl | rfl | rfl | rfl | rfl | rfl | rfl | rfl | rfl | rfl | rfl | rfl | rfl
  · exact dX6_init_0
  · exact dX6_init_1
  · exact dX6_init_4
  · exact dX6_init_5
  · exact dX6_init_7
  · exact dX6_init_10
  · exact dX6_init_13
  · exact dX6_init_14
  · exact dX6_init_15
  · exact dX6_init_18
  · exact dX6_init_19
  · exact dX6_init_21
  · exact dX6_init_23
  · exact dX6_init_26
  · exact dX6_init_27
  · exact dX6_init_29
  · exact dX6_init_31
  · exact dX6_init_34
  · exact dX6_init_35
  · exact dX6_init_37
  · exact dX6_init_39
  · exact dX6_init_42
  · exact dX6_init_43
  · exact dX6_init_45
  · exact dX6_init_47
  · exact dX6_init_50
  · exact dX6_init_51
  · exact dX6_init_52
  · exact dX6_init_53
  · exact dX6_init_55
  · exact dX6_init_58
  · exact dX6_init_59
  · exact dX6_init_62
  · exact dX6_init_63
  · exact dX6_init_66
  · exact dX6_init_67
  · exact dX6_init_70
  · exact dX6_init_71
  · exact dX6_init_74
  · exact dX6_init_77
  · exact dX6_init_78
  · exact dX6_init_79
  · exact dX6_init_80
  · exact dX6_init_82
  · exact dX6_init_85
  · exact dX6_init_86
  · exact dX6_init_89
  · exact dX6_init_90
  · exact dX6_init_91
  · exact dX6_init_92
  · exact dX6_init_93
  · exact dX6_init_94
  · exact dX6_init_97
  · exact dX6_init_100
  · exact dX6_init_101
  · exact dX6_init_102
  · exact dX6_init_103
  · exact dX6_init_105
  · exact dX6_init_108
  · exact dX6_init_109
  · exact dX6_init_112
  · exact dX6_init_113
  · exact dX6_init_114
  · exact dX6_init_115
  · exact dX6_init_118
  · exact dX6_init_121
theorem ct_k7 : ∀ e ∈ ct_t7, decode cX7_init e.1 = .ok e.2 := by
  intro e he
  simp only [ct_t7, List.mem_cons, List.not_mem_nil, or_false] at he
  rcases he with rfl | rfl | rfl | rfl | rfl | rfl | rfl | rfl | rfl | rfl | rfl | rfl | rfl | rfl | rfl | rfl | rfl | rfl | rfl | rfl | rfl | rfl | rfl | rfl | rfl | rfl | rfl | rfl | rfl | rfl | rfl | rfl | rfl | rfl | rfl | rfl | rfl | rfl | rfl | rfl | rfl | rfl | rfl | rfl | rfl | rfl | rfl | rfl | rfl | rfl | rfl | rfl | rfl
  · exact dX7_init_0
  · exact dX7_init_1
  · exact dX7_init_4
  · exact dX7_init_5
  · exact dX7_init_8
  · exact dX7_init_9
  · exact dX7_init_12
  · exact dX7_init_15
  · exact dX7_init_16
  · exact dX7_init_19
  · exact dX7_init_20
  · exact dX7_init_23
  · exact dX7_init_26
  · exact dX7_init_27
  · exact dX7_init_28
  · exact dX7_init_31
  · exact dX7_init_32
  · exact dX7_init_35
  · exact dX7_init_36
  · exact dX7_init_39
  · exact dX7_init_42
  · exact dX7_init_43
  · exact dX7_init_46
  · exact dX7_init_47
  · exact dX7_init_50
  · exact dX7_init_53
  · exact dX7_init_54
  · exact dX7_init_57
  · exact dX7_init_58
  · exact dX7_init_61
  · exact dX7_init_64
  · exact dX7_init_65
  · exact dX7_init_66
  · exact dX7_init_69
  · exact dX7_init_72
  · exact dX7_init_73
  · exact dX7_init_75
  · exact dX7_init_77
  · exact dX7_init_80
  · exact dX7_init_81
  · exact dX7_init_82
  · exact dX7_init_83
  · exact dX7_init_84
  · exact dX7_init_87
  · exact dX7_init_88
  · exact dX7_init_91
  · exact dX7_init_92
  · exact dX7_init_95
  · exact dX7_init_96
  · exact dX7_init_99
  · exact dX7_init_100
  · exact dX7_init_103
  · exact dX7_init_106
theorem ct_k8 : ∀ e ∈ ct_t8, decode cX8_init e.1 = .ok e.2 := by
  intro e he
  simp only [ct_t8, List.mem_cons, List.not_mem_nil, or_false] at he
  rcases he with rfl | rfl | rfl | rfl | rfl | rfl | rfl | rfl | rfl | rfl | rfl | rfl | rfl | rfl | rfl | rfl | rfl | rfl | rfl | rfl | rfl | rfl | rfl | rfl | rfl | rfl | rfl | rfl | rfl | rfl | rfl | rfl | rfl | rfl | rfl | rfl | rfl | rfl | rfl | rfl | rfl | rfl | rfl | rfl | rfl | rfl | rfl | rfl | rfl | rfl | rfl | rfl | rfl | rfl | rfl | rfl | rfl | rfl | rfl | rfl | rfl | rfl | rfl | rfl | rfl | rfl | rfl | rfl | rfl | rfl | rfl | rfl | rfl | rfl | rfl | rfl | rfl | rfl | rfl | rfl | rfl | rfl | rfl | rfl | rfl | rfl | rfl | rfl | rfl | rfl | rfl | rfl | rfl | rfl | rfl | rfl | rfl | rfl | rfl | rfl | rfl | rfl | rfl | rfl | rfl | rfl | rfl | rfl | rfl | rfl | rfl | rfl | rfl | rfl | rfl | rfl | rfl | rfl | rfl | rfl | rfl | rfl | rfl | rfl | rfl | rfl | rfl | rfl | rfl | rfl | rfl | rfl | rfl | rfl | rfl | rfl | rfl | rfl | rfl | rfl | rfl | rfl | rfl | rfl | rfl | rfl | rfl | rfl | rfl | rfl | rfl | rfl | rfl | rfl | rfl | rfl | rfl | rfl | rfl
  · exact dX8_init_0
  · exact dX8_init_1
  · exact dX8_init_4
  · exact dX8_init_5
  · exact dX8_init_7
  · exact dX8_init_9
  · exact dX8_init_12
  · exact dX8_init_13
  · exact dX8_init_15
  · exact dX8_init_17
  · exact dX8_init_20
  · exact dX8_init_21
  · exact dX8_init_23
  · exact dX8_init_25
  · exact dX8_init_28
  · exact dX8_init_29
  · exact dX8_init_31
  · exact dX8_init_33
  · exact dX8_init_36
  · exact dX8_init_37
  · exact dX8_init_38
  · exact dX8_init_41
  · exact dX8_init_42
  · exact dX8_init_44
  · exact dX8_init_46
  · exact dX8_init_49
  · exact dX8_init_50
  · exact dX8_init_52
  · exact dX8_init_54
  · exact dX8_init_57
  · exact dX8_init_58
  · exact dX8_init_60
  · exact dX8_init_62
  · exact dX8_init_65
  · exact dX8_init_66
  · exact dX8_init_68
  · exact dX8_init_70
  · exact dX8_init_73
  · exact dX8_init_74
  · exact dX8_init_76
  · exact dX8_init_79
  · exact dX8_init_80
  · exact dX8_init_81
  · exact dX8_init_83
  · exact dX8_init_84
  · exact dX8_init_85
  · exact dX8_init_86
  · exact dX8_init_88
  · exact dX8_init_89
  · exact dX8_init_90
  · exact dX8_init_91
  · exact dX8_init_93
  · exact dX8_init_94
  · exact dX8_init_95
  · exact dX8_init_96
  · exact dX8_init_98
  · exact dX8_init_99
  · exact dX8_init_100
  · exact dX8_init_101
  · exact dX8_init_103
  · exact dX8_init_104
  · exact dX8_init_105
  · exact dX8_init_106
  · exact dX8_init_108
  · exact dX8_init_109
  · exact dX8_init_110
  · exact dX8_init_112
  · exact dX8_init_114
  · exact dX8_init_115
  · exact dX8_init_118
  · exact dX8_init_119
  · exact dX8_init_122
  · exact dX8_init_124
  · exact dX8_init_127
  · exact dX8_init_128
  · exact dX8_init_129
  · exact dX8_init_131
  · exact dX8_init_134
  · exact dX8_init_135
  · exact dX8_init_136
  · exact dX8_init_138
  · exact dX8_init_141
  · exact dX8_init_142
  · exact dX8_init_145
  · exact dX8_init_147
  · exact dX8_init_150
  · exact dX8_init_151
  · exact dX8_init_153
  · exact dX8_init_155
  · exact dX8_init_158
  · exact dX8_init_159
  · exact dX8_init_160
  · exact dX8_init_161
  · exact dX8_init_163
  · exact dX8_init_166
  · exact dX8_init_167
  · exact dX8_init_170
  · exact dX8_init_171
  · exact dX8_init_172
  · exact dX8_init_173
  · exact dX8_init_174
  · exact dX8_init_175
  · exact dX8_init_176
  · exact dX8_init_177
  · exact dX8_init_180
  · exact dX8_init_183
  · exact dX8_init_184
  · exact dX8_init_185
  · exact dX8_init_186
  · exact dX8_init_188
  · exact dX8_init_191
  · exact dX8_init_192
  · exact dX8_init_195
  · exact dX8_init_197
  · exact dX8_init_198
  · exact dX8_init_199
  · exact dX8_init_200
  · exact dX8_init_201
  · exact dX8_init_204
  · exact dX8_init_207
  · exact dX8_init_208
  · exact dX8_init_211
  · exact dX8_init_213
  · exact dX8_init_215
  · exact dX8_init_216
  · exact dX8_init_217
  · exact dX8_init_220
  · exact dX8_init_222
  · exact dX8_init_225
  · exact dX8_init_226
  · exact dX8_init_227
  · exact dX8_init_230
  · exact dX8_init_232
  · exact dX8_init_235
  · exact dX8_init_236
  · exact dX8_init_237
  · exact dX8_init_240
  · exact dX8_init_242
  · exact dX8_init_245
  · exact dX8_init_246
  · exact dX8_init_247
  · exact dX8_init_250
  · exact dX8_init_252
  · exact dX8_init_253
  · exact dX8_init_254
  · exact dX8_init_255
  · exact dX8_init_256
  · exact dX8_init_257
  · exact dX8_init_259
  · exact dX8_init_262
  · exact dX8_init_263
  · exact dX8_init_266
  · exact dX8_init_268
  · exact dX8_init_269
  · exact dX8_init_270
  · exact dX8_init_271
  · exact dX8_init_272
  · exact dX8_init_275
  · exact dX8_init_278
def ct_cd (c pc : Nat) : Option (Instr × Nat) := ((ct_tb c).find? (fun e => e.1 == pc)).map (fun e => e.2)
def ct_mi : Nat → am_MI := fun c => match c with
  | 0 => mX0_init
  | 1 => mX1_init
  | 2 => mX2_init
  | 3 => mX3_init
  | 4 => mX4_init
  | 5 => mX5_init
  | 6 => mX6_init
  | 7 => mX7_init
  | _ => mX8_init
theorem ct_cd_ok {c pc : Nat} {q : Instr × Nat} (hc : c < 9) (h : ct_cd c pc = some q) : decode (ct_mi c).2.2.1 pc = .ok q := by
  unfold ct_cd at h
  rw [Option.map_eq_some_iff] at h
  obtain ⟨e, h1, rfl⟩ := h
  have h2 := List.find?_some h1
  have h3 := List.mem_of_find?_eq_some h1
  simp only [beq_iff_eq] at h2
  subst h2
  match c, hc, h3 with
  | 0, _, h3 => exact ct_k0 e h3
  | 1, _, h3 => exact ct_k1 e h3
  | 2, _, h3 => exact ct_k2 e h3
  | 3, _, h3 => exact ct_k3 e h3
  | 4, _, h3 => exact ct_k4 e h3
  | 5, _, h3 => exact ct_k5 e h3
  | 6, _, h3 => exact ct_k6 e h3
  | 7, _, h3 => exact ct_k7 e h3
  | 8, _, h3 => exact ct_k8 e h3
  | c + 9, hc, _ => exact absurd hc (by omega)
/-- the same runs, the code by tables -/
def ct_run : Nat → (Nat → List Value → am_H → Option (Option Value × am_H)) → Nat → Nat → List Value → List Value → am_H → Option (Option Value × am_H)
  | 0, _, _, _, _, _, _ => none
  | n + 1, E, c, pc, al, st, hp => match ct_cd c pc with
    | none => none
    | some (i, len) => if am_ok i len = false then none else match am_fin none i st with
      | some r => some (r, hp)
      | none => match am_inv c i st hp with
        | some (y', as, rest) => if y'.1 < 9 ∧ y'.2.1.name = "<init>" then (match E y'.1 as hp with
          | some (r, hp') => ct_run n E c (pc + 3) al (r.toList ++ rest) hp'
          | none => none) else none
        | none => match am_stp c true i pc al st hp with
          | some (pc', al', st', hp') => ct_run n E c pc' al' st' hp'
          | none => none
def ct_ex (f : Nat) : Nat → Nat → List Value → am_H → Option (Option Value × am_H)
  | 0 => fun _ _ _ => none
  | d + 1 => fun c as hp => if as.length ≤ (ct_mi c).2.2.2.1 ∧ (∀ v ∈ as, v.category = 1) then ct_run f (ct_ex f d) c 0 (as ++ List.replicate ((ct_mi c).2.2.2.1 - as.length) .null) [] hp else none
def ct_n (n : Nat) (r : Option (Option Value × am_H)) : Bool := match r with
  | some (none, (n', g)) => n' == n
  | _ => false
