theorem dX7_spell_10 : decode cX7_spell 10 = .ok (.iload_n 2, 1) := by decide +kernel
theorem dX7_spell_11 : decode cX7_spell 11 = .ok (.iconst 0, 1) := by decide +kernel
theorem dX7_spell_12 : decode cX7_spell 12 = .ok (.iconst 1, 1) := by decide +kernel
theorem dX7_spell_13 : decode cX7_spell 13 = .ok (.invokestatic 62, 3) := by decide +kernel
theorem dX7_spell_16 : decode cX7_spell 16 = .ok (.ifCond .eq 13, 3) := by decide +kernel
theorem dX7_spell_19 : decode cX7_spell 19 = .ok (.iload_n 3, 1) := by decide +kernel
theorem dX7_spell_20 : decode cX7_spell 20 = .ok (.iconst 0, 1) := by decide +kernel
theorem dX7_spell_21 : decode cX7_spell 21 = .ok (.bipush 9, 2) := by decide +kernel
theorem dX7_spell_23 : decode cX7_spell 23 = .ok (.invokestatic 62, 3) := by decide +kernel
theorem dX7_spell_26 : decode cX7_spell 26 = .ok (.ifCond .ne 9, 3) := by decide +kernel
theorem dX7_spell_29 : decode cX7_spell 29 = .ok (.aload_n 0, 1) := by decide +kernel
theorem dX7_spell_30 : decode cX7_spell 30 = .ok (.iconst 0, 1) := by decide +kernel
theorem dX7_spell_31 : decode cX7_spell 31 = .ok (.invokevirtual 66, 3) := by decide +kernel
theorem dX7_spell_34 : decode cX7_spell 34 = .ok (.ireturn, 1) := by decide +kernel
theorem dX7_spell_35 : decode cX7_spell 35 = .ok (.iload_n 2, 1) := by decide +kernel
theorem dX7_spell_36 : decode cX7_spell 36 = .ok (.ifCond .ne 16, 3) := by decide +kernel
theorem dX7_spell_39 : decode cX7_spell 39 = .ok (.aload_n 0, 1) := by decide +kernel
theorem dX7_spell_40 : decode cX7_spell 40 = .ok (.getfield 10, 3) := by decide +kernel
theorem dX7_spell_43 : decode cX7_spell 43 = .ok (.getfield 70, 3) := by decide +kernel
theorem dX7_spell_46 : decode cX7_spell 46 = .ok (.getfield 129, 3) := by decide +kernel
theorem dX7_spell_49 : decode cX7_spell 49 = .ok (.goto 13, 3) := by decide +kernel
theorem dX7_spell_52 : decode cX7_spell 52 = .ok (.aload_n 0, 1) := by decide +kernel
theorem dX7_spell_53 : decode cX7_spell 53 = .ok (.getfield 10, 3) := by decide +kernel
theorem dX7_spell_56 : decode cX7_spell 56 = .ok (.getfield 70, 3) := by decide +kernel
theorem dX7_spell_59 : decode cX7_spell 59 = .ok (.getfield 132, 3) := by decide +kernel
theorem dX7_spell_62 : decode cX7_spell 62 = .ok (.iload_n 1, 1) := by decide +kernel
theorem dX7_spell_63 : decode cX7_spell 63 = .ok (.iload_n 3, 1) := by decide +kernel
theorem dX7_spell_64 : decode cX7_spell 64 = .ok (.invokestatic 125, 3) := by decide +kernel
theorem dX7_spell_67 : decode cX7_spell 67 = .ok (.ireturn, 1) := by decide +kernel
theorem dX7_loss_0 : decode cX7_loss 0 = .ok (.aload_n 0, 1) := by decide +kernel
theorem dX7_loss_1 : decode cX7_loss 1 = .ok (.getfield 10, 3) := by decide +kernel
theorem dX7_loss_4 : decode cX7_loss 4 = .ok (.getfield 70, 3) := by decide +kernel
theorem dX7_loss_7 : decode cX7_loss 7 = .ok (.iload_n 1, 1) := by decide +kernel
theorem dX7_loss_8 : decode cX7_loss 8 = .ok (.invokevirtual 81, 3) := by decide +kernel
theorem dX7_loss_11 : decode cX7_loss 11 = .ok (.ifCond .eq 13, 3) := by decide +kernel
theorem dX7_loss_14 : decode cX7_loss 14 = .ok (.iload_n 2, 1) := by decide +kernel
theorem dX7_loss_15 : decode cX7_loss 15 = .ok (.iconst 0, 1) := by decide +kernel
theorem dX7_loss_16 : decode cX7_loss 16 = .ok (.bipush 11, 2) := by decide +kernel
theorem dX7_loss_18 : decode cX7_loss 18 = .ok (.invokestatic 62, 3) := by decide +kernel
theorem dX7_loss_21 : decode cX7_loss 21 = .ok (.ifCond .ne 9, 3) := by decide +kernel
theorem dX7_loss_24 : decode cX7_loss 24 = .ok (.aload_n 0, 1) := by decide +kernel
theorem dX7_loss_25 : decode cX7_loss 25 = .ok (.iconst 0, 1) := by decide +kernel
theorem dX7_loss_26 : decode cX7_loss 26 = .ok (.invokevirtual 66, 3) := by decide +kernel
theorem dX7_loss_29 : decode cX7_loss 29 = .ok (.ireturn, 1) := by decide +kernel
theorem dX7_loss_30 : decode cX7_loss 30 = .ok (.aload_n 0, 1) := by decide +kernel
theorem dX7_loss_31 : decode cX7_loss 31 = .ok (.getfield 10, 3) := by decide +kernel
theorem dX7_loss_34 : decode cX7_loss 34 = .ok (.getfield 70, 3) := by decide +kernel
theorem dX7_loss_37 : decode cX7_loss 37 = .ok (.astore_n 3, 1) := by decide +kernel
theorem dX7_loss_38 : decode cX7_loss 38 = .ok (.aload_n 3, 1) := by decide +kernel
theorem dX7_loss_39 : decode cX7_loss 39 = .ok (.getfield 84, 3) := by decide +kernel
theorem dX7_loss_42 : decode cX7_loss 42 = .ok (.iload_n 1, 1) := by decide +kernel
theorem dX7_loss_43 : decode cX7_loss 43 = .ok (.aaload, 1) := by decide +kernel
theorem dX7_loss_44 : decode cX7_loss 44 = .ok (.aload_n 3, 1) := by decide +kernel
theorem dX7_loss_45 : decode cX7_loss 45 = .ok (.getfield 129, 3) := by decide +kernel
theorem dX7_loss_48 : decode cX7_loss 48 = .ok (.iload_n 2, 1) := by decide +kernel
theorem dX7_loss_49 : decode cX7_loss 49 = .ok (.iaload, 1) := by decide +kernel
theorem dX7_loss_50 : decode cX7_loss 50 = .ok (.aload_n 3, 1) := by decide +kernel
theorem dX7_loss_51 : decode cX7_loss 51 = .ok (.getfield 132, 3) := by decide +kernel
theorem dX7_loss_54 : decode cX7_loss 54 = .ok (.iload_n 2, 1) := by decide +kernel
theorem dX7_loss_55 : decode cX7_loss 55 = .ok (.iaload, 1) := by decide +kernel
theorem dX7_loss_56 : decode cX7_loss 56 = .ok (.aload_n 0, 1) := by decide +kernel
theorem dX7_loss_57 : decode cX7_loss 57 = .ok (.getfield 10, 3) := by decide +kernel
theorem dX7_loss_60 : decode cX7_loss 60 = .ok (.getfield 135, 3) := by decide +kernel
theorem dX7_loss_63 : decode cX7_loss 63 = .ok (.getfield 139, 3) := by decide +kernel
theorem dX7_loss_66 : decode cX7_loss 66 = .ok (.invokevirtual 144, 3) := by decide +kernel
theorem dX7_loss_69 : decode cX7_loss 69 = .ok (.ireturn, 1) := by decide +kernel
theorem dX7_next_0 : decode cX7_next 0 = .ok (.iload_n 1, 1) := by decide +kernel
theorem dX7_next_1 : decode cX7_next 1 = .ok (.invokestatic 59, 3) := by decide +kernel
theorem dX7_next_4 : decode cX7_next 4 = .ok (.ifCond .ne 9, 3) := by decide +kernel
theorem dX7_next_7 : decode cX7_next 7 = .ok (.aload_n 0, 1) := by decide +kernel
theorem dX7_next_8 : decode cX7_next 8 = .ok (.iconst 0, 1) := by decide +kernel
theorem dX7_next_9 : decode cX7_next 9 = .ok (.invokevirtual 66, 3) := by decide +kernel
theorem dX7_next_12 : decode cX7_next 12 = .ok (.ireturn, 1) := by decide +kernel
theorem dX7_next_13 : decode cX7_next 13 = .ok (.aload_n 0, 1) := by decide +kernel
theorem dX7_next_14 : decode cX7_next 14 = .ok (.getfield 10, 3) := by decide +kernel
theorem dX7_next_17 : decode cX7_next 17 = .ok (.getfield 70, 3) := by decide +kernel
theorem dX7_next_20 : decode cX7_next 20 = .ok (.iload_n 1, 1) := by decide +kernel
theorem dX7_next_21 : decode cX7_next 21 = .ok (.invokevirtual 148, 3) := by decide +kernel
theorem dX7_next_24 : decode cX7_next 24 = .ok (.ireturn, 1) := by decide +kernel
theorem dX7_by_0 : decode cX7_by 0 = .ok (.iload_n 1, 1) := by decide +kernel
theorem dX7_by_1 : decode cX7_by 1 = .ok (.invokestatic 59, 3) := by decide +kernel
theorem dX7_by_4 : decode cX7_by 4 = .ok (.ifCond .eq 15, 3) := by decide +kernel
theorem dX7_by_7 : decode cX7_by 7 = .ok (.iload_n 2, 1) := by decide +kernel
theorem dX7_by_8 : decode cX7_by 8 = .ok (.invokestatic 59, 3) := by decide +kernel
theorem dX7_by_11 : decode cX7_by 11 = .ok (.ifCond .eq 8, 3) := by decide +kernel
theorem dX7_by_14 : decode cX7_by 14 = .ok (.iload_n 1, 1) := by decide +kernel
theorem dX7_by_15 : decode cX7_by 15 = .ok (.iload_n 2, 1) := by decide +kernel
theorem dX7_by_16 : decode cX7_by 16 = .ok (.if_icmp .ne 9, 3) := by decide +kernel
theorem dX7_by_19 : decode cX7_by 19 = .ok (.aload_n 0, 1) := by decide +kernel
theorem dX7_by_20 : decode cX7_by 20 = .ok (.iconst 0, 1) := by decide +kernel
theorem dX7_by_21 : decode cX7_by 21 = .ok (.invokevirtual 66, 3) := by decide +kernel
theorem dX7_by_24 : decode cX7_by 24 = .ok (.ireturn, 1) := by decide +kernel
theorem dX7_by_25 : decode cX7_by 25 = .ok (.aload_n 0, 1) := by decide +kernel
theorem dX7_by_26 : decode cX7_by 26 = .ok (.getfield 10, 3) := by decide +kernel
theorem dX7_by_29 : decode cX7_by 29 = .ok (.getfield 70, 3) := by decide +kernel
theorem dX7_by_32 : decode cX7_by 32 = .ok (.iload_n 1, 1) := by decide +kernel
theorem dX7_by_33 : decode cX7_by 33 = .ok (.iload_n 2, 1) := by decide +kernel
theorem dX7_by_34 : decode cX7_by 34 = .ok (.invokevirtual 151, 3) := by decide +kernel
theorem dX7_by_37 : decode cX7_by 37 = .ok (.istore_n 3, 1) := by decide +kernel
theorem dX7_by_38 : decode cX7_by 38 = .ok (.iload_n 3, 1) := by decide +kernel
theorem dX7_by_39 : decode cX7_by 39 = .ok (.ifCond .ge 11, 3) := by decide +kernel
theorem dX7_by_42 : decode cX7_by 42 = .ok (.aload_n 0, 1) := by decide +kernel
theorem dX7_by_43 : decode cX7_by 43 = .ok (.iconst 3, 1) := by decide +kernel
theorem dX7_by_44 : decode cX7_by 44 = .ok (.invokevirtual 66, 3) := by decide +kernel
theorem dX7_by_47 : decode cX7_by 47 = .ok (.goto 4, 3) := by decide +kernel
theorem dX7_by_50 : decode cX7_by 50 = .ok (.iload_n 3, 1) := by decide +kernel
theorem dX7_by_51 : decode cX7_by 51 = .ok (.ireturn, 1) := by decide +kernel
theorem dX7_grains_0 : decode cX7_grains 0 = .ok (.iload_n 1, 1) := by decide +kernel
theorem dX7_grains_1 : decode cX7_grains 1 = .ok (.iconst 0, 1) := by decide +kernel
theorem dX7_grains_2 : decode cX7_grains 2 = .ok (.iconst 3, 1) := by decide +kernel
theorem dX7_grains_3 : decode cX7_grains 3 = .ok (.invokestatic 62, 3) := by decide +kernel
theorem dX7_grains_6 : decode cX7_grains 6 = .ok (.ifCond .eq 14, 3) := by decide +kernel
theorem dX7_grains_9 : decode cX7_grains 9 = .ok (.iload_n 2, 1) := by decide +kernel
theorem dX7_grains_10 : decode cX7_grains 10 = .ok (.iconst 0, 1) := by decide +kernel
theorem dX7_grains_11 : decode cX7_grains 11 = .ok (.sipush 9999, 3) := by decide +kernel
theorem dX7_grains_14 : decode cX7_grains 14 = .ok (.invokestatic 62, 3) := by decide +kernel
theorem dX7_grains_17 : decode cX7_grains 17 = .ok (.ifCond .ne 9, 3) := by decide +kernel
theorem dX7_grains_20 : decode cX7_grains 20 = .ok (.aload_n 0, 1) := by decide +kernel
theorem dX7_grains_21 : decode cX7_grains 21 = .ok (.iconst 0, 1) := by decide +kernel
theorem dX7_grains_22 : decode cX7_grains 22 = .ok (.invokevirtual 66, 3) := by decide +kernel
theorem dX7_grains_25 : decode cX7_grains 25 = .ok (.ireturn, 1) := by decide +kernel
theorem dX7_grains_26 : decode cX7_grains 26 = .ok (.aload_n 0, 1) := by decide +kernel
theorem dX7_grains_27 : decode cX7_grains 27 = .ok (.getfield 10, 3) := by decide +kernel
theorem dX7_grains_30 : decode cX7_grains 30 = .ok (.getfield 135, 3) := by decide +kernel
theorem dX7_grains_33 : decode cX7_grains 33 = .ok (.getfield 154, 3) := by decide +kernel
theorem dX7_grains_36 : decode cX7_grains 36 = .ok (.iload_n 1, 1) := by decide +kernel
theorem dX7_grains_37 : decode cX7_grains 37 = .ok (.iload_n 2, 1) := by decide +kernel
theorem dX7_grains_38 : decode cX7_grains 38 = .ok (.invokestatic 125, 3) := by decide +kernel
theorem dX7_grains_41 : decode cX7_grains 41 = .ok (.ireturn, 1) := by decide +kernel
theorem dX7_now_0 : decode cX7_now 0 = .ok (.aload_n 0, 1) := by decide +kernel
theorem dX7_now_1 : decode cX7_now 1 = .ok (.getfield 10, 3) := by decide +kernel
theorem dX7_now_4 : decode cX7_now 4 = .ok (.getfield 135, 3) := by decide +kernel
theorem dX7_now_7 : decode cX7_now 7 = .ok (.astore_n 2, 1) := by decide +kernel
theorem dX7_now_8 : decode cX7_now 8 = .ok (.iload_n 1, 1) := by decide +kernel
theorem dX7_now_9 : decode cX7_now 9 = .ok (.iconst 0, 1) := by decide +kernel
theorem dX7_now_10 : decode cX7_now 10 = .ok (.iconst 3, 1) := by decide +kernel
theorem dX7_now_11 : decode cX7_now 11 = .ok (.invokestatic 62, 3) := by decide +kernel
theorem dX7_now_14 : decode cX7_now 14 = .ok (.ifCond .eq 10, 3) := by decide +kernel
theorem dX7_now_17 : decode cX7_now 17 = .ok (.aload_n 2, 1) := by decide +kernel
theorem dX7_now_18 : decode cX7_now 18 = .ok (.getfield 154, 3) := by decide +kernel
theorem dX7_now_21 : decode cX7_now 21 = .ok (.iload_n 1, 1) := by decide +kernel
theorem dX7_now_22 : decode cX7_now 22 = .ok (.iaload, 1) := by decide +kernel
theorem dX7_now_23 : decode cX7_now 23 = .ok (.ireturn, 1) := by decide +kernel
theorem dX7_now_24 : decode cX7_now 24 = .ok (.iload_n 1, 1) := by decide +kernel
theorem dX7_now_25 : decode cX7_now 25 = .ok (.tableswitch 69 4 9 #[39, 44, 49, 54, 59, 64], 39) := by decide +kernel
theorem dX7_now_64 : decode cX7_now 64 = .ok (.aload_n 2, 1) := by decide +kernel
theorem dX7_now_65 : decode cX7_now 65 = .ok (.invokevirtual 157, 3) := by decide +kernel
theorem dX7_now_68 : decode cX7_now 68 = .ok (.ireturn, 1) := by decide +kernel
theorem dX7_now_69 : decode cX7_now 69 = .ok (.aload_n 2, 1) := by decide +kernel
theorem dX7_now_70 : decode cX7_now 70 = .ok (.getfield 139, 3) := by decide +kernel
theorem dX7_now_73 : decode cX7_now 73 = .ok (.ireturn, 1) := by decide +kernel
theorem dX7_now_74 : decode cX7_now 74 = .ok (.aload_n 2, 1) := by decide +kernel
theorem dX7_now_75 : decode cX7_now 75 = .ok (.getfield 160, 3) := by decide +kernel
theorem dX7_now_78 : decode cX7_now 78 = .ok (.ireturn, 1) := by decide +kernel
theorem dX7_now_79 : decode cX7_now 79 = .ok (.aload_n 2, 1) := by decide +kernel
theorem dX7_now_80 : decode cX7_now 80 = .ok (.getfield 163, 3) := by decide +kernel
theorem dX7_now_83 : decode cX7_now 83 = .ok (.ireturn, 1) := by decide +kernel
theorem dX7_now_84 : decode cX7_now 84 = .ok (.aload_n 2, 1) := by decide +kernel
theorem dX7_now_85 : decode cX7_now 85 = .ok (.getfield 166, 3) := by decide +kernel
theorem dX7_now_88 : decode cX7_now 88 = .ok (.ireturn, 1) := by decide +kernel
theorem dX7_now_89 : decode cX7_now 89 = .ok (.aload_n 2, 1) := by decide +kernel
theorem dX7_now_90 : decode cX7_now 90 = .ok (.getfield 169, 3) := by decide +kernel
theorem dX7_now_93 : decode cX7_now 93 = .ok (.ireturn, 1) := by decide +kernel
theorem dX7_now_94 : decode cX7_now 94 = .ok (.aload_n 0, 1) := by decide +kernel
theorem dX7_now_95 : decode cX7_now 95 = .ok (.iconst 0, 1) := by decide +kernel
theorem dX7_now_96 : decode cX7_now 96 = .ok (.invokevirtual 66, 3) := by decide +kernel
theorem dX7_now_99 : decode cX7_now 99 = .ok (.ireturn, 1) := by decide +kernel
theorem dX7_made_0 : decode cX7_made 0 = .ok (.iload_n 1, 1) := by decide +kernel
theorem dX7_made_1 : decode cX7_made 1 = .ok (.iconst 0, 1) := by decide +kernel
theorem dX7_made_2 : decode cX7_made 2 = .ok (.iconst 1, 1) := by decide +kernel
theorem dX7_made_3 : decode cX7_made 3 = .ok (.invokestatic 62, 3) := by decide +kernel
theorem dX7_made_6 : decode cX7_made 6 = .ok (.ifCond .ne 9, 3) := by decide +kernel
theorem dX7_made_9 : decode cX7_made 9 = .ok (.aload_n 0, 1) := by decide +kernel
theorem dX7_made_10 : decode cX7_made 10 = .ok (.iconst 0, 1) := by decide +kernel
theorem dX7_made_11 : decode cX7_made 11 = .ok (.invokevirtual 66, 3) := by decide +kernel
theorem dX7_made_14 : decode cX7_made 14 = .ok (.ireturn, 1) := by decide +kernel
theorem dX7_made_15 : decode cX7_made 15 = .ok (.aload_n 0, 1) := by decide +kernel
theorem dX7_made_16 : decode cX7_made 16 = .ok (.getfield 10, 3) := by decide +kernel
theorem dX7_made_19 : decode cX7_made 19 = .ok (.getfield 135, 3) := by decide +kernel
theorem dX7_made_22 : decode cX7_made 22 = .ok (.getfield 139, 3) := by decide +kernel
theorem dX7_made_25 : decode cX7_made 25 = .ok (.istore_n 2, 1) := by decide +kernel
theorem dX7_made_26 : decode cX7_made 26 = .ok (.aload_n 0, 1) := by decide +kernel
theorem dX7_made_27 : decode cX7_made 27 = .ok (.getfield 10, 3) := by decide +kernel
theorem dX7_made_30 : decode cX7_made 30 = .ok (.getfield 135, 3) := by decide +kernel
theorem dX7_made_33 : decode cX7_made 33 = .ok (.iload_n 1, 1) := by decide +kernel
theorem dX7_made_34 : decode cX7_made 34 = .ok (.putfield 139, 3) := by decide +kernel
theorem dX7_made_37 : decode cX7_made 37 = .ok (.iload_n 2, 1) := by decide +kernel
theorem dX7_made_38 : decode cX7_made 38 = .ok (.ireturn, 1) := by decide +kernel
theorem dX7_carry_0 : decode cX7_carry 0 = .ok (.iload_n 1, 1) := by decide +kernel
theorem dX7_carry_1 : decode cX7_carry 1 = .ok (.invokestatic 59, 3) := by decide +kernel
theorem dX7_carry_4 : decode cX7_carry 4 = .ok (.ifCond .ne 9, 3) := by decide +kernel
theorem dX7_carry_7 : decode cX7_carry 7 = .ok (.aload_n 0, 1) := by decide +kernel
theorem dX7_carry_8 : decode cX7_carry 8 = .ok (.iconst 0, 1) := by decide +kernel
theorem dX7_carry_9 : decode cX7_carry 9 = .ok (.invokevirtual 66, 3) := by decide +kernel
theorem dX7_carry_12 : decode cX7_carry 12 = .ok (.ireturn, 1) := by decide +kernel
theorem dX7_carry_13 : decode cX7_carry 13 = .ok (.aload_n 0, 1) := by decide +kernel
theorem dX7_carry_14 : decode cX7_carry 14 = .ok (.getfield 10, 3) := by decide +kernel
theorem dX7_carry_17 : decode cX7_carry 17 = .ok (.getfield 70, 3) := by decide +kernel
theorem dX7_carry_20 : decode cX7_carry 20 = .ok (.aload_n 0, 1) := by decide +kernel
theorem dX7_carry_21 : decode cX7_carry 21 = .ok (.getfield 10, 3) := by decide +kernel
theorem dX7_carry_24 : decode cX7_carry 24 = .ok (.getfield 135, 3) := by decide +kernel
theorem dX7_carry_27 : decode cX7_carry 27 = .ok (.getfield 160, 3) := by decide +kernel
theorem dX7_carry_30 : decode cX7_carry 30 = .ok (.iload_n 1, 1) := by decide +kernel
theorem dX7_carry_31 : decode cX7_carry 31 = .ok (.invokevirtual 151, 3) := by decide +kernel
theorem dX7_carry_34 : decode cX7_carry 34 = .ok (.istore_n 2, 1) := by decide +kernel
theorem dX7_carry_35 : decode cX7_carry 35 = .ok (.iload_n 2, 1) := by decide +kernel
theorem dX7_carry_36 : decode cX7_carry 36 = .ok (.ifCond .ge 9, 3) := by decide +kernel
theorem dX7_carry_39 : decode cX7_carry 39 = .ok (.aload_n 0, 1) := by decide +kernel
theorem dX7_carry_40 : decode cX7_carry 40 = .ok (.iconst 3, 1) := by decide +kernel
theorem dX7_carry_41 : decode cX7_carry 41 = .ok (.invokevirtual 66, 3) := by decide +kernel
theorem dX7_carry_44 : decode cX7_carry 44 = .ok (.ireturn, 1) := by decide +kernel
theorem dX7_carry_45 : decode cX7_carry 45 = .ok (.aload_n 0, 1) := by decide +kernel
theorem dX7_carry_46 : decode cX7_carry 46 = .ok (.getfield 10, 3) := by decide +kernel
theorem dX7_carry_49 : decode cX7_carry 49 = .ok (.iload_n 2, 1) := by decide +kernel
theorem dX7_carry_50 : decode cX7_carry 50 = .ok (.invokevirtual 172, 3) := by decide +kernel
theorem dX7_carry_53 : decode cX7_carry 53 = .ok (.ifCond .eq 9, 3) := by decide +kernel
theorem dX7_carry_56 : decode cX7_carry 56 = .ok (.aload_n 0, 1) := by decide +kernel
theorem dX7_carry_57 : decode cX7_carry 57 = .ok (.iconst 4, 1) := by decide +kernel
theorem dX7_carry_58 : decode cX7_carry 58 = .ok (.invokevirtual 66, 3) := by decide +kernel
theorem dX7_carry_61 : decode cX7_carry 61 = .ok (.ireturn, 1) := by decide +kernel
theorem dX7_carry_62 : decode cX7_carry 62 = .ok (.aload_n 0, 1) := by decide +kernel
theorem dX7_carry_63 : decode cX7_carry 63 = .ok (.getfield 10, 3) := by decide +kernel
theorem dX7_carry_66 : decode cX7_carry 66 = .ok (.iload_n 2, 1) := by decide +kernel
theorem dX7_carry_67 : decode cX7_carry 67 = .ok (.iload_n 1, 1) := by decide +kernel
theorem dX7_carry_68 : decode cX7_carry 68 = .ok (.invokevirtual 175, 3) := by decide +kernel
theorem dX7_carry_71 : decode cX7_carry 71 = .ok (.ireturn, 1) := by decide +kernel
theorem dX7_wait_0 : decode cX7_wait 0 = .ok (.iload_n 1, 1) := by decide +kernel
theorem dX7_wait_1 : decode cX7_wait 1 = .ok (.iconst 1, 1) := by decide +kernel
theorem dX7_wait_2 : decode cX7_wait 2 = .ok (.bipush 60, 2) := by decide +kernel
theorem dX7_wait_4 : decode cX7_wait 4 = .ok (.invokestatic 62, 3) := by decide +kernel
theorem dX7_wait_7 : decode cX7_wait 7 = .ok (.ifCond .ne 9, 3) := by decide +kernel
theorem dX7_wait_10 : decode cX7_wait 10 = .ok (.aload_n 0, 1) := by decide +kernel
theorem dX7_wait_11 : decode cX7_wait 11 = .ok (.iconst 0, 1) := by decide +kernel
theorem dX7_wait_12 : decode cX7_wait 12 = .ok (.invokevirtual 66, 3) := by decide +kernel
theorem dX7_wait_15 : decode cX7_wait 15 = .ok (.ireturn, 1) := by decide +kernel
theorem dX7_wait_16 : decode cX7_wait 16 = .ok (.aload_n 0, 1) := by decide +kernel
theorem dX7_wait_17 : decode cX7_wait 17 = .ok (.getfield 10, 3) := by decide +kernel
theorem dX7_wait_20 : decode cX7_wait 20 = .ok (.getfield 135, 3) := by decide +kernel
theorem dX7_wait_23 : decode cX7_wait 23 = .ok (.getfield 163, 3) := by decide +kernel
theorem dX7_wait_26 : decode cX7_wait 26 = .ok (.iload_n 1, 1) := by decide +kernel
theorem dX7_wait_27 : decode cX7_wait 27 = .ok (.iadd, 1) := by decide +kernel
theorem dX7_wait_28 : decode cX7_wait 28 = .ok (.sipush 999, 3) := by decide +kernel
theorem dX7_wait_31 : decode cX7_wait 31 = .ok (.if_icmp .le 9, 3) := by decide +kernel
theorem dX7_wait_34 : decode cX7_wait 34 = .ok (.aload_n 0, 1) := by decide +kernel
theorem dX7_wait_35 : decode cX7_wait 35 = .ok (.iconst 4, 1) := by decide +kernel
theorem dX7_wait_36 : decode cX7_wait 36 = .ok (.invokevirtual 66, 3) := by decide +kernel
theorem dX7_wait_39 : decode cX7_wait 39 = .ok (.ireturn, 1) := by decide +kernel
theorem dX7_wait_40 : decode cX7_wait 40 = .ok (.aload_n 0, 1) := by decide +kernel
theorem dX7_wait_41 : decode cX7_wait 41 = .ok (.getfield 10, 3) := by decide +kernel
theorem dX7_wait_44 : decode cX7_wait 44 = .ok (.getfield 135, 3) := by decide +kernel
theorem dX7_wait_47 : decode cX7_wait 47 = .ok (.dup, 1) := by decide +kernel
theorem dX7_wait_48 : decode cX7_wait 48 = .ok (.getfield 163, 3) := by decide +kernel
theorem dX7_wait_51 : decode cX7_wait 51 = .ok (.iload_n 1, 1) := by decide +kernel
theorem dX7_wait_52 : decode cX7_wait 52 = .ok (.iadd, 1) := by decide +kernel
theorem dX7_wait_53 : decode cX7_wait 53 = .ok (.putfield 163, 3) := by decide +kernel
theorem dX7_wait_56 : decode cX7_wait 56 = .ok (.aload_n 0, 1) := by decide +kernel
theorem dX7_wait_57 : decode cX7_wait 57 = .ok (.getfield 10, 3) := by decide +kernel
theorem dX7_wait_60 : decode cX7_wait 60 = .ok (.getfield 135, 3) := by decide +kernel
theorem dX7_wait_63 : decode cX7_wait 63 = .ok (.getfield 163, 3) := by decide +kernel
theorem dX7_wait_66 : decode cX7_wait 66 = .ok (.ireturn, 1) := by decide +kernel
theorem dX7_day_0 : decode cX7_day 0 = .ok (.aload_n 0, 1) := by decide +kernel
theorem dX7_day_1 : decode cX7_day 1 = .ok (.getfield 10, 3) := by decide +kernel
theorem dX7_day_4 : decode cX7_day 4 = .ok (.getfield 135, 3) := by decide +kernel
theorem dX7_day_7 : decode cX7_day 7 = .ok (.getfield 166, 3) := by decide +kernel
theorem dX7_day_10 : decode cX7_day 10 = .ok (.invokestatic 178, 3) := by decide +kernel
theorem dX7_day_13 : decode cX7_day 13 = .ok (.istore_n 1, 1) := by decide +kernel
theorem dX7_day_14 : decode cX7_day 14 = .ok (.aload_n 0, 1) := by decide +kernel
theorem dX7_day_15 : decode cX7_day 15 = .ok (.getfield 10, 3) := by decide +kernel
theorem dX7_day_18 : decode cX7_day 18 = .ok (.getfield 135, 3) := by decide +kernel
theorem dX7_day_21 : decode cX7_day 21 = .ok (.invokevirtual 183, 3) := by decide +kernel
theorem dX7_day_24 : decode cX7_day 24 = .ok (.iload_n 1, 1) := by decide +kernel
theorem dX7_day_25 : decode cX7_day 25 = .ok (.ireturn, 1) := by decide +kernel
theorem dX7_costs_0 : decode cX7_costs 0 = .ok (.aload_n 0, 1) := by decide +kernel
theorem dX7_costs_1 : decode cX7_costs 1 = .ok (.getfield 10, 3) := by decide +kernel
theorem dX7_costs_4 : decode cX7_costs 4 = .ok (.getfield 70, 3) := by decide +kernel
theorem dX7_costs_7 : decode cX7_costs 7 = .ok (.iload_n 1, 1) := by decide +kernel
theorem dX7_costs_8 : decode cX7_costs 8 = .ok (.invokevirtual 81, 3) := by decide +kernel
theorem dX7_costs_11 : decode cX7_costs 11 = .ok (.ifCond .eq 14, 3) := by decide +kernel
theorem dX7_costs_14 : decode cX7_costs 14 = .ok (.iload_n 2, 1) := by decide +kernel
theorem dX7_costs_15 : decode cX7_costs 15 = .ok (.iconst 0, 1) := by decide +kernel
theorem dX7_costs_16 : decode cX7_costs 16 = .ok (.sipush 999, 3) := by decide +kernel
theorem dX7_costs_19 : decode cX7_costs 19 = .ok (.invokestatic 62, 3) := by decide +kernel
theorem dX7_costs_22 : decode cX7_costs 22 = .ok (.ifCond .ne 9, 3) := by decide +kernel
theorem dX7_costs_25 : decode cX7_costs 25 = .ok (.aload_n 0, 1) := by decide +kernel
theorem dX7_costs_26 : decode cX7_costs 26 = .ok (.iconst 0, 1) := by decide +kernel
theorem dX7_costs_27 : decode cX7_costs 27 = .ok (.invokevirtual 66, 3) := by decide +kernel
theorem dX7_costs_30 : decode cX7_costs 30 = .ok (.ireturn, 1) := by decide +kernel
theorem dX7_costs_31 : decode cX7_costs 31 = .ok (.aload_n 0, 1) := by decide +kernel
theorem dX7_costs_32 : decode cX7_costs 32 = .ok (.aload_n 0, 1) := by decide +kernel
theorem dX7_costs_33 : decode cX7_costs 33 = .ok (.getfield 10, 3) := by decide +kernel
theorem dX7_costs_36 : decode cX7_costs 36 = .ok (.getfield 70, 3) := by decide +kernel
theorem dX7_costs_39 : decode cX7_costs 39 = .ok (.iload_n 1, 1) := by decide +kernel
theorem dX7_costs_40 : decode cX7_costs 40 = .ok (.iload_n 2, 1) := by decide +kernel
theorem dX7_costs_41 : decode cX7_costs 41 = .ok (.invokevirtual 186, 3) := by decide +kernel
theorem dX7_costs_44 : decode cX7_costs 44 = .ok (.ireturn, 1) := by decide +kernel
theorem dX7_most_0 : decode cX7_most 0 = .ok (.aload_n 0, 1) := by decide +kernel
theorem dX7_most_1 : decode cX7_most 1 = .ok (.iload_n 1, 1) := by decide +kernel
theorem dX7_most_2 : decode cX7_most 2 = .ok (.invokevirtual 190, 3) := by decide +kernel
theorem dX7_most_5 : decode cX7_most 5 = .ok (.istore_n 2, 1) := by decide +kernel
theorem dX7_most_6 : decode cX7_most 6 = .ok (.iload_n 2, 1) := by decide +kernel
theorem dX7_most_7 : decode cX7_most 7 = .ok (.ifCond .eq 5, 3) := by decide +kernel
theorem dX7_most_10 : decode cX7_most 10 = .ok (.iload_n 2, 1) := by decide +kernel
theorem dX7_most_11 : decode cX7_most 11 = .ok (.ireturn, 1) := by decide +kernel
theorem dX7_most_12 : decode cX7_most 12 = .ok (.aload_n 0, 1) := by decide +kernel
theorem dX7_most_13 : decode cX7_most 13 = .ok (.getfield 33, 3) := by decide +kernel
theorem dX7_most_16 : decode cX7_most 16 = .ok (.getfield 193, 3) := by decide +kernel
theorem dX7_most_19 : decode cX7_most 19 = .ok (.ireturn, 1) := by decide +kernel
theorem dX7_way_0 : decode cX7_way 0 = .ok (.iload_n 2, 1) := by decide +kernel
theorem dX7_way_1 : decode cX7_way 1 = .ok (.iconst 0, 1) := by decide +kernel
theorem dX7_way_2 : decode cX7_way 2 = .ok (.bipush 6, 2) := by decide +kernel
theorem dX7_way_4 : decode cX7_way 4 = .ok (.invokestatic 62, 3) := by decide +kernel
theorem dX7_way_7 : decode cX7_way 7 = .ok (.ifCond .ne 9, 3) := by decide +kernel
theorem dX7_way_10 : decode cX7_way 10 = .ok (.aload_n 0, 1) := by decide +kernel
theorem dX7_way_11 : decode cX7_way 11 = .ok (.iconst 0, 1) := by decide +kernel
theorem dX7_way_12 : decode cX7_way 12 = .ok (.invokevirtual 66, 3) := by decide +kernel
theorem dX7_way_15 : decode cX7_way 15 = .ok (.ireturn, 1) := by decide +kernel
theorem dX7_way_16 : decode cX7_way 16 = .ok (.aload_n 0, 1) := by decide +kernel
theorem dX7_way_17 : decode cX7_way 17 = .ok (.iload_n 1, 1) := by decide +kernel
theorem dX7_way_18 : decode cX7_way 18 = .ok (.invokevirtual 190, 3) := by decide +kernel
theorem dX7_way_21 : decode cX7_way 21 = .ok (.istore_n 3, 1) := by decide +kernel
theorem dX7_way_22 : decode cX7_way 22 = .ok (.iload_n 3, 1) := by decide +kernel
theorem dX7_way_23 : decode cX7_way 23 = .ok (.ifCond .eq 5, 3) := by decide +kernel
theorem dX7_way_26 : decode cX7_way 26 = .ok (.iload_n 3, 1) := by decide +kernel
theorem dX7_way_27 : decode cX7_way 27 = .ok (.ireturn, 1) := by decide +kernel
theorem dX7_way_28 : decode cX7_way 28 = .ok (.iload_n 2, 1) := by decide +kernel
theorem dX7_way_29 : decode cX7_way 29 = .ok (.aload_n 0, 1) := by decide +kernel
theorem dX7_way_30 : decode cX7_way 30 = .ok (.getfield 33, 3) := by decide +kernel
theorem dX7_way_33 : decode cX7_way 33 = .ok (.getfield 196, 3) := by decide +kernel
theorem dX7_way_36 : decode cX7_way 36 = .ok (.if_icmp .ge 15, 3) := by decide +kernel
theorem dX7_way_39 : decode cX7_way 39 = .ok (.aload_n 0, 1) := by decide +kernel
theorem dX7_way_40 : decode cX7_way 40 = .ok (.getfield 33, 3) := by decide +kernel
theorem dX7_way_43 : decode cX7_way 43 = .ok (.getfield 199, 3) := by decide +kernel
theorem dX7_way_46 : decode cX7_way 46 = .ok (.iload_n 2, 1) := by decide +kernel
theorem dX7_way_47 : decode cX7_way 47 = .ok (.iaload, 1) := by decide +kernel
theorem dX7_way_48 : decode cX7_way 48 = .ok (.goto 8, 3) := by decide +kernel
theorem dX7_way_51 : decode cX7_way 51 = .ok (.aload_n 0, 1) := by decide +kernel
theorem dX7_way_52 : decode cX7_way 52 = .ok (.iconst 3, 1) := by decide +kernel
theorem dX7_way_53 : decode cX7_way 53 = .ok (.invokevirtual 66, 3) := by decide +kernel
theorem dX7_way_56 : decode cX7_way 56 = .ok (.ireturn, 1) := by decide +kernel
theorem dX7_soonest_0 : decode cX7_soonest 0 = .ok (.aload_n 0, 1) := by decide +kernel
theorem dX7_soonest_1 : decode cX7_soonest 1 = .ok (.iload_n 1, 1) := by decide +kernel
theorem dX7_soonest_2 : decode cX7_soonest 2 = .ok (.invokevirtual 190, 3) := by decide +kernel
theorem dX7_soonest_5 : decode cX7_soonest 5 = .ok (.istore_n 2, 1) := by decide +kernel
theorem dX7_soonest_6 : decode cX7_soonest 6 = .ok (.iload_n 2, 1) := by decide +kernel
theorem dX7_soonest_7 : decode cX7_soonest 7 = .ok (.ifCond .eq 5, 3) := by decide +kernel
theorem dX7_soonest_10 : decode cX7_soonest 10 = .ok (.iload_n 2, 1) := by decide +kernel
theorem dX7_soonest_11 : decode cX7_soonest 11 = .ok (.ireturn, 1) := by decide +kernel
theorem dX7_soonest_12 : decode cX7_soonest 12 = .ok (.aload_n 0, 1) := by decide +kernel
theorem dX7_soonest_13 : decode cX7_soonest 13 = .ok (.getfield 33, 3) := by decide +kernel
theorem dX7_soonest_16 : decode cX7_soonest 16 = .ok (.getfield 202, 3) := by decide +kernel
theorem dX7_soonest_19 : decode cX7_soonest 19 = .ok (.ireturn, 1) := by decide +kernel
theorem dX7_ways_0 : decode cX7_ways 0 = .ok (.iload_n 1, 1) := by decide +kernel
theorem dX7_ways_1 : decode cX7_ways 1 = .ok (.invokestatic 59, 3) := by decide +kernel
theorem dX7_ways_4 : decode cX7_ways 4 = .ok (.ifCond .ne 9, 3) := by decide +kernel
theorem dX7_ways_7 : decode cX7_ways 7 = .ok (.aload_n 0, 1) := by decide +kernel
theorem dX7_ways_8 : decode cX7_ways 8 = .ok (.iconst 0, 1) := by decide +kernel
theorem dX7_ways_9 : decode cX7_ways 9 = .ok (.invokevirtual 66, 3) := by decide +kernel
theorem dX7_ways_12 : decode cX7_ways 12 = .ok (.ireturn, 1) := by decide +kernel
theorem dX7_ways_13 : decode cX7_ways 13 = .ok (.aload_n 0, 1) := by decide +kernel
theorem dX7_ways_14 : decode cX7_ways 14 = .ok (.iload_n 1, 1) := by decide +kernel
theorem dX7_ways_15 : decode cX7_ways 15 = .ok (.invokevirtual 205, 3) := by decide +kernel
theorem dX7_ways_18 : decode cX7_ways 18 = .ok (.aload_n 0, 1) := by decide +kernel
theorem dX7_ways_19 : decode cX7_ways 19 = .ok (.getfield 33, 3) := by decide +kernel
theorem dX7_ways_22 : decode cX7_ways 22 = .ok (.getfield 209, 3) := by decide +kernel
theorem dX7_ways_25 : decode cX7_ways 25 = .ok (.ireturn, 1) := by decide +kernel
theorem dX7_round_0 : decode cX7_round 0 = .ok (.aload_n 0, 1) := by decide +kernel
theorem dX7_round_1 : decode cX7_round 1 = .ok (.invokevirtual 212, 3) := by decide +kernel
theorem dX7_round_4 : decode cX7_round 4 = .ok (.ifCond .eq 9, 3) := by decide +kernel
theorem dX7_round_7 : decode cX7_round 7 = .ok (.aload_n 0, 1) := by decide +kernel
theorem dX7_round_8 : decode cX7_round 8 = .ok (.iconst 4, 1) := by decide +kernel
theorem dX7_round_9 : decode cX7_round 9 = .ok (.invokevirtual 66, 3) := by decide +kernel
theorem dX7_round_12 : decode cX7_round 12 = .ok (.ireturn, 1) := by decide +kernel
theorem dX7_round_13 : decode cX7_round 13 = .ok (.aload_n 0, 1) := by decide +kernel
theorem dX7_round_14 : decode cX7_round 14 = .ok (.aload_n 0, 1) := by decide +kernel
theorem dX7_round_15 : decode cX7_round 15 = .ok (.getfield 10, 3) := by decide +kernel
theorem dX7_round_18 : decode cX7_round 18 = .ok (.getfield 70, 3) := by decide +kernel
theorem dX7_round_21 : decode cX7_round 21 = .ok (.aload_n 0, 1) := by decide +kernel
theorem dX7_round_22 : decode cX7_round 22 = .ok (.getfield 10, 3) := by decide +kernel
theorem dX7_round_25 : decode cX7_round 25 = .ok (.getfield 135, 3) := by decide +kernel
theorem dX7_round_28 : decode cX7_round 28 = .ok (.getfield 139, 3) := by decide +kernel
theorem dX7_round_31 : decode cX7_round 31 = .ok (.iconst (-1), 1) := by decide +kernel
theorem dX7_round_32 : decode cX7_round 32 = .ok (.invokevirtual 215, 3) := by decide +kernel
theorem dX7_round_35 : decode cX7_round 35 = .ok (.aload_n 0, 1) := by decide +kernel
theorem dX7_round_36 : decode cX7_round 36 = .ok (.getfield 33, 3) := by decide +kernel
theorem dX7_round_39 : decode cX7_round 39 = .ok (.getfield 209, 3) := by decide +kernel
theorem dX7_round_42 : decode cX7_round 42 = .ok (.ifCond .ne 11, 3) := by decide +kernel
theorem dX7_round_45 : decode cX7_round 45 = .ok (.aload_n 0, 1) := by decide +kernel
theorem dX7_round_46 : decode cX7_round 46 = .ok (.iconst 3, 1) := by decide +kernel
theorem dX7_round_47 : decode cX7_round 47 = .ok (.invokevirtual 66, 3) := by decide +kernel
theorem dX7_round_50 : decode cX7_round 50 = .ok (.goto 10, 3) := by decide +kernel
theorem dX7_round_53 : decode cX7_round 53 = .ok (.aload_n 0, 1) := by decide +kernel
theorem dX7_round_54 : decode cX7_round 54 = .ok (.getfield 33, 3) := by decide +kernel
theorem dX7_round_57 : decode cX7_round 57 = .ok (.getfield 193, 3) := by decide +kernel
theorem dX7_round_60 : decode cX7_round 60 = .ok (.ireturn, 1) := by decide +kernel
theorem dX7_ith_0 : decode cX7_ith 0 = .ok (.iload_n 1, 1) := by decide +kernel
theorem dX7_ith_1 : decode cX7_ith 1 = .ok (.iconst 0, 1) := by decide +kernel
theorem dX7_ith_2 : decode cX7_ith 2 = .ok (.bipush 6, 2) := by decide +kernel
theorem dX7_ith_4 : decode cX7_ith 4 = .ok (.invokestatic 62, 3) := by decide +kernel
theorem dX7_ith_7 : decode cX7_ith 7 = .ok (.ifCond .ne 9, 3) := by decide +kernel
theorem dX7_ith_10 : decode cX7_ith 10 = .ok (.aload_n 0, 1) := by decide +kernel
theorem dX7_ith_11 : decode cX7_ith 11 = .ok (.iconst 0, 1) := by decide +kernel
theorem dX7_ith_12 : decode cX7_ith 12 = .ok (.invokevirtual 66, 3) := by decide +kernel
theorem dX7_ith_15 : decode cX7_ith 15 = .ok (.ireturn, 1) := by decide +kernel
theorem dX7_ith_16 : decode cX7_ith 16 = .ok (.aload_n 0, 1) := by decide +kernel
theorem dX7_ith_17 : decode cX7_ith 17 = .ok (.invokevirtual 212, 3) := by decide +kernel
theorem dX7_ith_20 : decode cX7_ith 20 = .ok (.ifCond .eq 9, 3) := by decide +kernel
theorem dX7_ith_23 : decode cX7_ith 23 = .ok (.aload_n 0, 1) := by decide +kernel
theorem dX7_ith_24 : decode cX7_ith 24 = .ok (.iconst 4, 1) := by decide +kernel
theorem dX7_ith_25 : decode cX7_ith 25 = .ok (.invokevirtual 66, 3) := by decide +kernel
theorem dX7_ith_28 : decode cX7_ith 28 = .ok (.ireturn, 1) := by decide +kernel
theorem dX7_ith_29 : decode cX7_ith 29 = .ok (.aload_n 0, 1) := by decide +kernel
theorem dX7_ith_30 : decode cX7_ith 30 = .ok (.aload_n 0, 1) := by decide +kernel
theorem dX7_ith_31 : decode cX7_ith 31 = .ok (.getfield 10, 3) := by decide +kernel
theorem dX7_ith_34 : decode cX7_ith 34 = .ok (.getfield 70, 3) := by decide +kernel
theorem dX7_ith_37 : decode cX7_ith 37 = .ok (.aload_n 0, 1) := by decide +kernel
theorem dX7_ith_38 : decode cX7_ith 38 = .ok (.getfield 10, 3) := by decide +kernel
theorem dX7_ith_41 : decode cX7_ith 41 = .ok (.getfield 135, 3) := by decide +kernel
theorem dX7_ith_44 : decode cX7_ith 44 = .ok (.getfield 139, 3) := by decide +kernel
theorem dX7_ith_47 : decode cX7_ith 47 = .ok (.iconst (-1), 1) := by decide +kernel
theorem dX7_ith_48 : decode cX7_ith 48 = .ok (.invokevirtual 215, 3) := by decide +kernel
theorem dX7_ith_51 : decode cX7_ith 51 = .ok (.iload_n 1, 1) := by decide +kernel
theorem dX7_ith_52 : decode cX7_ith 52 = .ok (.aload_n 0, 1) := by decide +kernel
theorem dX7_ith_53 : decode cX7_ith 53 = .ok (.getfield 33, 3) := by decide +kernel
theorem dX7_ith_56 : decode cX7_ith 56 = .ok (.getfield 196, 3) := by decide +kernel
theorem dX7_ith_59 : decode cX7_ith 59 = .ok (.if_icmp .ge 15, 3) := by decide +kernel
theorem dX7_ith_62 : decode cX7_ith 62 = .ok (.aload_n 0, 1) := by decide +kernel
theorem dX7_ith_63 : decode cX7_ith 63 = .ok (.getfield 33, 3) := by decide +kernel
theorem dX7_ith_66 : decode cX7_ith 66 = .ok (.getfield 199, 3) := by decide +kernel
theorem dX7_ith_69 : decode cX7_ith 69 = .ok (.iload_n 1, 1) := by decide +kernel
theorem dX7_ith_70 : decode cX7_ith 70 = .ok (.iaload, 1) := by decide +kernel
theorem dX7_ith_71 : decode cX7_ith 71 = .ok (.goto 8, 3) := by decide +kernel
theorem dX7_ith_74 : decode cX7_ith 74 = .ok (.aload_n 0, 1) := by decide +kernel
theorem dX7_ith_75 : decode cX7_ith 75 = .ok (.iconst 3, 1) := by decide +kernel
theorem dX7_ith_76 : decode cX7_ith 76 = .ok (.invokevirtual 66, 3) := by decide +kernel
theorem dX7_ith_79 : decode cX7_ith 79 = .ok (.ireturn, 1) := by decide +kernel
theorem dX7_rounds_0 : decode cX7_rounds 0 = .ok (.aload_n 0, 1) := by decide +kernel
theorem dX7_rounds_1 : decode cX7_rounds 1 = .ok (.invokevirtual 212, 3) := by decide +kernel
theorem dX7_rounds_4 : decode cX7_rounds 4 = .ok (.ifCond .eq 9, 3) := by decide +kernel
theorem dX7_rounds_7 : decode cX7_rounds 7 = .ok (.aload_n 0, 1) := by decide +kernel
theorem dX7_rounds_8 : decode cX7_rounds 8 = .ok (.iconst 4, 1) := by decide +kernel
theorem dX7_rounds_9 : decode cX7_rounds 9 = .ok (.invokevirtual 66, 3) := by decide +kernel
theorem dX7_rounds_12 : decode cX7_rounds 12 = .ok (.ireturn, 1) := by decide +kernel
theorem dX7_rounds_13 : decode cX7_rounds 13 = .ok (.aload_n 0, 1) := by decide +kernel
theorem dX7_rounds_14 : decode cX7_rounds 14 = .ok (.aload_n 0, 1) := by decide +kernel
theorem dX7_rounds_15 : decode cX7_rounds 15 = .ok (.getfield 10, 3) := by decide +kernel
theorem dX7_rounds_18 : decode cX7_rounds 18 = .ok (.getfield 70, 3) := by decide +kernel
theorem dX7_rounds_21 : decode cX7_rounds 21 = .ok (.aload_n 0, 1) := by decide +kernel
theorem dX7_rounds_22 : decode cX7_rounds 22 = .ok (.getfield 10, 3) := by decide +kernel
theorem dX7_rounds_25 : decode cX7_rounds 25 = .ok (.getfield 135, 3) := by decide +kernel
theorem dX7_rounds_28 : decode cX7_rounds 28 = .ok (.getfield 139, 3) := by decide +kernel
theorem dX7_rounds_31 : decode cX7_rounds 31 = .ok (.iconst (-1), 1) := by decide +kernel
theorem dX7_rounds_32 : decode cX7_rounds 32 = .ok (.invokevirtual 215, 3) := by decide +kernel
theorem dX7_rounds_35 : decode cX7_rounds 35 = .ok (.aload_n 0, 1) := by decide +kernel
theorem dX7_rounds_36 : decode cX7_rounds 36 = .ok (.getfield 33, 3) := by decide +kernel
theorem dX7_rounds_39 : decode cX7_rounds 39 = .ok (.getfield 209, 3) := by decide +kernel
theorem dX7_rounds_42 : decode cX7_rounds 42 = .ok (.ireturn, 1) := by decide +kernel
theorem dX7_start_0 : decode cX7_start 0 = .ok (.aload_n 0, 1) := by decide +kernel
theorem dX7_start_1 : decode cX7_start 1 = .ok (.invokevirtual 212, 3) := by decide +kernel
theorem dX7_start_4 : decode cX7_start 4 = .ok (.ifCond .eq 9, 3) := by decide +kernel
theorem dX7_start_7 : decode cX7_start 7 = .ok (.aload_n 0, 1) := by decide +kernel
theorem dX7_start_8 : decode cX7_start 8 = .ok (.iconst 4, 1) := by decide +kernel
theorem dX7_start_9 : decode cX7_start 9 = .ok (.invokevirtual 66, 3) := by decide +kernel
theorem dX7_start_12 : decode cX7_start 12 = .ok (.ireturn, 1) := by decide +kernel
theorem dX7_start_13 : decode cX7_start 13 = .ok (.iconst (-1), 1) := by decide +kernel
theorem dX7_start_14 : decode cX7_start 14 = .ok (.istore_n 1, 1) := by decide +kernel
theorem dX7_start_15 : decode cX7_start 15 = .ok (.iconst (-1), 1) := by decide +kernel
theorem dX7_start_16 : decode cX7_start 16 = .ok (.istore_n 2, 1) := by decide +kernel
theorem dX7_start_17 : decode cX7_start 17 = .ok (.aload_n 0, 1) := by decide +kernel
theorem dX7_start_18 : decode cX7_start 18 = .ok (.getfield 33, 3) := by decide +kernel
theorem dX7_start_21 : decode cX7_start 21 = .ok (.aload_n 0, 1) := by decide +kernel
theorem dX7_start_22 : decode cX7_start 22 = .ok (.getfield 10, 3) := by decide +kernel
theorem dX7_start_25 : decode cX7_start 25 = .ok (.getfield 70, 3) := by decide +kernel
theorem dX7_start_28 : decode cX7_start 28 = .ok (.aload_n 0, 1) := by decide +kernel
theorem dX7_start_29 : decode cX7_start 29 = .ok (.getfield 10, 3) := by decide +kernel
theorem dX7_start_32 : decode cX7_start 32 = .ok (.getfield 135, 3) := by decide +kernel
theorem dX7_start_35 : decode cX7_start 35 = .ok (.aload_n 0, 1) := by decide +kernel
theorem dX7_start_36 : decode cX7_start 36 = .ok (.getfield 10, 3) := by decide +kernel
theorem dX7_start_39 : decode cX7_start 39 = .ok (.getfield 135, 3) := by decide +kernel
theorem dX7_start_42 : decode cX7_start 42 = .ok (.getfield 139, 3) := by decide +kernel
theorem dX7_start_45 : decode cX7_start 45 = .ok (.iconst (-1), 1) := by decide +kernel
theorem dX7_start_46 : decode cX7_start 46 = .ok (.invokevirtual 219, 3) := by decide +kernel
theorem dX7_start_49 : decode cX7_start 49 = .ok (.iconst 0, 1) := by decide +kernel
theorem dX7_start_50 : decode cX7_start 50 = .ok (.istore_n 3, 1) := by decide +kernel
theorem dX7_start_51 : decode cX7_start 51 = .ok (.iload_n 3, 1) := by decide +kernel
theorem dX7_start_52 : decode cX7_start 52 = .ok (.bipush 60, 2) := by decide +kernel
theorem dX7_start_54 : decode cX7_start 54 = .ok (.if_icmp .gt 50, 3) := by decide +kernel
theorem dX7_start_57 : decode cX7_start 57 = .ok (.aload_n 0, 1) := by decide +kernel
theorem dX7_start_58 : decode cX7_start 58 = .ok (.getfield 33, 3) := by decide +kernel
theorem dX7_start_61 : decode cX7_start 61 = .ok (.iconst (-1), 1) := by decide +kernel
theorem dX7_start_62 : decode cX7_start 62 = .ok (.aload_n 0, 1) := by decide +kernel
theorem dX7_start_63 : decode cX7_start 63 = .ok (.getfield 10, 3) := by decide +kernel
theorem dX7_start_66 : decode cX7_start 66 = .ok (.getfield 135, 3) := by decide +kernel
theorem dX7_start_69 : decode cX7_start 69 = .ok (.getfield 163, 3) := by decide +kernel
theorem dX7_start_72 : decode cX7_start 72 = .ok (.iload_n 3, 1) := by decide +kernel
theorem dX7_start_73 : decode cX7_start 73 = .ok (.iadd, 1) := by decide +kernel
theorem dX7_start_74 : decode cX7_start 74 = .ok (.invokevirtual 223, 3) := by decide +kernel
theorem dX7_start_77 : decode cX7_start 77 = .ok (.aload_n 0, 1) := by decide +kernel
theorem dX7_start_78 : decode cX7_start 78 = .ok (.getfield 33, 3) := by decide +kernel
theorem dX7_start_81 : decode cX7_start 81 = .ok (.getfield 193, 3) := by decide +kernel
theorem dX7_start_84 : decode cX7_start 84 = .ok (.iload_n 2, 1) := by decide +kernel
theorem dX7_start_85 : decode cX7_start 85 = .ok (.if_icmp .le 13, 3) := by decide +kernel
theorem dX7_start_88 : decode cX7_start 88 = .ok (.aload_n 0, 1) := by decide +kernel
theorem dX7_start_89 : decode cX7_start 89 = .ok (.getfield 33, 3) := by decide +kernel
theorem dX7_start_92 : decode cX7_start 92 = .ok (.getfield 193, 3) := by decide +kernel
theorem dX7_start_95 : decode cX7_start 95 = .ok (.istore_n 2, 1) := by decide +kernel
theorem dX7_start_96 : decode cX7_start 96 = .ok (.iload_n 3, 1) := by decide +kernel
theorem dX7_start_97 : decode cX7_start 97 = .ok (.istore_n 1, 1) := by decide +kernel
theorem dX7_start_98 : decode cX7_start 98 = .ok (.iinc 3 1, 3) := by decide +kernel
theorem dX7_start_101 : decode cX7_start 101 = .ok (.goto (-50), 3) := by decide +kernel
theorem dX7_start_104 : decode cX7_start 104 = .ok (.iload_n 1, 1) := by decide +kernel
theorem dX7_start_105 : decode cX7_start 105 = .ok (.ifCond .ge 11, 3) := by decide +kernel
theorem dX7_start_108 : decode cX7_start 108 = .ok (.aload_n 0, 1) := by decide +kernel
theorem dX7_start_109 : decode cX7_start 109 = .ok (.iconst 3, 1) := by decide +kernel
theorem dX7_start_110 : decode cX7_start 110 = .ok (.invokevirtual 66, 3) := by decide +kernel
theorem dX7_start_113 : decode cX7_start 113 = .ok (.goto 4, 3) := by decide +kernel
theorem dX7_start_116 : decode cX7_start 116 = .ok (.iload_n 1, 1) := by decide +kernel
theorem dX7_start_117 : decode cX7_start 117 = .ok (.ireturn, 1) := by decide +kernel
theorem dX7_better_0 : decode cX7_better 0 = .ok (.aload_n 0, 1) := by decide +kernel
theorem dX7_better_1 : decode cX7_better 1 = .ok (.invokevirtual 212, 3) := by decide +kernel
theorem dX7_better_4 : decode cX7_better 4 = .ok (.ifCond .eq 9, 3) := by decide +kernel
theorem dX7_better_7 : decode cX7_better 7 = .ok (.aload_n 0, 1) := by decide +kernel
theorem dX7_better_8 : decode cX7_better 8 = .ok (.iconst 4, 1) := by decide +kernel
theorem dX7_better_9 : decode cX7_better 9 = .ok (.invokevirtual 66, 3) := by decide +kernel
theorem dX7_better_12 : decode cX7_better 12 = .ok (.ireturn, 1) := by decide +kernel
theorem dX7_better_13 : decode cX7_better 13 = .ok (.iconst (-1), 1) := by decide +kernel
theorem dX7_better_14 : decode cX7_better 14 = .ok (.istore_n 1, 1) := by decide +kernel
theorem dX7_better_15 : decode cX7_better 15 = .ok (.iconst (-1), 1) := by decide +kernel
theorem dX7_better_16 : decode cX7_better 16 = .ok (.istore_n 2, 1) := by decide +kernel
theorem dX7_better_17 : decode cX7_better 17 = .ok (.iconst 0, 1) := by decide +kernel
theorem dX7_better_18 : decode cX7_better 18 = .ok (.istore_n 3, 1) := by decide +kernel
theorem dX7_better_19 : decode cX7_better 19 = .ok (.iload_n 3, 1) := by decide +kernel
theorem dX7_better_20 : decode cX7_better 20 = .ok (.iconst 1, 1) := by decide +kernel
theorem dX7_better_21 : decode cX7_better 21 = .ok (.if_icmp .gt 43, 3) := by decide +kernel
theorem dX7_better_24 : decode cX7_better 24 = .ok (.aload_n 0, 1) := by decide +kernel
theorem dX7_better_25 : decode cX7_better 25 = .ok (.aload_n 0, 1) := by decide +kernel
theorem dX7_better_26 : decode cX7_better 26 = .ok (.getfield 10, 3) := by decide +kernel
theorem dX7_better_29 : decode cX7_better 29 = .ok (.getfield 70, 3) := by decide +kernel
theorem dX7_better_32 : decode cX7_better 32 = .ok (.iload_n 3, 1) := by decide +kernel
theorem dX7_better_33 : decode cX7_better 33 = .ok (.iconst (-1), 1) := by decide +kernel
theorem dX7_better_34 : decode cX7_better 34 = .ok (.invokevirtual 215, 3) := by decide +kernel
theorem dX7_better_37 : decode cX7_better 37 = .ok (.aload_n 0, 1) := by decide +kernel
theorem dX7_better_38 : decode cX7_better 38 = .ok (.getfield 33, 3) := by decide +kernel
theorem dX7_better_41 : decode cX7_better 41 = .ok (.getfield 193, 3) := by decide +kernel
theorem dX7_better_44 : decode cX7_better 44 = .ok (.iload_n 2, 1) := by decide +kernel
theorem dX7_better_45 : decode cX7_better 45 = .ok (.if_icmp .le 13, 3) := by decide +kernel
theorem dX7_better_48 : decode cX7_better 48 = .ok (.aload_n 0, 1) := by decide +kernel
theorem dX7_better_49 : decode cX7_better 49 = .ok (.getfield 33, 3) := by decide +kernel
theorem dX7_better_52 : decode cX7_better 52 = .ok (.getfield 193, 3) := by decide +kernel
theorem dX7_better_55 : decode cX7_better 55 = .ok (.istore_n 2, 1) := by decide +kernel
theorem dX7_better_56 : decode cX7_better 56 = .ok (.iload_n 3, 1) := by decide +kernel
theorem dX7_better_57 : decode cX7_better 57 = .ok (.istore_n 1, 1) := by decide +kernel
theorem dX7_better_58 : decode cX7_better 58 = .ok (.iinc 3 1, 3) := by decide +kernel
theorem dX7_better_61 : decode cX7_better 61 = .ok (.goto (-42), 3) := by decide +kernel
theorem dX7_better_64 : decode cX7_better 64 = .ok (.iload_n 1, 1) := by decide +kernel
theorem dX7_better_65 : decode cX7_better 65 = .ok (.ifCond .ge 11, 3) := by decide +kernel
theorem dX7_better_68 : decode cX7_better 68 = .ok (.aload_n 0, 1) := by decide +kernel
theorem dX7_better_69 : decode cX7_better 69 = .ok (.iconst 3, 1) := by decide +kernel
theorem dX7_better_70 : decode cX7_better 70 = .ok (.invokevirtual 66, 3) := by decide +kernel
theorem dX7_better_73 : decode cX7_better 73 = .ok (.goto 4, 3) := by decide +kernel
theorem dX7_better_76 : decode cX7_better 76 = .ok (.iload_n 1, 1) := by decide +kernel
theorem dX7_better_77 : decode cX7_better 77 = .ok (.ireturn, 1) := by decide +kernel
theorem dX7_umbrella_0 : decode cX7_umbrella 0 = .ok (.aload_n 0, 1) := by decide +kernel
theorem dX7_umbrella_1 : decode cX7_umbrella 1 = .ok (.invokevirtual 212, 3) := by decide +kernel
theorem dX7_umbrella_4 : decode cX7_umbrella 4 = .ok (.ifCond .eq 9, 3) := by decide +kernel
theorem dX7_umbrella_7 : decode cX7_umbrella 7 = .ok (.aload_n 0, 1) := by decide +kernel
theorem dX7_umbrella_8 : decode cX7_umbrella 8 = .ok (.iconst 4, 1) := by decide +kernel
theorem dX7_umbrella_9 : decode cX7_umbrella 9 = .ok (.invokevirtual 66, 3) := by decide +kernel
theorem dX7_umbrella_12 : decode cX7_umbrella 12 = .ok (.ireturn, 1) := by decide +kernel
theorem dX7_umbrella_13 : decode cX7_umbrella 13 = .ok (.iconst (-1), 1) := by decide +kernel
theorem dX7_umbrella_14 : decode cX7_umbrella 14 = .ok (.istore_n 1, 1) := by decide +kernel
theorem dX7_umbrella_15 : decode cX7_umbrella 15 = .ok (.iconst (-1), 1) := by decide +kernel
theorem dX7_umbrella_16 : decode cX7_umbrella 16 = .ok (.istore_n 2, 1) := by decide +kernel
theorem dX7_umbrella_17 : decode cX7_umbrella 17 = .ok (.aload_n 0, 1) := by decide +kernel
theorem dX7_umbrella_18 : decode cX7_umbrella 18 = .ok (.getfield 26, 3) := by decide +kernel
theorem dX7_umbrella_21 : decode cX7_umbrella 21 = .ok (.aload_n 0, 1) := by decide +kernel
theorem dX7_umbrella_22 : decode cX7_umbrella 22 = .ok (.getfield 10, 3) := by decide +kernel
theorem dX7_umbrella_25 : decode cX7_umbrella 25 = .ok (.getfield 70, 3) := by decide +kernel
theorem dX7_umbrella_28 : decode cX7_umbrella 28 = .ok (.invokevirtual 227, 3) := by decide +kernel
theorem dX7_umbrella_31 : decode cX7_umbrella 31 = .ok (.iconst 0, 1) := by decide +kernel
theorem dX7_umbrella_32 : decode cX7_umbrella 32 = .ok (.istore_n 3, 1) := by decide +kernel
theorem dX7_umbrella_33 : decode cX7_umbrella 33 = .ok (.iload_n 3, 1) := by decide +kernel
theorem dX7_umbrella_34 : decode cX7_umbrella 34 = .ok (.aload_n 0, 1) := by decide +kernel
theorem dX7_umbrella_35 : decode cX7_umbrella 35 = .ok (.getfield 26, 3) := by decide +kernel
theorem dX7_umbrella_38 : decode cX7_umbrella 38 = .ok (.getfield 231, 3) := by decide +kernel
theorem dX7_umbrella_41 : decode cX7_umbrella 41 = .ok (.if_icmp .ge 80, 3) := by decide +kernel
theorem dX7_umbrella_44 : decode cX7_umbrella 44 = .ok (.aload_n 0, 1) := by decide +kernel
theorem dX7_umbrella_45 : decode cX7_umbrella 45 = .ok (.getfield 26, 3) := by decide +kernel
theorem dX7_umbrella_48 : decode cX7_umbrella 48 = .ok (.getfield 84, 3) := by decide +kernel
theorem dX7_umbrella_51 : decode cX7_umbrella 51 = .ok (.iload_n 3, 1) := by decide +kernel
theorem dX7_umbrella_52 : decode cX7_umbrella 52 = .ok (.aaload, 1) := by decide +kernel
theorem dX7_umbrella_53 : decode cX7_umbrella 53 = .ok (.astore 4, 2) := by decide +kernel
theorem dX7_umbrella_55 : decode cX7_umbrella 55 = .ok (.aload 4, 2) := by decide +kernel
theorem dX7_umbrella_57 : decode cX7_umbrella 57 = .ok (.getfield 112, 3) := by decide +kernel
theorem dX7_umbrella_60 : decode cX7_umbrella 60 = .ok (.ifCond .ne 55, 3) := by decide +kernel
theorem dX7_umbrella_63 : decode cX7_umbrella 63 = .ok (.aload 4, 2) := by decide +kernel
theorem dX7_umbrella_65 : decode cX7_umbrella 65 = .ok (.iconst 1, 1) := by decide +kernel
theorem dX7_umbrella_66 : decode cX7_umbrella 66 = .ok (.putfield 112, 3) := by decide +kernel
theorem dX7_umbrella_69 : decode cX7_umbrella 69 = .ok (.aload_n 0, 1) := by decide +kernel
theorem dX7_umbrella_70 : decode cX7_umbrella 70 = .ok (.aload_n 0, 1) := by decide +kernel
theorem dX7_umbrella_71 : decode cX7_umbrella 71 = .ok (.getfield 26, 3) := by decide +kernel
theorem dX7_umbrella_74 : decode cX7_umbrella 74 = .ok (.aload_n 0, 1) := by decide +kernel
theorem dX7_umbrella_75 : decode cX7_umbrella 75 = .ok (.getfield 10, 3) := by decide +kernel
theorem dX7_umbrella_78 : decode cX7_umbrella 78 = .ok (.getfield 135, 3) := by decide +kernel
theorem dX7_umbrella_81 : decode cX7_umbrella 81 = .ok (.getfield 139, 3) := by decide +kernel
theorem dX7_umbrella_84 : decode cX7_umbrella 84 = .ok (.iconst (-1), 1) := by decide +kernel
theorem dX7_umbrella_85 : decode cX7_umbrella 85 = .ok (.invokevirtual 215, 3) := by decide +kernel
theorem dX7_umbrella_88 : decode cX7_umbrella 88 = .ok (.aload 4, 2) := by decide +kernel
theorem dX7_umbrella_90 : decode cX7_umbrella 90 = .ok (.iconst 0, 1) := by decide +kernel
theorem dX7_umbrella_91 : decode cX7_umbrella 91 = .ok (.putfield 112, 3) := by decide +kernel
theorem dX7_umbrella_94 : decode cX7_umbrella 94 = .ok (.aload_n 0, 1) := by decide +kernel
theorem dX7_umbrella_95 : decode cX7_umbrella 95 = .ok (.getfield 33, 3) := by decide +kernel
theorem dX7_umbrella_98 : decode cX7_umbrella 98 = .ok (.getfield 193, 3) := by decide +kernel
theorem dX7_umbrella_101 : decode cX7_umbrella 101 = .ok (.iload_n 2, 1) := by decide +kernel
theorem dX7_umbrella_102 : decode cX7_umbrella 102 = .ok (.if_icmp .le 13, 3) := by decide +kernel
theorem dX7_umbrella_105 : decode cX7_umbrella 105 = .ok (.aload_n 0, 1) := by decide +kernel
theorem dX7_umbrella_106 : decode cX7_umbrella 106 = .ok (.getfield 33, 3) := by decide +kernel
theorem dX7_umbrella_109 : decode cX7_umbrella 109 = .ok (.getfield 193, 3) := by decide +kernel
theorem dX7_umbrella_112 : decode cX7_umbrella 112 = .ok (.istore_n 2, 1) := by decide +kernel
theorem dX7_umbrella_113 : decode cX7_umbrella 113 = .ok (.iload_n 3, 1) := by decide +kernel
theorem dX7_umbrella_114 : decode cX7_umbrella 114 = .ok (.istore_n 1, 1) := by decide +kernel
theorem dX7_umbrella_115 : decode cX7_umbrella 115 = .ok (.iinc 3 1, 3) := by decide +kernel
theorem dX7_umbrella_118 : decode cX7_umbrella 118 = .ok (.goto (-85), 3) := by decide +kernel
theorem dX7_umbrella_121 : decode cX7_umbrella 121 = .ok (.iload_n 1, 1) := by decide +kernel
theorem dX7_umbrella_122 : decode cX7_umbrella 122 = .ok (.ifCond .ge 11, 3) := by decide +kernel
theorem dX7_umbrella_125 : decode cX7_umbrella 125 = .ok (.aload_n 0, 1) := by decide +kernel
theorem dX7_umbrella_126 : decode cX7_umbrella 126 = .ok (.iconst 3, 1) := by decide +kernel
theorem dX7_umbrella_127 : decode cX7_umbrella 127 = .ok (.invokevirtual 66, 3) := by decide +kernel
theorem dX7_umbrella_130 : decode cX7_umbrella 130 = .ok (.goto 4, 3) := by decide +kernel
theorem dX7_umbrella_133 : decode cX7_umbrella 133 = .ok (.iload_n 1, 1) := by decide +kernel
theorem dX7_umbrella_134 : decode cX7_umbrella 134 = .ok (.ireturn, 1) := by decide +kernel
theorem dX7_shade_0 : decode cX7_shade 0 = .ok (.aload_n 0, 1) := by decide +kernel
theorem dX7_shade_1 : decode cX7_shade 1 = .ok (.invokevirtual 212, 3) := by decide +kernel
theorem dX7_shade_4 : decode cX7_shade 4 = .ok (.ifCond .eq 9, 3) := by decide +kernel
theorem dX7_shade_7 : decode cX7_shade 7 = .ok (.aload_n 0, 1) := by decide +kernel
theorem dX7_shade_8 : decode cX7_shade 8 = .ok (.iconst 4, 1) := by decide +kernel
theorem dX7_shade_9 : decode cX7_shade 9 = .ok (.invokevirtual 66, 3) := by decide +kernel
theorem dX7_shade_12 : decode cX7_shade 12 = .ok (.ireturn, 1) := by decide +kernel
theorem dX7_shade_13 : decode cX7_shade 13 = .ok (.iconst (-1), 1) := by decide +kernel
theorem dX7_shade_14 : decode cX7_shade 14 = .ok (.istore_n 1, 1) := by decide +kernel
theorem dX7_shade_15 : decode cX7_shade 15 = .ok (.iconst (-1), 1) := by decide +kernel
theorem dX7_shade_16 : decode cX7_shade 16 = .ok (.istore_n 2, 1) := by decide +kernel
theorem dX7_shade_17 : decode cX7_shade 17 = .ok (.aload_n 0, 1) := by decide +kernel
theorem dX7_shade_18 : decode cX7_shade 18 = .ok (.getfield 26, 3) := by decide +kernel
theorem dX7_shade_21 : decode cX7_shade 21 = .ok (.aload_n 0, 1) := by decide +kernel
theorem dX7_shade_22 : decode cX7_shade 22 = .ok (.getfield 10, 3) := by decide +kernel
theorem dX7_shade_25 : decode cX7_shade 25 = .ok (.getfield 70, 3) := by decide +kernel
theorem dX7_shade_28 : decode cX7_shade 28 = .ok (.invokevirtual 227, 3) := by decide +kernel
theorem dX7_shade_31 : decode cX7_shade 31 = .ok (.iconst 0, 1) := by decide +kernel
theorem dX7_shade_32 : decode cX7_shade 32 = .ok (.istore_n 3, 1) := by decide +kernel
theorem dX7_shade_33 : decode cX7_shade 33 = .ok (.iload_n 3, 1) := by decide +kernel
theorem dX7_shade_34 : decode cX7_shade 34 = .ok (.aload_n 0, 1) := by decide +kernel
theorem dX7_shade_35 : decode cX7_shade 35 = .ok (.getfield 26, 3) := by decide +kernel
theorem dX7_shade_38 : decode cX7_shade 38 = .ok (.getfield 231, 3) := by decide +kernel
theorem dX7_shade_41 : decode cX7_shade 41 = .ok (.if_icmp .ge 80, 3) := by decide +kernel
theorem dX7_shade_44 : decode cX7_shade 44 = .ok (.aload_n 0, 1) := by decide +kernel
theorem dX7_shade_45 : decode cX7_shade 45 = .ok (.getfield 26, 3) := by decide +kernel
theorem dX7_shade_48 : decode cX7_shade 48 = .ok (.getfield 84, 3) := by decide +kernel
theorem dX7_shade_51 : decode cX7_shade 51 = .ok (.iload_n 3, 1) := by decide +kernel
theorem dX7_shade_52 : decode cX7_shade 52 = .ok (.aaload, 1) := by decide +kernel
theorem dX7_shade_53 : decode cX7_shade 53 = .ok (.astore 4, 2) := by decide +kernel
theorem dX7_shade_55 : decode cX7_shade 55 = .ok (.aload 4, 2) := by decide +kernel
theorem dX7_shade_57 : decode cX7_shade 57 = .ok (.getfield 88, 3) := by decide +kernel
theorem dX7_shade_60 : decode cX7_shade 60 = .ok (.istore 5, 2) := by decide +kernel
theorem dX7_shade_62 : decode cX7_shade 62 = .ok (.aload 4, 2) := by decide +kernel
theorem dX7_shade_64 : decode cX7_shade 64 = .ok (.iconst 1, 1) := by decide +kernel
theorem dX7_shade_65 : decode cX7_shade 65 = .ok (.putfield 88, 3) := by decide +kernel
theorem dX7_shade_68 : decode cX7_shade 68 = .ok (.aload_n 0, 1) := by decide +kernel
theorem dX7_shade_69 : decode cX7_shade 69 = .ok (.aload_n 0, 1) := by decide +kernel
theorem dX7_shade_70 : decode cX7_shade 70 = .ok (.getfield 26, 3) := by decide +kernel
theorem dX7_shade_73 : decode cX7_shade 73 = .ok (.aload_n 0, 1) := by decide +kernel
theorem dX7_shade_74 : decode cX7_shade 74 = .ok (.getfield 10, 3) := by decide +kernel
theorem dX7_shade_77 : decode cX7_shade 77 = .ok (.getfield 135, 3) := by decide +kernel
theorem dX7_shade_80 : decode cX7_shade 80 = .ok (.getfield 139, 3) := by decide +kernel
theorem dX7_shade_83 : decode cX7_shade 83 = .ok (.iconst (-1), 1) := by decide +kernel
theorem dX7_shade_84 : decode cX7_shade 84 = .ok (.invokevirtual 215, 3) := by decide +kernel
theorem dX7_shade_87 : decode cX7_shade 87 = .ok (.aload 4, 2) := by decide +kernel
theorem dX7_shade_89 : decode cX7_shade 89 = .ok (.iload 5, 2) := by decide +kernel
theorem dX7_shade_91 : decode cX7_shade 91 = .ok (.putfield 88, 3) := by decide +kernel
theorem dX7_shade_94 : decode cX7_shade 94 = .ok (.aload_n 0, 1) := by decide +kernel
theorem dX7_shade_95 : decode cX7_shade 95 = .ok (.getfield 33, 3) := by decide +kernel
theorem dX7_shade_98 : decode cX7_shade 98 = .ok (.getfield 193, 3) := by decide +kernel
theorem dX7_shade_101 : decode cX7_shade 101 = .ok (.iload_n 2, 1) := by decide +kernel
theorem dX7_shade_102 : decode cX7_shade 102 = .ok (.if_icmp .le 13, 3) := by decide +kernel
theorem dX7_shade_105 : decode cX7_shade 105 = .ok (.aload_n 0, 1) := by decide +kernel
theorem dX7_shade_106 : decode cX7_shade 106 = .ok (.getfield 33, 3) := by decide +kernel
theorem dX7_shade_109 : decode cX7_shade 109 = .ok (.getfield 193, 3) := by decide +kernel
theorem dX7_shade_112 : decode cX7_shade 112 = .ok (.istore_n 2, 1) := by decide +kernel
theorem dX7_shade_113 : decode cX7_shade 113 = .ok (.iload_n 3, 1) := by decide +kernel
theorem dX7_shade_114 : decode cX7_shade 114 = .ok (.istore_n 1, 1) := by decide +kernel
theorem dX7_shade_115 : decode cX7_shade 115 = .ok (.iinc 3 1, 3) := by decide +kernel
theorem dX7_shade_118 : decode cX7_shade 118 = .ok (.goto (-85), 3) := by decide +kernel
theorem dX7_shade_121 : decode cX7_shade 121 = .ok (.iload_n 1, 1) := by decide +kernel
theorem dX7_shade_122 : decode cX7_shade 122 = .ok (.ifCond .ge 11, 3) := by decide +kernel
theorem dX7_shade_125 : decode cX7_shade 125 = .ok (.aload_n 0, 1) := by decide +kernel
theorem dX7_shade_126 : decode cX7_shade 126 = .ok (.iconst 3, 1) := by decide +kernel
theorem dX7_shade_127 : decode cX7_shade 127 = .ok (.invokevirtual 66, 3) := by decide +kernel
theorem dX7_shade_130 : decode cX7_shade 130 = .ok (.goto 4, 3) := by decide +kernel
theorem dX7_shade_133 : decode cX7_shade 133 = .ok (.iload_n 1, 1) := by decide +kernel
theorem dX7_shade_134 : decode cX7_shade 134 = .ok (.ireturn, 1) := by decide +kernel
theorem dX7_needed_0 : decode cX7_needed 0 = .ok (.aload_n 0, 1) := by decide +kernel
theorem dX7_needed_1 : decode cX7_needed 1 = .ok (.invokevirtual 212, 3) := by decide +kernel
theorem dX7_needed_4 : decode cX7_needed 4 = .ok (.ifCond .eq 9, 3) := by decide +kernel
theorem dX7_needed_7 : decode cX7_needed 7 = .ok (.aload_n 0, 1) := by decide +kernel
theorem dX7_needed_8 : decode cX7_needed 8 = .ok (.iconst 4, 1) := by decide +kernel
theorem dX7_needed_9 : decode cX7_needed 9 = .ok (.invokevirtual 66, 3) := by decide +kernel
theorem dX7_needed_12 : decode cX7_needed 12 = .ok (.ireturn, 1) := by decide +kernel
theorem dX7_needed_13 : decode cX7_needed 13 = .ok (.aload_n 0, 1) := by decide +kernel
theorem dX7_needed_14 : decode cX7_needed 14 = .ok (.aload_n 0, 1) := by decide +kernel
theorem dX7_needed_15 : decode cX7_needed 15 = .ok (.getfield 10, 3) := by decide +kernel
theorem dX7_needed_18 : decode cX7_needed 18 = .ok (.getfield 70, 3) := by decide +kernel
theorem dX7_needed_21 : decode cX7_needed 21 = .ok (.aload_n 0, 1) := by decide +kernel
theorem dX7_needed_22 : decode cX7_needed 22 = .ok (.getfield 10, 3) := by decide +kernel
theorem dX7_needed_25 : decode cX7_needed 25 = .ok (.getfield 135, 3) := by decide +kernel
theorem dX7_needed_28 : decode cX7_needed 28 = .ok (.getfield 139, 3) := by decide +kernel
theorem dX7_needed_31 : decode cX7_needed 31 = .ok (.iconst (-1), 1) := by decide +kernel
theorem dX7_needed_32 : decode cX7_needed 32 = .ok (.invokevirtual 215, 3) := by decide +kernel
theorem dX7_needed_35 : decode cX7_needed 35 = .ok (.aload_n 0, 1) := by decide +kernel
theorem dX7_needed_36 : decode cX7_needed 36 = .ok (.getfield 33, 3) := by decide +kernel
theorem dX7_needed_39 : decode cX7_needed 39 = .ok (.getfield 209, 3) := by decide +kernel
theorem dX7_needed_42 : decode cX7_needed 42 = .ok (.ifCond .ne 9, 3) := by decide +kernel
theorem dX7_needed_45 : decode cX7_needed 45 = .ok (.aload_n 0, 1) := by decide +kernel
theorem dX7_needed_46 : decode cX7_needed 46 = .ok (.iconst 3, 1) := by decide +kernel
theorem dX7_needed_47 : decode cX7_needed 47 = .ok (.invokevirtual 66, 3) := by decide +kernel
theorem dX7_needed_50 : decode cX7_needed 50 = .ok (.ireturn, 1) := by decide +kernel
theorem dX7_needed_51 : decode cX7_needed 51 = .ok (.iconst 0, 1) := by decide +kernel
theorem dX7_needed_52 : decode cX7_needed 52 = .ok (.istore_n 1, 1) := by decide +kernel
theorem dX7_needed_53 : decode cX7_needed 53 = .ok (.iconst 0, 1) := by decide +kernel
theorem dX7_needed_54 : decode cX7_needed 54 = .ok (.istore_n 2, 1) := by decide +kernel
theorem dX7_needed_55 : decode cX7_needed 55 = .ok (.iload_n 2, 1) := by decide +kernel
theorem dX7_needed_56 : decode cX7_needed 56 = .ok (.aload_n 0, 1) := by decide +kernel
theorem dX7_needed_57 : decode cX7_needed 57 = .ok (.getfield 10, 3) := by decide +kernel
theorem dX7_needed_60 : decode cX7_needed 60 = .ok (.getfield 70, 3) := by decide +kernel
theorem dX7_needed_63 : decode cX7_needed 63 = .ok (.getfield 231, 3) := by decide +kernel
theorem dX7_needed_66 : decode cX7_needed 66 = .ok (.if_icmp .ge 47, 3) := by decide +kernel
theorem dX7_needed_69 : decode cX7_needed 69 = .ok (.aload_n 0, 1) := by decide +kernel
theorem dX7_needed_70 : decode cX7_needed 70 = .ok (.aload_n 0, 1) := by decide +kernel
theorem dX7_needed_71 : decode cX7_needed 71 = .ok (.getfield 10, 3) := by decide +kernel
theorem dX7_needed_74 : decode cX7_needed 74 = .ok (.getfield 70, 3) := by decide +kernel
theorem dX7_needed_77 : decode cX7_needed 77 = .ok (.aload_n 0, 1) := by decide +kernel
theorem dX7_needed_78 : decode cX7_needed 78 = .ok (.getfield 10, 3) := by decide +kernel
theorem dX7_needed_81 : decode cX7_needed 81 = .ok (.getfield 135, 3) := by decide +kernel
theorem dX7_needed_84 : decode cX7_needed 84 = .ok (.getfield 139, 3) := by decide +kernel
theorem dX7_needed_87 : decode cX7_needed 87 = .ok (.iload_n 2, 1) := by decide +kernel
theorem dX7_needed_88 : decode cX7_needed 88 = .ok (.invokevirtual 215, 3) := by decide +kernel
theorem dX7_needed_91 : decode cX7_needed 91 = .ok (.aload_n 0, 1) := by decide +kernel
theorem dX7_needed_92 : decode cX7_needed 92 = .ok (.getfield 33, 3) := by decide +kernel
theorem dX7_needed_95 : decode cX7_needed 95 = .ok (.getfield 209, 3) := by decide +kernel
theorem dX7_needed_98 : decode cX7_needed 98 = .ok (.ifCond .ne 9, 3) := by decide +kernel
theorem dX7_needed_101 : decode cX7_needed 101 = .ok (.iload_n 1, 1) := by decide +kernel
theorem dX7_needed_102 : decode cX7_needed 102 = .ok (.iconst 1, 1) := by decide +kernel
theorem dX7_needed_103 : decode cX7_needed 103 = .ok (.iload_n 2, 1) := by decide +kernel
theorem dX7_needed_104 : decode cX7_needed 104 = .ok (.ishl, 1) := by decide +kernel
theorem dX7_needed_105 : decode cX7_needed 105 = .ok (.ior, 1) := by decide +kernel
theorem dX7_needed_106 : decode cX7_needed 106 = .ok (.istore_n 1, 1) := by decide +kernel
theorem dX7_needed_107 : decode cX7_needed 107 = .ok (.iinc 2 1, 3) := by decide +kernel
theorem dX7_needed_110 : decode cX7_needed 110 = .ok (.goto (-55), 3) := by decide +kernel
theorem dX7_needed_113 : decode cX7_needed 113 = .ok (.iload_n 1, 1) := by decide +kernel
theorem dX7_needed_114 : decode cX7_needed 114 = .ok (.ireturn, 1) := by decide +kernel
theorem dX7_kindFor_0 : decode cX7_kindFor 0 = .ok (.aload_n 0, 1) := by decide +kernel
theorem dX7_kindFor_1 : decode cX7_kindFor 1 = .ok (.getfield 10, 3) := by decide +kernel
theorem dX7_kindFor_4 : decode cX7_kindFor 4 = .ok (.getfield 70, 3) := by decide +kernel
theorem dX7_kindFor_7 : decode cX7_kindFor 7 = .ok (.iload_n 1, 1) := by decide +kernel
theorem dX7_kindFor_8 : decode cX7_kindFor 8 = .ok (.invokevirtual 81, 3) := by decide +kernel
theorem dX7_kindFor_11 : decode cX7_kindFor 11 = .ok (.ifCond .ne 9, 3) := by decide +kernel
theorem dX7_kindFor_14 : decode cX7_kindFor 14 = .ok (.aload_n 0, 1) := by decide +kernel
theorem dX7_kindFor_15 : decode cX7_kindFor 15 = .ok (.iconst 0, 1) := by decide +kernel
theorem dX7_kindFor_16 : decode cX7_kindFor 16 = .ok (.invokevirtual 66, 3) := by decide +kernel
theorem dX7_kindFor_19 : decode cX7_kindFor 19 = .ok (.ireturn, 1) := by decide +kernel
theorem dX7_kindFor_20 : decode cX7_kindFor 20 = .ok (.aload_n 0, 1) := by decide +kernel
theorem dX7_kindFor_21 : decode cX7_kindFor 21 = .ok (.getfield 26, 3) := by decide +kernel
theorem dX7_kindFor_24 : decode cX7_kindFor 24 = .ok (.aload_n 0, 1) := by decide +kernel
theorem dX7_kindFor_25 : decode cX7_kindFor 25 = .ok (.getfield 10, 3) := by decide +kernel
theorem dX7_kindFor_28 : decode cX7_kindFor 28 = .ok (.getfield 70, 3) := by decide +kernel
theorem dX7_kindFor_31 : decode cX7_kindFor 31 = .ok (.invokevirtual 227, 3) := by decide +kernel
theorem dX7_kindFor_34 : decode cX7_kindFor 34 = .ok (.iconst 0, 1) := by decide +kernel
theorem dX7_kindFor_35 : decode cX7_kindFor 35 = .ok (.istore_n 2, 1) := by decide +kernel
theorem dX7_kindFor_36 : decode cX7_kindFor 36 = .ok (.iconst 0, 1) := by decide +kernel
theorem dX7_kindFor_37 : decode cX7_kindFor 37 = .ok (.istore_n 3, 1) := by decide +kernel
theorem dX7_kindFor_38 : decode cX7_kindFor 38 = .ok (.iconst 0, 1) := by decide +kernel
theorem dX7_kindFor_39 : decode cX7_kindFor 39 = .ok (.istore 4, 2) := by decide +kernel
theorem dX7_kindFor_41 : decode cX7_kindFor 41 = .ok (.iload 4, 2) := by decide +kernel
theorem dX7_kindFor_43 : decode cX7_kindFor 43 = .ok (.bipush 7, 2) := by decide +kernel
theorem dX7_kindFor_45 : decode cX7_kindFor 45 = .ok (.if_icmp .ge 61, 3) := by decide +kernel
theorem dX7_kindFor_48 : decode cX7_kindFor 48 = .ok (.aload_n 0, 1) := by decide +kernel
theorem dX7_kindFor_49 : decode cX7_kindFor 49 = .ok (.getfield 26, 3) := by decide +kernel
theorem dX7_kindFor_52 : decode cX7_kindFor 52 = .ok (.getfield 84, 3) := by decide +kernel
theorem dX7_kindFor_55 : decode cX7_kindFor 55 = .ok (.iload_n 1, 1) := by decide +kernel
theorem dX7_kindFor_56 : decode cX7_kindFor 56 = .ok (.aaload, 1) := by decide +kernel
theorem dX7_kindFor_57 : decode cX7_kindFor 57 = .ok (.iload 4, 2) := by decide +kernel
theorem dX7_kindFor_59 : decode cX7_kindFor 59 = .ok (.putfield 88, 3) := by decide +kernel
theorem dX7_kindFor_62 : decode cX7_kindFor 62 = .ok (.aload_n 0, 1) := by decide +kernel
theorem dX7_kindFor_63 : decode cX7_kindFor 63 = .ok (.aload_n 0, 1) := by decide +kernel
theorem dX7_kindFor_64 : decode cX7_kindFor 64 = .ok (.getfield 26, 3) := by decide +kernel
theorem dX7_kindFor_67 : decode cX7_kindFor 67 = .ok (.iload_n 1, 1) := by decide +kernel
theorem dX7_kindFor_68 : decode cX7_kindFor 68 = .ok (.aload_n 0, 1) := by decide +kernel
theorem dX7_kindFor_69 : decode cX7_kindFor 69 = .ok (.getfield 10, 3) := by decide +kernel
theorem dX7_kindFor_72 : decode cX7_kindFor 72 = .ok (.getfield 135, 3) := by decide +kernel
theorem dX7_kindFor_75 : decode cX7_kindFor 75 = .ok (.getfield 163, 3) := by decide +kernel
theorem dX7_kindFor_78 : decode cX7_kindFor 78 = .ok (.invokevirtual 186, 3) := by decide +kernel
theorem dX7_kindFor_81 : decode cX7_kindFor 81 = .ok (.istore 5, 2) := by decide +kernel
theorem dX7_kindFor_83 : decode cX7_kindFor 83 = .ok (.iload 4, 2) := by decide +kernel
theorem dX7_kindFor_85 : decode cX7_kindFor 85 = .ok (.ifCond .eq 9, 3) := by decide +kernel
theorem dX7_kindFor_88 : decode cX7_kindFor 88 = .ok (.iload 5, 2) := by decide +kernel
theorem dX7_kindFor_90 : decode cX7_kindFor 90 = .ok (.iload_n 3, 1) := by decide +kernel
theorem dX7_kindFor_91 : decode cX7_kindFor 91 = .ok (.if_icmp .ge 9, 3) := by decide +kernel
theorem dX7_kindFor_94 : decode cX7_kindFor 94 = .ok (.iload 5, 2) := by decide +kernel
theorem dX7_kindFor_96 : decode cX7_kindFor 96 = .ok (.istore_n 3, 1) := by decide +kernel
theorem dX7_kindFor_97 : decode cX7_kindFor 97 = .ok (.iload 4, 2) := by decide +kernel
theorem dX7_kindFor_99 : decode cX7_kindFor 99 = .ok (.istore_n 2, 1) := by decide +kernel
theorem dX7_kindFor_100 : decode cX7_kindFor 100 = .ok (.iinc 4 1, 3) := by decide +kernel
theorem dX7_kindFor_103 : decode cX7_kindFor 103 = .ok (.goto (-62), 3) := by decide +kernel
theorem dX7_kindFor_106 : decode cX7_kindFor 106 = .ok (.iload_n 2, 1) := by decide +kernel
theorem dX7_kindFor_107 : decode cX7_kindFor 107 = .ok (.ireturn, 1) := by decide +kernel
theorem dX7_reach_0 : decode cX7_reach 0 = .ok (.iconst 1, 1) := by decide +kernel
theorem dX7_reach_1 : decode cX7_reach 1 = .ok (.aload_n 0, 1) := by decide +kernel
theorem dX7_reach_2 : decode cX7_reach 2 = .ok (.getfield 10, 3) := by decide +kernel
theorem dX7_reach_5 : decode cX7_reach 5 = .ok (.getfield 135, 3) := by decide +kernel
theorem dX7_reach_8 : decode cX7_reach 8 = .ok (.getfield 160, 3) := by decide +kernel
theorem dX7_reach_11 : decode cX7_reach 11 = .ok (.ishl, 1) := by decide +kernel
theorem dX7_reach_12 : decode cX7_reach 12 = .ok (.istore_n 1, 1) := by decide +kernel
theorem dX7_reach_13 : decode cX7_reach 13 = .ok (.iconst 1, 1) := by decide +kernel
theorem dX7_reach_14 : decode cX7_reach 14 = .ok (.istore_n 2, 1) := by decide +kernel
theorem dX7_reach_15 : decode cX7_reach 15 = .ok (.iload_n 2, 1) := by decide +kernel
theorem dX7_reach_16 : decode cX7_reach 16 = .ok (.bipush 8, 2) := by decide +kernel
theorem dX7_reach_18 : decode cX7_reach 18 = .ok (.if_icmp .ge 53, 3) := by decide +kernel
theorem dX7_reach_21 : decode cX7_reach 21 = .ok (.iload_n 1, 1) := by decide +kernel
theorem dX7_reach_22 : decode cX7_reach 22 = .ok (.istore_n 3, 1) := by decide +kernel
theorem dX7_reach_23 : decode cX7_reach 23 = .ok (.iconst 0, 1) := by decide +kernel
theorem dX7_reach_24 : decode cX7_reach 24 = .ok (.istore 4, 2) := by decide +kernel
theorem dX7_reach_26 : decode cX7_reach 26 = .ok (.iload 4, 2) := by decide +kernel
theorem dX7_reach_28 : decode cX7_reach 28 = .ok (.bipush 8, 2) := by decide +kernel
theorem dX7_reach_30 : decode cX7_reach 30 = .ok (.if_icmp .ge 33, 3) := by decide +kernel
theorem dX7_reach_33 : decode cX7_reach 33 = .ok (.iload_n 1, 1) := by decide +kernel
theorem dX7_reach_34 : decode cX7_reach 34 = .ok (.iload 4, 2) := by decide +kernel
theorem dX7_reach_36 : decode cX7_reach 36 = .ok (.invokestatic 234, 3) := by decide +kernel
theorem dX7_reach_39 : decode cX7_reach 39 = .ok (.ifCond .eq 18, 3) := by decide +kernel
theorem dX7_reach_42 : decode cX7_reach 42 = .ok (.iload_n 3, 1) := by decide +kernel
theorem dX7_reach_43 : decode cX7_reach 43 = .ok (.aload_n 0, 1) := by decide +kernel
theorem dX7_reach_44 : decode cX7_reach 44 = .ok (.getfield 10, 3) := by decide +kernel
theorem dX7_reach_47 : decode cX7_reach 47 = .ok (.getfield 70, 3) := by decide +kernel
theorem dX7_reach_50 : decode cX7_reach 50 = .ok (.iload 4, 2) := by decide +kernel
theorem dX7_reach_52 : decode cX7_reach 52 = .ok (.invokevirtual 148, 3) := by decide +kernel
theorem dX7_reach_55 : decode cX7_reach 55 = .ok (.ior, 1) := by decide +kernel
theorem dX7_reach_56 : decode cX7_reach 56 = .ok (.istore_n 3, 1) := by decide +kernel
theorem dX7_reach_57 : decode cX7_reach 57 = .ok (.iinc 4 1, 3) := by decide +kernel
theorem dX7_reach_60 : decode cX7_reach 60 = .ok (.goto (-34), 3) := by decide +kernel
theorem dX7_reach_63 : decode cX7_reach 63 = .ok (.iload_n 3, 1) := by decide +kernel
theorem dX7_reach_64 : decode cX7_reach 64 = .ok (.istore_n 1, 1) := by decide +kernel
theorem dX7_reach_65 : decode cX7_reach 65 = .ok (.iinc 2 1, 3) := by decide +kernel
theorem dX7_reach_68 : decode cX7_reach 68 = .ok (.goto (-53), 3) := by decide +kernel
theorem dX7_reach_71 : decode cX7_reach 71 = .ok (.iload_n 1, 1) := by decide +kernel
theorem dX7_reach_72 : decode cX7_reach 72 = .ok (.ireturn, 1) := by decide +kernel
theorem dX7_sky_0 : decode cX7_sky 0 = .ok (.iload_n 1, 1) := by decide +kernel
theorem dX7_sky_1 : decode cX7_sky 1 = .ok (.iconst 1, 1) := by decide +kernel
theorem dX7_sky_2 : decode cX7_sky 2 = .ok (.bipush 12, 2) := by decide +kernel
theorem dX7_sky_4 : decode cX7_sky 4 = .ok (.invokestatic 62, 3) := by decide +kernel
theorem dX7_sky_7 : decode cX7_sky 7 = .ok (.ifCond .ne 9, 3) := by decide +kernel
theorem dX7_sky_10 : decode cX7_sky 10 = .ok (.aload_n 0, 1) := by decide +kernel
theorem dX7_sky_11 : decode cX7_sky 11 = .ok (.iconst 0, 1) := by decide +kernel
theorem dX7_sky_12 : decode cX7_sky 12 = .ok (.invokevirtual 66, 3) := by decide +kernel
theorem dX7_sky_15 : decode cX7_sky 15 = .ok (.ireturn, 1) := by decide +kernel
theorem dX7_sky_16 : decode cX7_sky 16 = .ok (.iconst 0, 1) := by decide +kernel
theorem dX7_sky_17 : decode cX7_sky 17 = .ok (.istore_n 2, 1) := by decide +kernel
theorem dX7_sky_18 : decode cX7_sky 18 = .ok (.iload_n 2, 1) := by decide +kernel
theorem dX7_sky_19 : decode cX7_sky 19 = .ok (.iload_n 1, 1) := by decide +kernel
theorem dX7_sky_20 : decode cX7_sky 20 = .ok (.if_icmp .ge 70, 3) := by decide +kernel
theorem dX7_sky_23 : decode cX7_sky 23 = .ok (.aload_n 0, 1) := by decide +kernel
theorem dX7_sky_24 : decode cX7_sky 24 = .ok (.getfield 10, 3) := by decide +kernel
theorem dX7_sky_27 : decode cX7_sky 27 = .ok (.invokevirtual 238, 3) := by decide +kernel
theorem dX7_sky_30 : decode cX7_sky 30 = .ok (.bipush 12, 2) := by decide +kernel
theorem dX7_sky_32 : decode cX7_sky 32 = .ok (.irem, 1) := by decide +kernel
theorem dX7_sky_33 : decode cX7_sky 33 = .ok (.istore_n 3, 1) := by decide +kernel
theorem dX7_sky_34 : decode cX7_sky 34 = .ok (.aload_n 0, 1) := by decide +kernel
theorem dX7_sky_35 : decode cX7_sky 35 = .ok (.getfield 10, 3) := by decide +kernel
theorem dX7_sky_38 : decode cX7_sky 38 = .ok (.getfield 70, 3) := by decide +kernel
theorem dX7_sky_41 : decode cX7_sky 41 = .ok (.getfield 129, 3) := by decide +kernel
theorem dX7_sky_44 : decode cX7_sky 44 = .ok (.iload_n 3, 1) := by decide +kernel
theorem dX7_sky_45 : decode cX7_sky 45 = .ok (.aload_n 0, 1) := by decide +kernel
theorem dX7_sky_46 : decode cX7_sky 46 = .ok (.getfield 10, 3) := by decide +kernel
theorem dX7_sky_49 : decode cX7_sky 49 = .ok (.invokevirtual 238, 3) := by decide +kernel
theorem dX7_sky_52 : decode cX7_sky 52 = .ok (.bipush 10, 2) := by decide +kernel
theorem dX7_sky_54 : decode cX7_sky 54 = .ok (.irem, 1) := by decide +kernel
theorem dX7_sky_55 : decode cX7_sky 55 = .ok (.iastore, 1) := by decide +kernel
theorem dX7_sky_56 : decode cX7_sky 56 = .ok (.aload_n 0, 1) := by decide +kernel
theorem dX7_sky_57 : decode cX7_sky 57 = .ok (.getfield 10, 3) := by decide +kernel
theorem dX7_sky_60 : decode cX7_sky 60 = .ok (.getfield 70, 3) := by decide +kernel
theorem dX7_sky_63 : decode cX7_sky 63 = .ok (.getfield 132, 3) := by decide +kernel
theorem dX7_sky_66 : decode cX7_sky 66 = .ok (.iload_n 3, 1) := by decide +kernel
theorem dX7_sky_67 : decode cX7_sky 67 = .ok (.iconst 0, 1) := by decide +kernel
theorem dX7_sky_68 : decode cX7_sky 68 = .ok (.aload_n 0, 1) := by decide +kernel
theorem dX7_sky_69 : decode cX7_sky 69 = .ok (.getfield 10, 3) := by decide +kernel
theorem dX7_sky_72 : decode cX7_sky 72 = .ok (.invokevirtual 238, 3) := by decide +kernel
theorem dX7_sky_75 : decode cX7_sky 75 = .ok (.bipush 10, 2) := by decide +kernel
theorem dX7_sky_77 : decode cX7_sky 77 = .ok (.irem, 1) := by decide +kernel
theorem dX7_sky_78 : decode cX7_sky 78 = .ok (.iconst 5, 1) := by decide +kernel
theorem dX7_sky_79 : decode cX7_sky 79 = .ok (.isub, 1) := by decide +kernel
theorem dX7_sky_80 : decode cX7_sky 80 = .ok (.invokestatic 106, 3) := by decide +kernel
theorem dX7_sky_83 : decode cX7_sky 83 = .ok (.iastore, 1) := by decide +kernel
theorem dX7_sky_84 : decode cX7_sky 84 = .ok (.iinc 2 1, 3) := by decide +kernel
theorem dX7_sky_87 : decode cX7_sky 87 = .ok (.goto (-69), 3) := by decide +kernel
theorem dX7_sky_90 : decode cX7_sky 90 = .ok (.aload_n 0, 1) := by decide +kernel
theorem dX7_sky_91 : decode cX7_sky 91 = .ok (.getfield 10, 3) := by decide +kernel
theorem dX7_sky_94 : decode cX7_sky 94 = .ok (.getfield 70, 3) := by decide +kernel
theorem dX7_sky_97 : decode cX7_sky 97 = .ok (.getfield 132, 3) := by decide +kernel
theorem dX7_sky_100 : decode cX7_sky 100 = .ok (.invokestatic 241, 3) := by decide +kernel
theorem dX7_sky_103 : decode cX7_sky 103 = .ok (.ireturn, 1) := by decide +kernel
theorem dX7_stray_0 : decode cX7_stray 0 = .ok (.iload_n 1, 1) := by decide +kernel
theorem dX7_stray_1 : decode cX7_stray 1 = .ok (.iconst 1, 1) := by decide +kernel
theorem dX7_stray_2 : decode cX7_stray 2 = .ok (.bipush 12, 2) := by decide +kernel
theorem dX7_stray_4 : decode cX7_stray 4 = .ok (.invokestatic 62, 3) := by decide +kernel
theorem dX7_stray_7 : decode cX7_stray 7 = .ok (.ifCond .ne 9, 3) := by decide +kernel
theorem dX7_stray_10 : decode cX7_stray 10 = .ok (.aload_n 0, 1) := by decide +kernel
theorem dX7_stray_11 : decode cX7_stray 11 = .ok (.iconst 0, 1) := by decide +kernel
theorem dX7_stray_12 : decode cX7_stray 12 = .ok (.invokevirtual 66, 3) := by decide +kernel
theorem dX7_stray_15 : decode cX7_stray 15 = .ok (.ireturn, 1) := by decide +kernel
theorem dX7_stray_16 : decode cX7_stray 16 = .ok (.iconst 0, 1) := by decide +kernel
theorem dX7_stray_17 : decode cX7_stray 17 = .ok (.istore_n 2, 1) := by decide +kernel
theorem dX7_stray_18 : decode cX7_stray 18 = .ok (.iload_n 2, 1) := by decide +kernel
theorem dX7_stray_19 : decode cX7_stray 19 = .ok (.iload_n 1, 1) := by decide +kernel
theorem dX7_stray_20 : decode cX7_stray 20 = .ok (.if_icmp .ge 79, 3) := by decide +kernel
theorem dX7_stray_23 : decode cX7_stray 23 = .ok (.aload_n 0, 1) := by decide +kernel
theorem dX7_stray_24 : decode cX7_stray 24 = .ok (.getfield 10, 3) := by decide +kernel
theorem dX7_stray_27 : decode cX7_stray 27 = .ok (.invokevirtual 245, 3) := by decide +kernel
theorem dX7_stray_30 : decode cX7_stray 30 = .ok (.istore_n 3, 1) := by decide +kernel
theorem dX7_stray_31 : decode cX7_stray 31 = .ok (.iload_n 3, 1) := by decide +kernel
theorem dX7_stray_32 : decode cX7_stray 32 = .ok (.ifCond .ge 7, 3) := by decide +kernel
theorem dX7_stray_35 : decode cX7_stray 35 = .ok (.iconst (-1), 1) := by decide +kernel
theorem dX7_stray_36 : decode cX7_stray 36 = .ok (.goto 24, 3) := by decide +kernel
theorem dX7_stray_39 : decode cX7_stray 39 = .ok (.aload_n 0, 1) := by decide +kernel
theorem dX7_stray_40 : decode cX7_stray 40 = .ok (.getfield 10, 3) := by decide +kernel
theorem dX7_stray_43 : decode cX7_stray 43 = .ok (.getfield 70, 3) := by decide +kernel
theorem dX7_stray_46 : decode cX7_stray 46 = .ok (.aload_n 0, 1) := by decide +kernel
theorem dX7_stray_47 : decode cX7_stray 47 = .ok (.getfield 10, 3) := by decide +kernel
theorem dX7_stray_50 : decode cX7_stray 50 = .ok (.getfield 135, 3) := by decide +kernel
theorem dX7_stray_53 : decode cX7_stray 53 = .ok (.getfield 160, 3) := by decide +kernel
theorem dX7_stray_56 : decode cX7_stray 56 = .ok (.iload_n 3, 1) := by decide +kernel
theorem dX7_stray_57 : decode cX7_stray 57 = .ok (.invokevirtual 151, 3) := by decide +kernel
theorem dX7_stray_60 : decode cX7_stray 60 = .ok (.istore 4, 2) := by decide +kernel
theorem dX7_stray_62 : decode cX7_stray 62 = .ok (.iload 4, 2) := by decide +kernel
theorem dX7_stray_64 : decode cX7_stray 64 = .ok (.ifCond .lt 35, 3) := by decide +kernel
theorem dX7_stray_67 : decode cX7_stray 67 = .ok (.aload_n 0, 1) := by decide +kernel
theorem dX7_stray_68 : decode cX7_stray 68 = .ok (.getfield 10, 3) := by decide +kernel
theorem dX7_stray_71 : decode cX7_stray 71 = .ok (.iload 4, 2) := by decide +kernel
theorem dX7_stray_73 : decode cX7_stray 73 = .ok (.invokevirtual 172, 3) := by decide +kernel
theorem dX7_stray_76 : decode cX7_stray 76 = .ok (.ifCond .eq 6, 3) := by decide +kernel
theorem dX7_stray_79 : decode cX7_stray 79 = .ok (.goto 20, 3) := by decide +kernel
theorem dX7_stray_82 : decode cX7_stray 82 = .ok (.aload_n 0, 1) := by decide +kernel
theorem dX7_stray_83 : decode cX7_stray 83 = .ok (.getfield 10, 3) := by decide +kernel
theorem dX7_stray_86 : decode cX7_stray 86 = .ok (.iload 4, 2) := by decide +kernel
theorem dX7_stray_88 : decode cX7_stray 88 = .ok (.iload_n 3, 1) := by decide +kernel
theorem dX7_stray_89 : decode cX7_stray 89 = .ok (.invokevirtual 175, 3) := by decide +kernel
theorem dX7_stray_92 : decode cX7_stray 92 = .ok (.pop, 1) := by decide +kernel
theorem dX7_stray_93 : decode cX7_stray 93 = .ok (.iinc 2 1, 3) := by decide +kernel
theorem dX7_stray_96 : decode cX7_stray 96 = .ok (.goto (-78), 3) := by decide +kernel
theorem dX7_stray_99 : decode cX7_stray 99 = .ok (.aload_n 0, 1) := by decide +kernel
theorem dX7_stray_100 : decode cX7_stray 100 = .ok (.getfield 10, 3) := by decide +kernel
theorem dX7_stray_103 : decode cX7_stray 103 = .ok (.getfield 135, 3) := by decide +kernel
theorem dX7_stray_106 : decode cX7_stray 106 = .ok (.invokevirtual 157, 3) := by decide +kernel
theorem dX7_stray_109 : decode cX7_stray 109 = .ok (.ireturn, 1) := by decide +kernel
theorem dX7_year_0 : decode cX7_year 0 = .ok (.aload_n 0, 1) := by decide +kernel
theorem dX7_year_1 : decode cX7_year 1 = .ok (.getfield 10, 3) := by decide +kernel
theorem dX7_year_4 : decode cX7_year 4 = .ok (.getfield 135, 3) := by decide +kernel
theorem dX7_year_7 : decode cX7_year 7 = .ok (.invokevirtual 248, 3) := by decide +kernel
theorem dX7_year_10 : decode cX7_year 10 = .ok (.aload_n 0, 1) := by decide +kernel
theorem dX7_year_11 : decode cX7_year 11 = .ok (.getfield 10, 3) := by decide +kernel
theorem dX7_year_14 : decode cX7_year 14 = .ok (.getfield 135, 3) := by decide +kernel
theorem dX7_year_17 : decode cX7_year 17 = .ok (.invokevirtual 183, 3) := by decide +kernel
theorem dX7_year_20 : decode cX7_year 20 = .ok (.aload_n 0, 1) := by decide +kernel
theorem dX7_year_21 : decode cX7_year 21 = .ok (.getfield 10, 3) := by decide +kernel
theorem dX7_year_24 : decode cX7_year 24 = .ok (.getfield 135, 3) := by decide +kernel
theorem dX7_year_27 : decode cX7_year 27 = .ok (.invokevirtual 157, 3) := by decide +kernel
theorem dX7_year_30 : decode cX7_year 30 = .ok (.ireturn, 1) := by decide +kernel
theorem dX7_seed_0 : decode cX7_seed 0 = .ok (.aload_n 0, 1) := by decide +kernel
theorem dX7_seed_1 : decode cX7_seed 1 = .ok (.getfield 10, 3) := by decide +kernel
theorem dX7_seed_4 : decode cX7_seed 4 = .ok (.getfield 251, 3) := by decide +kernel
theorem dX7_seed_7 : decode cX7_seed 7 = .ok (.istore_n 2, 1) := by decide +kernel
theorem dX7_seed_8 : decode cX7_seed 8 = .ok (.aload_n 0, 1) := by decide +kernel
theorem dX7_seed_9 : decode cX7_seed 9 = .ok (.getfield 10, 3) := by decide +kernel
theorem dX7_seed_12 : decode cX7_seed 12 = .ok (.iload_n 1, 1) := by decide +kernel
theorem dX7_seed_13 : decode cX7_seed 13 = .ok (.putfield 251, 3) := by decide +kernel
theorem dX7_seed_16 : decode cX7_seed 16 = .ok (.iload_n 2, 1) := by decide +kernel
theorem dX7_seed_17 : decode cX7_seed 17 = .ok (.ireturn, 1) := by decide +kernel
theorem dX7_feed_0 : decode cX7_feed 0 = .ok (.iload_n 2, 1) := by decide +kernel
theorem dX7_feed_1 : decode cX7_feed 1 = .ok (.iconst 1, 1) := by decide +kernel
theorem dX7_feed_2 : decode cX7_feed 2 = .ok (.iconst 4, 1) := by decide +kernel
theorem dX7_feed_3 : decode cX7_feed 3 = .ok (.invokestatic 62, 3) := by decide +kernel
theorem dX7_feed_6 : decode cX7_feed 6 = .ok (.ifCond .ne 9, 3) := by decide +kernel
theorem dX7_feed_9 : decode cX7_feed 9 = .ok (.aload_n 0, 1) := by decide +kernel
theorem dX7_feed_10 : decode cX7_feed 10 = .ok (.iconst 0, 1) := by decide +kernel
theorem dX7_feed_11 : decode cX7_feed 11 = .ok (.invokevirtual 66, 3) := by decide +kernel
theorem dX7_feed_14 : decode cX7_feed 14 = .ok (.ireturn, 1) := by decide +kernel
theorem dX7_feed_15 : decode cX7_feed 15 = .ok (.aload_n 0, 1) := by decide +kernel
theorem dX7_feed_16 : decode cX7_feed 16 = .ok (.getfield 40, 3) := by decide +kernel
theorem dX7_feed_19 : decode cX7_feed 19 = .ok (.getfield 254, 3) := by decide +kernel
theorem dX7_feed_22 : decode cX7_feed 22 = .ok (.iload_n 2, 1) := by decide +kernel
theorem dX7_feed_23 : decode cX7_feed 23 = .ok (.iadd, 1) := by decide +kernel
theorem dX7_feed_24 : decode cX7_feed 24 = .ok (.bipush 120, 2) := by decide +kernel
theorem dX7_feed_26 : decode cX7_feed 26 = .ok (.if_icmp .le 9, 3) := by decide +kernel
theorem dX7_feed_29 : decode cX7_feed 29 = .ok (.aload_n 0, 1) := by decide +kernel
theorem dX7_feed_30 : decode cX7_feed 30 = .ok (.iconst 1, 1) := by decide +kernel
theorem dX7_feed_31 : decode cX7_feed 31 = .ok (.invokevirtual 66, 3) := by decide +kernel
theorem dX7_feed_34 : decode cX7_feed 34 = .ok (.ireturn, 1) := by decide +kernel
theorem dX7_feed_35 : decode cX7_feed 35 = .ok (.iload_n 2, 1) := by decide +kernel
theorem dX7_feed_36 : decode cX7_feed 36 = .ok (.iconst 1, 1) := by decide +kernel
theorem dX7_feed_37 : decode cX7_feed 37 = .ok (.isub, 1) := by decide +kernel
theorem dX7_feed_38 : decode cX7_feed 38 = .ok (.istore_n 3, 1) := by decide +kernel
theorem dX7_feed_39 : decode cX7_feed 39 = .ok (.iload_n 3, 1) := by decide +kernel
theorem dX7_feed_40 : decode cX7_feed 40 = .ok (.ifCond .lt 26, 3) := by decide +kernel
theorem dX7_feed_43 : decode cX7_feed 43 = .ok (.aload_n 0, 1) := by decide +kernel
theorem dX7_feed_44 : decode cX7_feed 44 = .ok (.getfield 40, 3) := by decide +kernel
theorem dX7_feed_47 : decode cX7_feed 47 = .ok (.iload_n 1, 1) := by decide +kernel
theorem dX7_feed_48 : decode cX7_feed 48 = .ok (.bipush 8, 2) := by decide +kernel
theorem dX7_feed_50 : decode cX7_feed 50 = .ok (.iload_n 3, 1) := by decide +kernel
theorem dX7_feed_51 : decode cX7_feed 51 = .ok (.imul, 1) := by decide +kernel
theorem dX7_feed_52 : decode cX7_feed 52 = .ok (.iushr, 1) := by decide +kernel
theorem dX7_feed_53 : decode cX7_feed 53 = .ok (.sipush 255, 3) := by decide +kernel
theorem dX7_feed_56 : decode cX7_feed 56 = .ok (.iand, 1) := by decide +kernel
theorem dX7_feed_57 : decode cX7_feed 57 = .ok (.invokevirtual 255, 3) := by decide +kernel
theorem dX7_feed_60 : decode cX7_feed 60 = .ok (.iinc 3 (-1), 3) := by decide +kernel
theorem dX7_feed_63 : decode cX7_feed 63 = .ok (.goto (-24), 3) := by decide +kernel
theorem dX7_feed_66 : decode cX7_feed 66 = .ok (.aload_n 0, 1) := by decide +kernel
theorem dX7_feed_67 : decode cX7_feed 67 = .ok (.getfield 40, 3) := by decide +kernel
theorem dX7_feed_70 : decode cX7_feed 70 = .ok (.getfield 254, 3) := by decide +kernel
theorem dX7_feed_73 : decode cX7_feed 73 = .ok (.ireturn, 1) := by decide +kernel
theorem dX7_wipe_0 : decode cX7_wipe 0 = .ok (.aload_n 0, 1) := by decide +kernel
theorem dX7_wipe_1 : decode cX7_wipe 1 = .ok (.getfield 40, 3) := by decide +kernel
theorem dX7_wipe_4 : decode cX7_wipe 4 = .ok (.getfield 254, 3) := by decide +kernel
theorem dX7_wipe_7 : decode cX7_wipe 7 = .ok (.istore_n 1, 1) := by decide +kernel
theorem dX7_wipe_8 : decode cX7_wipe 8 = .ok (.aload_n 0, 1) := by decide +kernel
theorem dX7_wipe_9 : decode cX7_wipe 9 = .ok (.getfield 40, 3) := by decide +kernel
theorem dX7_wipe_12 : decode cX7_wipe 12 = .ok (.iconst 0, 1) := by decide +kernel
theorem dX7_wipe_13 : decode cX7_wipe 13 = .ok (.putfield 254, 3) := by decide +kernel
theorem dX7_wipe_16 : decode cX7_wipe 16 = .ok (.iload_n 1, 1) := by decide +kernel
theorem dX7_wipe_17 : decode cX7_wipe 17 = .ok (.ireturn, 1) := by decide +kernel
theorem dX7_text_0 : decode cX7_text 0 = .ok (.aload_n 0, 1) := by decide +kernel
theorem dX7_text_1 : decode cX7_text 1 = .ok (.getfield 40, 3) := by decide +kernel
theorem dX7_text_4 : decode cX7_text 4 = .ok (.getfield 258, 3) := by decide +kernel
theorem dX7_text_7 : decode cX7_text 7 = .ok (.aload_n 0, 1) := by decide +kernel
theorem dX7_text_8 : decode cX7_text 8 = .ok (.getfield 10, 3) := by decide +kernel
theorem dX7_text_11 : decode cX7_text 11 = .ok (.getfield 70, 3) := by decide +kernel
theorem dX7_text_14 : decode cX7_text 14 = .ok (.invokevirtual 227, 3) := by decide +kernel
theorem dX7_text_17 : decode cX7_text 17 = .ok (.aload_n 0, 1) := by decide +kernel
theorem dX7_text_18 : decode cX7_text 18 = .ok (.getfield 40, 3) := by decide +kernel
theorem dX7_text_21 : decode cX7_text 21 = .ok (.aload_n 0, 1) := by decide +kernel
theorem dX7_text_22 : decode cX7_text 22 = .ok (.getfield 10, 3) := by decide +kernel
theorem dX7_text_25 : decode cX7_text 25 = .ok (.getfield 135, 3) := by decide +kernel
theorem dX7_text_28 : decode cX7_text 28 = .ok (.getfield 139, 3) := by decide +kernel
theorem dX7_text_31 : decode cX7_text 31 = .ok (.putfield 259, 3) := by decide +kernel
theorem dX7_text_34 : decode cX7_text 34 = .ok (.aload_n 0, 1) := by decide +kernel
theorem dX7_text_35 : decode cX7_text 35 = .ok (.getfield 40, 3) := by decide +kernel
theorem dX7_text_38 : decode cX7_text 38 = .ok (.invokevirtual 260, 3) := by decide +kernel
theorem dX7_text_41 : decode cX7_text 41 = .ok (.istore_n 1, 1) := by decide +kernel
theorem dX7_text_42 : decode cX7_text 42 = .ok (.aload_n 0, 1) := by decide +kernel
theorem dX7_text_43 : decode cX7_text 43 = .ok (.getfield 40, 3) := by decide +kernel
theorem dX7_text_46 : decode cX7_text 46 = .ok (.iconst 0, 1) := by decide +kernel
theorem dX7_text_47 : decode cX7_text 47 = .ok (.putfield 254, 3) := by decide +kernel
theorem dX7_text_50 : decode cX7_text 50 = .ok (.iload_n 1, 1) := by decide +kernel
theorem dX7_text_51 : decode cX7_text 51 = .ok (.ifCond .lt 37, 3) := by decide +kernel
theorem dX7_text_54 : decode cX7_text 54 = .ok (.aload_n 0, 1) := by decide +kernel
theorem dX7_text_55 : decode cX7_text 55 = .ok (.getfield 10, 3) := by decide +kernel
theorem dX7_text_58 : decode cX7_text 58 = .ok (.getfield 70, 3) := by decide +kernel
theorem dX7_text_61 : decode cX7_text 61 = .ok (.aload_n 0, 1) := by decide +kernel
theorem dX7_text_62 : decode cX7_text 62 = .ok (.getfield 40, 3) := by decide +kernel
theorem dX7_text_65 : decode cX7_text 65 = .ok (.getfield 258, 3) := by decide +kernel
theorem dX7_text_68 : decode cX7_text 68 = .ok (.invokevirtual 227, 3) := by decide +kernel
theorem dX7_text_71 : decode cX7_text 71 = .ok (.aload_n 0, 1) := by decide +kernel
theorem dX7_text_72 : decode cX7_text 72 = .ok (.getfield 10, 3) := by decide +kernel
theorem dX7_text_75 : decode cX7_text 75 = .ok (.getfield 135, 3) := by decide +kernel
theorem dX7_text_78 : decode cX7_text 78 = .ok (.aload_n 0, 1) := by decide +kernel
theorem dX7_text_79 : decode cX7_text 79 = .ok (.getfield 40, 3) := by decide +kernel
theorem dX7_text_82 : decode cX7_text 82 = .ok (.getfield 259, 3) := by decide +kernel
theorem dX7_text_85 : decode cX7_text 85 = .ok (.putfield 139, 3) := by decide +kernel
theorem dX7_text_88 : decode cX7_text 88 = .ok (.iload_n 1, 1) := by decide +kernel
theorem dX7_text_89 : decode cX7_text 89 = .ok (.ireturn, 1) := by decide +kernel
theorem dX7_hold_0 : decode cX7_hold 0 = .ok (.iload_n 1, 1) := by decide +kernel
theorem dX7_hold_1 : decode cX7_hold 1 = .ok (.iconst 0, 1) := by decide +kernel
theorem dX7_hold_2 : decode cX7_hold 2 = .ok (.bipush 9, 2) := by decide +kernel
theorem dX7_hold_4 : decode cX7_hold 4 = .ok (.invokestatic 62, 3) := by decide +kernel
theorem dX7_hold_7 : decode cX7_hold 7 = .ok (.ifCond .eq 22, 3) := by decide +kernel
theorem dX7_hold_10 : decode cX7_hold 10 = .ok (.iload_n 2, 1) := by decide +kernel
theorem dX7_hold_11 : decode cX7_hold 11 = .ok (.iconst (-1), 1) := by decide +kernel
theorem dX7_hold_12 : decode cX7_hold 12 = .ok (.if_icmp .eq 23, 3) := by decide +kernel
theorem dX7_hold_15 : decode cX7_hold 15 = .ok (.aload_n 0, 1) := by decide +kernel
theorem dX7_hold_16 : decode cX7_hold 16 = .ok (.getfield 10, 3) := by decide +kernel
theorem dX7_hold_19 : decode cX7_hold 19 = .ok (.getfield 70, 3) := by decide +kernel
theorem dX7_hold_22 : decode cX7_hold 22 = .ok (.iload_n 2, 1) := by decide +kernel
theorem dX7_hold_23 : decode cX7_hold 23 = .ok (.invokevirtual 81, 3) := by decide +kernel
theorem dX7_hold_26 : decode cX7_hold 26 = .ok (.ifCond .ne 9, 3) := by decide +kernel
theorem dX7_hold_29 : decode cX7_hold 29 = .ok (.aload_n 0, 1) := by decide +kernel
theorem dX7_hold_30 : decode cX7_hold 30 = .ok (.iconst 0, 1) := by decide +kernel
theorem dX7_hold_31 : decode cX7_hold 31 = .ok (.invokevirtual 66, 3) := by decide +kernel
theorem dX7_hold_34 : decode cX7_hold 34 = .ok (.ireturn, 1) := by decide +kernel
theorem dX7_hold_35 : decode cX7_hold 35 = .ok (.aload_n 0, 1) := by decide +kernel
theorem dX7_hold_36 : decode cX7_hold 36 = .ok (.getfield 10, 3) := by decide +kernel
theorem dX7_hold_39 : decode cX7_hold 39 = .ok (.getfield 263, 3) := by decide +kernel
theorem dX7_hold_42 : decode cX7_hold 42 = .ok (.iload_n 1, 1) := by decide +kernel
theorem dX7_hold_43 : decode cX7_hold 43 = .ok (.iload_n 2, 1) := by decide +kernel
theorem dX7_hold_44 : decode cX7_hold 44 = .ok (.iastore, 1) := by decide +kernel
theorem dX7_hold_45 : decode cX7_hold 45 = .ok (.iconst 1, 1) := by decide +kernel
theorem dX7_hold_46 : decode cX7_hold 46 = .ok (.ireturn, 1) := by decide +kernel
theorem dX7_as_0 : decode cX7_as 0 = .ok (.iload_n 1, 1) := by decide +kernel
theorem dX7_as_1 : decode cX7_as 1 = .ok (.iconst 0, 1) := by decide +kernel
theorem dX7_as_2 : decode cX7_as 2 = .ok (.bipush 9, 2) := by decide +kernel
theorem dX7_as_4 : decode cX7_as 4 = .ok (.invokestatic 62, 3) := by decide +kernel
theorem dX7_as_7 : decode cX7_as 7 = .ok (.ifCond .eq 10, 3) := by decide +kernel
theorem dX7_as_10 : decode cX7_as 10 = .ok (.iload_n 2, 1) := by decide +kernel
theorem dX7_as_11 : decode cX7_as 11 = .ok (.invokestatic 55, 3) := by decide +kernel
theorem dX7_as_14 : decode cX7_as 14 = .ok (.ifCond .ne 9, 3) := by decide +kernel
theorem dX7_as_17 : decode cX7_as 17 = .ok (.aload_n 0, 1) := by decide +kernel
theorem dX7_as_18 : decode cX7_as 18 = .ok (.iconst 0, 1) := by decide +kernel
theorem dX7_as_19 : decode cX7_as 19 = .ok (.invokevirtual 66, 3) := by decide +kernel
theorem dX7_as_22 : decode cX7_as 22 = .ok (.ireturn, 1) := by decide +kernel
theorem dX7_as_23 : decode cX7_as 23 = .ok (.aload_n 0, 1) := by decide +kernel
theorem dX7_as_24 : decode cX7_as 24 = .ok (.getfield 10, 3) := by decide +kernel
theorem dX7_as_27 : decode cX7_as 27 = .ok (.getfield 263, 3) := by decide +kernel
theorem dX7_as_30 : decode cX7_as 30 = .ok (.iload_n 1, 1) := by decide +kernel
theorem dX7_as_31 : decode cX7_as 31 = .ok (.iaload, 1) := by decide +kernel
theorem dX7_as_32 : decode cX7_as 32 = .ok (.istore_n 3, 1) := by decide +kernel
theorem dX7_as_33 : decode cX7_as 33 = .ok (.aload_n 0, 1) := by decide +kernel
theorem dX7_as_34 : decode cX7_as 34 = .ok (.getfield 10, 3) := by decide +kernel
theorem dX7_as_37 : decode cX7_as 37 = .ok (.getfield 70, 3) := by decide +kernel
theorem dX7_as_40 : decode cX7_as 40 = .ok (.iload_n 3, 1) := by decide +kernel
theorem dX7_as_41 : decode cX7_as 41 = .ok (.invokevirtual 81, 3) := by decide +kernel
theorem dX7_as_44 : decode cX7_as 44 = .ok (.ifCond .ne 9, 3) := by decide +kernel
theorem dX7_as_47 : decode cX7_as 47 = .ok (.aload_n 0, 1) := by decide +kernel
theorem dX7_as_48 : decode cX7_as 48 = .ok (.iconst 5, 1) := by decide +kernel
theorem dX7_as_49 : decode cX7_as 49 = .ok (.invokevirtual 66, 3) := by decide +kernel
theorem dX7_as_52 : decode cX7_as 52 = .ok (.ireturn, 1) := by decide +kernel
theorem dX7_as_53 : decode cX7_as 53 = .ok (.aload_n 0, 1) := by decide +kernel
theorem dX7_as_54 : decode cX7_as 54 = .ok (.getfield 10, 3) := by decide +kernel
theorem dX7_as_57 : decode cX7_as 57 = .ok (.getfield 70, 3) := by decide +kernel
theorem dX7_as_60 : decode cX7_as 60 = .ok (.getfield 84, 3) := by decide +kernel
theorem dX7_as_63 : decode cX7_as 63 = .ok (.iload_n 3, 1) := by decide +kernel
theorem dX7_as_64 : decode cX7_as 64 = .ok (.aaload, 1) := by decide +kernel
theorem dX7_as_65 : decode cX7_as 65 = .ok (.getfield 88, 3) := by decide +kernel
theorem dX7_as_68 : decode cX7_as 68 = .ok (.iload_n 2, 1) := by decide +kernel
theorem dX7_as_69 : decode cX7_as 69 = .ok (.invokestatic 266, 3) := by decide +kernel
theorem dX7_as_72 : decode cX7_as 72 = .ok (.ifCond .eq 7, 3) := by decide +kernel
theorem dX7_as_75 : decode cX7_as 75 = .ok (.iload_n 3, 1) := by decide +kernel
theorem dX7_as_76 : decode cX7_as 76 = .ok (.goto 8, 3) := by decide +kernel
theorem dX7_as_79 : decode cX7_as 79 = .ok (.aload_n 0, 1) := by decide +kernel
theorem dX7_as_80 : decode cX7_as 80 = .ok (.iconst 2, 1) := by decide +kernel
theorem dX7_as_81 : decode cX7_as 81 = .ok (.invokevirtual 66, 3) := by decide +kernel
theorem dX7_as_84 : decode cX7_as 84 = .ok (.ireturn, 1) := by decide +kernel
theorem dX7_sheet_0 : decode cX7_sheet 0 = .ok (.iload_n 1, 1) := by decide +kernel
theorem dX7_sheet_1 : decode cX7_sheet 1 = .ok (.invokestatic 269, 3) := by decide +kernel
theorem dX7_sheet_4 : decode cX7_sheet 4 = .ok (.ifCond .eq 25, 3) := by decide +kernel
theorem dX7_sheet_7 : decode cX7_sheet 7 = .ok (.iload_n 2, 1) := by decide +kernel
theorem dX7_sheet_8 : decode cX7_sheet 8 = .ok (.ifCond .eq 27, 3) := by decide +kernel
theorem dX7_sheet_11 : decode cX7_sheet 11 = .ok (.iload_n 2, 1) := by decide +kernel
theorem dX7_sheet_12 : decode cX7_sheet 12 = .ok (.bipush 8, 2) := by decide +kernel
theorem dX7_sheet_14 : decode cX7_sheet 14 = .ok (.if_icmp .eq 21, 3) := by decide +kernel
theorem dX7_sheet_17 : decode cX7_sheet 17 = .ok (.iload_n 2, 1) := by decide +kernel
theorem dX7_sheet_18 : decode cX7_sheet 18 = .ok (.bipush 16, 2) := by decide +kernel
theorem dX7_sheet_20 : decode cX7_sheet 20 = .ok (.if_icmp .eq 15, 3) := by decide +kernel
theorem dX7_sheet_23 : decode cX7_sheet 23 = .ok (.iload_n 2, 1) := by decide +kernel
theorem dX7_sheet_24 : decode cX7_sheet 24 = .ok (.bipush 32, 2) := by decide +kernel
theorem dX7_sheet_26 : decode cX7_sheet 26 = .ok (.if_icmp .eq 9, 3) := by decide +kernel
theorem dX7_sheet_29 : decode cX7_sheet 29 = .ok (.aload_n 0, 1) := by decide +kernel
theorem dX7_sheet_30 : decode cX7_sheet 30 = .ok (.iconst 0, 1) := by decide +kernel
theorem dX7_sheet_31 : decode cX7_sheet 31 = .ok (.invokevirtual 66, 3) := by decide +kernel
theorem dX7_sheet_34 : decode cX7_sheet 34 = .ok (.ireturn, 1) := by decide +kernel
theorem dX7_sheet_35 : decode cX7_sheet 35 = .ok (.iload_n 3, 1) := by decide +kernel
theorem dX7_sheet_36 : decode cX7_sheet 36 = .ok (.ifCond .ge 10, 3) := by decide +kernel
theorem dX7_sheet_39 : decode cX7_sheet 39 = .ok (.aload_n 0, 1) := by decide +kernel
theorem dX7_sheet_40 : decode cX7_sheet 40 = .ok (.bipush 6, 2) := by decide +kernel
theorem dX7_sheet_42 : decode cX7_sheet 42 = .ok (.invokevirtual 66, 3) := by decide +kernel
theorem dX7_sheet_45 : decode cX7_sheet 45 = .ok (.ireturn, 1) := by decide +kernel
theorem dX7_sheet_46 : decode cX7_sheet 46 = .ok (.iload_n 3, 1) := by decide +kernel
theorem dX7_sheet_47 : decode cX7_sheet 47 = .ok (.bipush 40, 2) := by decide +kernel
theorem dX7_sheet_49 : decode cX7_sheet 49 = .ok (.if_icmp .le 9, 3) := by decide +kernel
theorem dX7_sheet_52 : decode cX7_sheet 52 = .ok (.aload_n 0, 1) := by decide +kernel
theorem dX7_sheet_53 : decode cX7_sheet 53 = .ok (.iconst 0, 1) := by decide +kernel
theorem dX7_sheet_54 : decode cX7_sheet 54 = .ok (.invokevirtual 66, 3) := by decide +kernel
theorem dX7_sheet_57 : decode cX7_sheet 57 = .ok (.ireturn, 1) := by decide +kernel
theorem dX7_sheet_58 : decode cX7_sheet 58 = .ok (.aload_n 0, 1) := by decide +kernel
theorem dX7_sheet_59 : decode cX7_sheet 59 = .ok (.getfield 46, 3) := by decide +kernel
theorem dX7_sheet_62 : decode cX7_sheet 62 = .ok (.iload_n 1, 1) := by decide +kernel
theorem dX7_sheet_63 : decode cX7_sheet 63 = .ok (.aaload, 1) := by decide +kernel
theorem dX7_sheet_64 : decode cX7_sheet 64 = .ok (.iload_n 2, 1) := by decide +kernel
theorem dX7_sheet_65 : decode cX7_sheet 65 = .ok (.iload_n 3, 1) := by decide +kernel
theorem dX7_sheet_66 : decode cX7_sheet 66 = .ok (.invokevirtual 272, 3) := by decide +kernel
theorem dX7_sheet_69 : decode cX7_sheet 69 = .ok (.aload_n 0, 1) := by decide +kernel
theorem dX7_sheet_70 : decode cX7_sheet 70 = .ok (.getfield 46, 3) := by decide +kernel
theorem dX7_sheet_73 : decode cX7_sheet 73 = .ok (.iload_n 1, 1) := by decide +kernel
theorem dX7_sheet_74 : decode cX7_sheet 74 = .ok (.aaload, 1) := by decide +kernel
theorem dX7_sheet_75 : decode cX7_sheet 75 = .ok (.getfield 274, 3) := by decide +kernel
theorem dX7_sheet_78 : decode cX7_sheet 78 = .ok (.ireturn, 1) := by decide +kernel
theorem dX7_write_0 : decode cX7_write 0 = .ok (.iload_n 1, 1) := by decide +kernel
theorem dX7_write_1 : decode cX7_write 1 = .ok (.invokestatic 269, 3) := by decide +kernel
theorem dX7_write_4 : decode cX7_write 4 = .ok (.ifCond .ne 9, 3) := by decide +kernel
theorem dX7_write_7 : decode cX7_write 7 = .ok (.aload_n 0, 1) := by decide +kernel
theorem dX7_write_8 : decode cX7_write 8 = .ok (.iconst 0, 1) := by decide +kernel
theorem dX7_write_9 : decode cX7_write 9 = .ok (.invokevirtual 66, 3) := by decide +kernel
theorem dX7_write_12 : decode cX7_write 12 = .ok (.ireturn, 1) := by decide +kernel
theorem dX7_write_13 : decode cX7_write 13 = .ok (.aload_n 0, 1) := by decide +kernel
theorem dX7_write_14 : decode cX7_write 14 = .ok (.getfield 46, 3) := by decide +kernel
theorem dX7_write_17 : decode cX7_write 17 = .ok (.iload_n 1, 1) := by decide +kernel
theorem dX7_write_18 : decode cX7_write 18 = .ok (.aaload, 1) := by decide +kernel
theorem dX7_write_19 : decode cX7_write 19 = .ok (.invokevirtual 275, 3) := by decide +kernel
theorem dX7_write_22 : decode cX7_write 22 = .ok (.ifCond .eq 9, 3) := by decide +kernel
theorem dX7_write_25 : decode cX7_write 25 = .ok (.aload_n 0, 1) := by decide +kernel
theorem dX7_write_26 : decode cX7_write 26 = .ok (.iconst 5, 1) := by decide +kernel
theorem dX7_write_27 : decode cX7_write 27 = .ok (.invokevirtual 66, 3) := by decide +kernel
theorem dX7_write_30 : decode cX7_write 30 = .ok (.ireturn, 1) := by decide +kernel
theorem dX7_write_31 : decode cX7_write 31 = .ok (.iload_n 2, 1) := by decide +kernel
theorem dX7_write_32 : decode cX7_write 32 = .ok (.iconst 0, 1) := by decide +kernel
theorem dX7_write_33 : decode cX7_write 33 = .ok (.aload_n 0, 1) := by decide +kernel
theorem dX7_write_34 : decode cX7_write 34 = .ok (.getfield 46, 3) := by decide +kernel
theorem dX7_write_37 : decode cX7_write 37 = .ok (.iload_n 1, 1) := by decide +kernel
theorem dX7_write_38 : decode cX7_write 38 = .ok (.aaload, 1) := by decide +kernel
theorem dX7_write_39 : decode cX7_write 39 = .ok (.getfield 274, 3) := by decide +kernel
theorem dX7_write_42 : decode cX7_write 42 = .ok (.iconst 1, 1) := by decide +kernel
theorem dX7_write_43 : decode cX7_write 43 = .ok (.isub, 1) := by decide +kernel
theorem dX7_write_44 : decode cX7_write 44 = .ok (.invokestatic 62, 3) := by decide +kernel
theorem dX7_write_47 : decode cX7_write 47 = .ok (.ifCond .ne 9, 3) := by decide +kernel
theorem dX7_write_50 : decode cX7_write 50 = .ok (.aload_n 0, 1) := by decide +kernel
theorem dX7_write_51 : decode cX7_write 51 = .ok (.iconst 0, 1) := by decide +kernel
theorem dX7_write_52 : decode cX7_write 52 = .ok (.invokevirtual 66, 3) := by decide +kernel
theorem dX7_write_55 : decode cX7_write 55 = .ok (.ireturn, 1) := by decide +kernel
theorem dX7_write_56 : decode cX7_write 56 = .ok (.aload_n 0, 1) := by decide +kernel
theorem dX7_write_57 : decode cX7_write 57 = .ok (.getfield 46, 3) := by decide +kernel
theorem dX7_write_60 : decode cX7_write 60 = .ok (.iload_n 1, 1) := by decide +kernel
theorem dX7_write_61 : decode cX7_write 61 = .ok (.aaload, 1) := by decide +kernel
theorem dX7_write_62 : decode cX7_write 62 = .ok (.iload_n 2, 1) := by decide +kernel
theorem dX7_write_63 : decode cX7_write 63 = .ok (.iload_n 3, 1) := by decide +kernel
theorem dX7_write_64 : decode cX7_write 64 = .ok (.invokevirtual 278, 3) := by decide +kernel
theorem dX7_write_67 : decode cX7_write 67 = .ok (.iconst 1, 1) := by decide +kernel
theorem dX7_write_68 : decode cX7_write 68 = .ok (.ireturn, 1) := by decide +kernel
theorem dX7_copy_0 : decode cX7_copy 0 = .ok (.iload_n 1, 1) := by decide +kernel
theorem dX7_copy_1 : decode cX7_copy 1 = .ok (.invokestatic 269, 3) := by decide +kernel
theorem dX7_copy_4 : decode cX7_copy 4 = .ok (.ifCond .eq 10, 3) := by decide +kernel
theorem dX7_copy_7 : decode cX7_copy 7 = .ok (.iload_n 3, 1) := by decide +kernel
theorem dX7_copy_8 : decode cX7_copy 8 = .ok (.invokestatic 269, 3) := by decide +kernel
theorem dX7_copy_11 : decode cX7_copy 11 = .ok (.ifCond .ne 9, 3) := by decide +kernel
theorem dX7_copy_14 : decode cX7_copy 14 = .ok (.aload_n 0, 1) := by decide +kernel
theorem dX7_copy_15 : decode cX7_copy 15 = .ok (.iconst 0, 1) := by decide +kernel
theorem dX7_copy_16 : decode cX7_copy 16 = .ok (.invokevirtual 66, 3) := by decide +kernel
theorem dX7_copy_19 : decode cX7_copy 19 = .ok (.ireturn, 1) := by decide +kernel
theorem dX7_copy_20 : decode cX7_copy 20 = .ok (.aload_n 0, 1) := by decide +kernel
theorem dX7_copy_21 : decode cX7_copy 21 = .ok (.getfield 46, 3) := by decide +kernel
theorem dX7_copy_24 : decode cX7_copy 24 = .ok (.iload_n 1, 1) := by decide +kernel
theorem dX7_copy_25 : decode cX7_copy 25 = .ok (.aaload, 1) := by decide +kernel
theorem dX7_copy_26 : decode cX7_copy 26 = .ok (.astore 6, 2) := by decide +kernel
theorem dX7_copy_28 : decode cX7_copy 28 = .ok (.aload_n 0, 1) := by decide +kernel
theorem dX7_copy_29 : decode cX7_copy 29 = .ok (.getfield 46, 3) := by decide +kernel
theorem dX7_copy_32 : decode cX7_copy 32 = .ok (.iload_n 3, 1) := by decide +kernel
theorem dX7_copy_33 : decode cX7_copy 33 = .ok (.aaload, 1) := by decide +kernel
theorem dX7_copy_34 : decode cX7_copy 34 = .ok (.astore 7, 2) := by decide +kernel
theorem dX7_copy_36 : decode cX7_copy 36 = .ok (.aload 6, 2) := by decide +kernel
theorem dX7_copy_38 : decode cX7_copy 38 = .ok (.invokevirtual 275, 3) := by decide +kernel
theorem dX7_copy_41 : decode cX7_copy 41 = .ok (.ifCond .ne 11, 3) := by decide +kernel
theorem dX7_copy_44 : decode cX7_copy 44 = .ok (.aload 7, 2) := by decide +kernel
theorem dX7_copy_46 : decode cX7_copy 46 = .ok (.invokevirtual 275, 3) := by decide +kernel
theorem dX7_copy_49 : decode cX7_copy 49 = .ok (.ifCond .eq 9, 3) := by decide +kernel
theorem dX7_copy_52 : decode cX7_copy 52 = .ok (.aload_n 0, 1) := by decide +kernel
theorem dX7_copy_53 : decode cX7_copy 53 = .ok (.iconst 5, 1) := by decide +kernel
theorem dX7_copy_54 : decode cX7_copy 54 = .ok (.invokevirtual 66, 3) := by decide +kernel
theorem dX7_copy_57 : decode cX7_copy 57 = .ok (.ireturn, 1) := by decide +kernel
theorem dX7_copy_58 : decode cX7_copy 58 = .ok (.aload 6, 2) := by decide +kernel
theorem dX7_copy_60 : decode cX7_copy 60 = .ok (.getfield 281, 3) := by decide +kernel
theorem dX7_copy_63 : decode cX7_copy 63 = .ok (.aload 7, 2) := by decide +kernel
theorem dX7_copy_65 : decode cX7_copy 65 = .ok (.getfield 281, 3) := by decide +kernel
theorem dX7_copy_68 : decode cX7_copy 68 = .ok (.if_icmp .eq 9, 3) := by decide +kernel
theorem dX7_copy_71 : decode cX7_copy 71 = .ok (.aload_n 0, 1) := by decide +kernel
theorem dX7_copy_72 : decode cX7_copy 72 = .ok (.iconst 2, 1) := by decide +kernel
theorem dX7_copy_73 : decode cX7_copy 73 = .ok (.invokevirtual 66, 3) := by decide +kernel
theorem dX7_copy_76 : decode cX7_copy 76 = .ok (.ireturn, 1) := by decide +kernel
theorem dX7_copy_77 : decode cX7_copy 77 = .ok (.aload 6, 2) := by decide +kernel
theorem dX7_copy_79 : decode cX7_copy 79 = .ok (.iload_n 2, 1) := by decide +kernel
theorem dX7_copy_80 : decode cX7_copy 80 = .ok (.iload 5, 2) := by decide +kernel
theorem dX7_copy_82 : decode cX7_copy 82 = .ok (.invokevirtual 284, 3) := by decide +kernel
theorem dX7_copy_85 : decode cX7_copy 85 = .ok (.ifCond .eq 15, 3) := by decide +kernel
theorem dX7_copy_88 : decode cX7_copy 88 = .ok (.aload 7, 2) := by decide +kernel
theorem dX7_copy_90 : decode cX7_copy 90 = .ok (.iload 4, 2) := by decide +kernel
theorem dX7_copy_92 : decode cX7_copy 92 = .ok (.iload 5, 2) := by decide +kernel
theorem dX7_copy_94 : decode cX7_copy 94 = .ok (.invokevirtual 284, 3) := by decide +kernel
theorem dX7_copy_97 : decode cX7_copy 97 = .ok (.ifCond .ne 9, 3) := by decide +kernel
theorem dX7_copy_100 : decode cX7_copy 100 = .ok (.aload_n 0, 1) := by decide +kernel
theorem dX7_copy_101 : decode cX7_copy 101 = .ok (.iconst 0, 1) := by decide +kernel
theorem dX7_copy_102 : decode cX7_copy 102 = .ok (.invokevirtual 66, 3) := by decide +kernel
theorem dX7_copy_105 : decode cX7_copy 105 = .ok (.ireturn, 1) := by decide +kernel
theorem dX7_copy_106 : decode cX7_copy 106 = .ok (.aload 6, 2) := by decide +kernel
theorem dX7_copy_108 : decode cX7_copy 108 = .ok (.getfield 287, 3) := by decide +kernel
theorem dX7_copy_111 : decode cX7_copy 111 = .ok (.iload_n 2, 1) := by decide +kernel
theorem dX7_copy_112 : decode cX7_copy 112 = .ok (.aload 7, 2) := by decide +kernel
theorem dX7_copy_114 : decode cX7_copy 114 = .ok (.getfield 287, 3) := by decide +kernel
theorem dX7_copy_117 : decode cX7_copy 117 = .ok (.iload 4, 2) := by decide +kernel
theorem dX7_copy_119 : decode cX7_copy 119 = .ok (.iload 5, 2) := by decide +kernel
theorem dX7_copy_121 : decode cX7_copy 121 = .ok (.invokestatic 290, 3) := by decide +kernel
theorem dX7_copy_124 : decode cX7_copy 124 = .ok (.iload 5, 2) := by decide +kernel
theorem dX7_copy_126 : decode cX7_copy 126 = .ok (.ireturn, 1) := by decide +kernel
theorem dX7_load_0 : decode cX7_load 0 = .ok (.iload_n 1, 1) := by decide +kernel
theorem dX7_load_1 : decode cX7_load 1 = .ok (.invokestatic 269, 3) := by decide +kernel
theorem dX7_load_4 : decode cX7_load 4 = .ok (.ifCond .ne 9, 3) := by decide +kernel
theorem dX7_load_7 : decode cX7_load 7 = .ok (.aload_n 0, 1) := by decide +kernel
theorem dX7_load_8 : decode cX7_load 8 = .ok (.iconst 0, 1) := by decide +kernel
theorem dX7_load_9 : decode cX7_load 9 = .ok (.invokevirtual 66, 3) := by decide +kernel
theorem dX7_load_12 : decode cX7_load 12 = .ok (.ireturn, 1) := by decide +kernel
theorem dX7_load_13 : decode cX7_load 13 = .ok (.aload_n 0, 1) := by decide +kernel
theorem dX7_load_14 : decode cX7_load 14 = .ok (.getfield 46, 3) := by decide +kernel
theorem dX7_load_17 : decode cX7_load 17 = .ok (.iload_n 1, 1) := by decide +kernel
theorem dX7_load_18 : decode cX7_load 18 = .ok (.aaload, 1) := by decide +kernel
theorem dX7_load_19 : decode cX7_load 19 = .ok (.invokevirtual 275, 3) := by decide +kernel
theorem dX7_load_22 : decode cX7_load 22 = .ok (.ifCond .eq 9, 3) := by decide +kernel
theorem dX7_load_25 : decode cX7_load 25 = .ok (.aload_n 0, 1) := by decide +kernel
theorem dX7_load_26 : decode cX7_load 26 = .ok (.iconst 5, 1) := by decide +kernel
theorem dX7_load_27 : decode cX7_load 27 = .ok (.invokevirtual 66, 3) := by decide +kernel
theorem dX7_load_30 : decode cX7_load 30 = .ok (.ireturn, 1) := by decide +kernel
theorem dX7_load_31 : decode cX7_load 31 = .ok (.iconst 0, 1) := by decide +kernel
theorem dX7_load_32 : decode cX7_load 32 = .ok (.istore_n 2, 1) := by decide +kernel
theorem dX7_load_33 : decode cX7_load 33 = .ok (.iload_n 2, 1) := by decide +kernel
theorem dX7_load_34 : decode cX7_load 34 = .ok (.aload_n 0, 1) := by decide +kernel
theorem dX7_load_35 : decode cX7_load 35 = .ok (.getfield 46, 3) := by decide +kernel
theorem dX7_load_38 : decode cX7_load 38 = .ok (.iload_n 1, 1) := by decide +kernel
theorem dX7_load_39 : decode cX7_load 39 = .ok (.aaload, 1) := by decide +kernel
theorem dX7_load_40 : decode cX7_load 40 = .ok (.getfield 274, 3) := by decide +kernel
theorem dX7_load_43 : decode cX7_load 43 = .ok (.if_icmp .ge 58, 3) := by decide +kernel
theorem dX7_load_46 : decode cX7_load 46 = .ok (.iload_n 2, 1) := by decide +kernel
theorem dX7_load_47 : decode cX7_load 47 = .ok (.bipush 12, 2) := by decide +kernel
theorem dX7_load_49 : decode cX7_load 49 = .ok (.if_icmp .ge 52, 3) := by decide +kernel
theorem dX7_load_52 : decode cX7_load 52 = .ok (.aload_n 0, 1) := by decide +kernel
theorem dX7_load_53 : decode cX7_load 53 = .ok (.getfield 46, 3) := by decide +kernel
theorem dX7_load_56 : decode cX7_load 56 = .ok (.iload_n 1, 1) := by decide +kernel
theorem dX7_load_57 : decode cX7_load 57 = .ok (.aaload, 1) := by decide +kernel
theorem dX7_load_58 : decode cX7_load 58 = .ok (.getfield 287, 3) := by decide +kernel
theorem dX7_load_61 : decode cX7_load 61 = .ok (.iload_n 2, 1) := by decide +kernel
theorem dX7_load_62 : decode cX7_load 62 = .ok (.iaload, 1) := by decide +kernel
theorem dX7_load_63 : decode cX7_load 63 = .ok (.iconst 0, 1) := by decide +kernel
theorem dX7_load_64 : decode cX7_load 64 = .ok (.bipush 9, 2) := by decide +kernel
theorem dX7_load_66 : decode cX7_load 66 = .ok (.invokestatic 62, 3) := by decide +kernel
theorem dX7_load_69 : decode cX7_load 69 = .ok (.ifCond .eq 32, 3) := by decide +kernel
theorem dX7_load_72 : decode cX7_load 72 = .ok (.aload_n 0, 1) := by decide +kernel
theorem dX7_load_73 : decode cX7_load 73 = .ok (.getfield 10, 3) := by decide +kernel
theorem dX7_load_76 : decode cX7_load 76 = .ok (.getfield 70, 3) := by decide +kernel
theorem dX7_load_79 : decode cX7_load 79 = .ok (.getfield 129, 3) := by decide +kernel
theorem dX7_load_82 : decode cX7_load 82 = .ok (.iload_n 2, 1) := by decide +kernel
theorem dX7_load_83 : decode cX7_load 83 = .ok (.aload_n 0, 1) := by decide +kernel
theorem dX7_load_84 : decode cX7_load 84 = .ok (.getfield 46, 3) := by decide +kernel
theorem dX7_load_87 : decode cX7_load 87 = .ok (.iload_n 1, 1) := by decide +kernel
theorem dX7_load_88 : decode cX7_load 88 = .ok (.aaload, 1) := by decide +kernel
theorem dX7_load_89 : decode cX7_load 89 = .ok (.getfield 287, 3) := by decide +kernel
theorem dX7_load_92 : decode cX7_load 92 = .ok (.iload_n 2, 1) := by decide +kernel
theorem dX7_load_93 : decode cX7_load 93 = .ok (.iaload, 1) := by decide +kernel
theorem dX7_load_94 : decode cX7_load 94 = .ok (.iastore, 1) := by decide +kernel
theorem dX7_load_95 : decode cX7_load 95 = .ok (.iinc 2 1, 3) := by decide +kernel
theorem dX7_load_98 : decode cX7_load 98 = .ok (.goto (-65), 3) := by decide +kernel
theorem dX7_load_101 : decode cX7_load 101 = .ok (.iload_n 2, 1) := by decide +kernel
theorem dX7_load_102 : decode cX7_load 102 = .ok (.ireturn, 1) := by decide +kernel
theorem dX7_judge_0 : decode cX7_judge 0 = .ok (.iload_n 1, 1) := by decide +kernel
theorem dX7_judge_1 : decode cX7_judge 1 = .ok (.invokestatic 269, 3) := by decide +kernel
theorem dX7_judge_4 : decode cX7_judge 4 = .ok (.ifCond .ne 9, 3) := by decide +kernel
theorem dX7_judge_7 : decode cX7_judge 7 = .ok (.aload_n 0, 1) := by decide +kernel
theorem dX7_judge_8 : decode cX7_judge 8 = .ok (.iconst 0, 1) := by decide +kernel
theorem dX7_judge_9 : decode cX7_judge 9 = .ok (.invokevirtual 66, 3) := by decide +kernel
theorem dX7_judge_12 : decode cX7_judge 12 = .ok (.ireturn, 1) := by decide +kernel
theorem dX7_judge_13 : decode cX7_judge 13 = .ok (.aload_n 0, 1) := by decide +kernel
theorem dX7_judge_14 : decode cX7_judge 14 = .ok (.getfield 46, 3) := by decide +kernel
theorem dX7_judge_17 : decode cX7_judge 17 = .ok (.iload_n 1, 1) := by decide +kernel
theorem dX7_judge_18 : decode cX7_judge 18 = .ok (.aaload, 1) := by decide +kernel
theorem dX7_judge_19 : decode cX7_judge 19 = .ok (.invokevirtual 275, 3) := by decide +kernel
theorem dX7_judge_22 : decode cX7_judge 22 = .ok (.ifCond .eq 9, 3) := by decide +kernel
theorem dX7_judge_25 : decode cX7_judge 25 = .ok (.aload_n 0, 1) := by decide +kernel
theorem dX7_judge_26 : decode cX7_judge 26 = .ok (.iconst 5, 1) := by decide +kernel
theorem dX7_judge_27 : decode cX7_judge 27 = .ok (.invokevirtual 66, 3) := by decide +kernel
theorem dX7_judge_30 : decode cX7_judge 30 = .ok (.ireturn, 1) := by decide +kernel
theorem dX7_judge_31 : decode cX7_judge 31 = .ok (.aload_n 0, 1) := by decide +kernel
theorem dX7_judge_32 : decode cX7_judge 32 = .ok (.getfield 10, 3) := by decide +kernel
theorem dX7_judge_35 : decode cX7_judge 35 = .ok (.getfield 70, 3) := by decide +kernel
theorem dX7_judge_38 : decode cX7_judge 38 = .ok (.astore_n 2, 1) := by decide +kernel
theorem dX7_judge_39 : decode cX7_judge 39 = .ok (.aload_n 0, 1) := by decide +kernel
theorem dX7_judge_40 : decode cX7_judge 40 = .ok (.getfield 10, 3) := by decide +kernel
theorem dX7_judge_43 : decode cX7_judge 43 = .ok (.getfield 135, 3) := by decide +kernel
theorem dX7_judge_46 : decode cX7_judge 46 = .ok (.getfield 160, 3) := by decide +kernel
theorem dX7_judge_49 : decode cX7_judge 49 = .ok (.istore_n 3, 1) := by decide +kernel
theorem dX7_judge_50 : decode cX7_judge 50 = .ok (.aload_n 0, 1) := by decide +kernel
theorem dX7_judge_51 : decode cX7_judge 51 = .ok (.getfield 10, 3) := by decide +kernel
theorem dX7_judge_54 : decode cX7_judge 54 = .ok (.getfield 135, 3) := by decide +kernel
theorem dX7_judge_57 : decode cX7_judge 57 = .ok (.getfield 163, 3) := by decide +kernel
theorem dX7_judge_60 : decode cX7_judge 60 = .ok (.istore 4, 2) := by decide +kernel
theorem dX7_judge_62 : decode cX7_judge 62 = .ok (.iconst 0, 1) := by decide +kernel
theorem dX7_judge_63 : decode cX7_judge 63 = .ok (.istore 5, 2) := by decide +kernel
theorem dX7_judge_65 : decode cX7_judge 65 = .ok (.iconst 0, 1) := by decide +kernel
theorem dX7_judge_66 : decode cX7_judge 66 = .ok (.istore 6, 2) := by decide +kernel
theorem dX7_judge_68 : decode cX7_judge 68 = .ok (.iload 6, 2) := by decide +kernel
theorem dX7_judge_70 : decode cX7_judge 70 = .ok (.aload_n 0, 1) := by decide +kernel
theorem dX7_judge_71 : decode cX7_judge 71 = .ok (.getfield 46, 3) := by decide +kernel
theorem dX7_judge_74 : decode cX7_judge 74 = .ok (.iload_n 1, 1) := by decide +kernel
theorem dX7_judge_75 : decode cX7_judge 75 = .ok (.aaload, 1) := by decide +kernel
theorem dX7_judge_76 : decode cX7_judge 76 = .ok (.getfield 274, 3) := by decide +kernel
theorem dX7_judge_79 : decode cX7_judge 79 = .ok (.if_icmp .ge 110, 3) := by decide +kernel
theorem dX7_judge_82 : decode cX7_judge 82 = .ok (.aload_n 0, 1) := by decide +kernel
theorem dX7_judge_83 : decode cX7_judge 83 = .ok (.getfield 46, 3) := by decide +kernel
theorem dX7_judge_86 : decode cX7_judge 86 = .ok (.iload_n 1, 1) := by decide +kernel
theorem dX7_judge_87 : decode cX7_judge 87 = .ok (.aaload, 1) := by decide +kernel
theorem dX7_judge_88 : decode cX7_judge 88 = .ok (.getfield 287, 3) := by decide +kernel
theorem dX7_judge_91 : decode cX7_judge 91 = .ok (.iload 6, 2) := by decide +kernel
theorem dX7_judge_93 : decode cX7_judge 93 = .ok (.iaload, 1) := by decide +kernel
theorem dX7_judge_94 : decode cX7_judge 94 = .ok (.istore 7, 2) := by decide +kernel
theorem dX7_judge_96 : decode cX7_judge 96 = .ok (.iload 7, 2) := by decide +kernel
theorem dX7_judge_98 : decode cX7_judge 98 = .ok (.invokestatic 59, 3) := by decide +kernel
theorem dX7_judge_101 : decode cX7_judge 101 = .ok (.ifCond .eq 13, 3) := by decide +kernel
theorem dX7_judge_104 : decode cX7_judge 104 = .ok (.aload_n 2, 1) := by decide +kernel
theorem dX7_judge_105 : decode cX7_judge 105 = .ok (.iload_n 3, 1) := by decide +kernel
theorem dX7_judge_106 : decode cX7_judge 106 = .ok (.iload 7, 2) := by decide +kernel
theorem dX7_judge_108 : decode cX7_judge 108 = .ok (.invokevirtual 151, 3) := by decide +kernel
theorem dX7_judge_111 : decode cX7_judge 111 = .ok (.goto 4, 3) := by decide +kernel
theorem dX7_judge_114 : decode cX7_judge 114 = .ok (.iconst (-1), 1) := by decide +kernel
theorem dX7_judge_115 : decode cX7_judge 115 = .ok (.istore 8, 2) := by decide +kernel
theorem dX7_judge_117 : decode cX7_judge 117 = .ok (.iload 8, 2) := by decide +kernel
theorem dX7_judge_119 : decode cX7_judge 119 = .ok (.ifCond .ge 9, 3) := by decide +kernel
theorem dX7_judge_122 : decode cX7_judge 122 = .ok (.aload_n 0, 1) := by decide +kernel
theorem dX7_judge_123 : decode cX7_judge 123 = .ok (.iconst 3, 1) := by decide +kernel
theorem dX7_judge_124 : decode cX7_judge 124 = .ok (.invokevirtual 66, 3) := by decide +kernel
theorem dX7_judge_127 : decode cX7_judge 127 = .ok (.ireturn, 1) := by decide +kernel
theorem dX7_judge_128 : decode cX7_judge 128 = .ok (.iload 5, 2) := by decide +kernel
theorem dX7_judge_130 : decode cX7_judge 130 = .ok (.aload_n 2, 1) := by decide +kernel
theorem dX7_judge_131 : decode cX7_judge 131 = .ok (.iload 8, 2) := by decide +kernel
theorem dX7_judge_133 : decode cX7_judge 133 = .ok (.iload 4, 2) := by decide +kernel
theorem dX7_judge_135 : decode cX7_judge 135 = .ok (.aload_n 0, 1) := by decide +kernel
theorem dX7_judge_136 : decode cX7_judge 136 = .ok (.getfield 10, 3) := by decide +kernel
theorem dX7_judge_139 : decode cX7_judge 139 = .ok (.getfield 135, 3) := by decide +kernel
theorem dX7_judge_142 : decode cX7_judge 142 = .ok (.getfield 139, 3) := by decide +kernel
theorem dX7_judge_145 : decode cX7_judge 145 = .ok (.invokevirtual 296, 3) := by decide +kernel
theorem dX7_judge_148 : decode cX7_judge 148 = .ok (.iadd, 1) := by decide +kernel
theorem dX7_judge_149 : decode cX7_judge 149 = .ok (.istore 5, 2) := by decide +kernel
theorem dX7_judge_151 : decode cX7_judge 151 = .ok (.iload 4, 2) := by decide +kernel
theorem dX7_judge_153 : decode cX7_judge 153 = .ok (.aload_n 2, 1) := by decide +kernel
theorem dX7_judge_154 : decode cX7_judge 154 = .ok (.getfield 84, 3) := by decide +kernel
theorem dX7_judge_157 : decode cX7_judge 157 = .ok (.iload 8, 2) := by decide +kernel
theorem dX7_judge_159 : decode cX7_judge 159 = .ok (.aaload, 1) := by decide +kernel
theorem dX7_judge_160 : decode cX7_judge 160 = .ok (.invokevirtual 115, 3) := by decide +kernel
theorem dX7_judge_163 : decode cX7_judge 163 = .ok (.iadd, 1) := by decide +kernel
theorem dX7_judge_164 : decode cX7_judge 164 = .ok (.istore 4, 2) := by decide +kernel
theorem dX7_judge_166 : decode cX7_judge 166 = .ok (.iload 4, 2) := by decide +kernel
theorem dX7_judge_168 : decode cX7_judge 168 = .ok (.sipush 999, 3) := by decide +kernel
theorem dX7_judge_171 : decode cX7_judge 171 = .ok (.if_icmp .le 9, 3) := by decide +kernel
theorem dX7_judge_174 : decode cX7_judge 174 = .ok (.aload_n 0, 1) := by decide +kernel
theorem dX7_judge_175 : decode cX7_judge 175 = .ok (.iconst 4, 1) := by decide +kernel
theorem dX7_judge_176 : decode cX7_judge 176 = .ok (.invokevirtual 66, 3) := by decide +kernel
theorem dX7_judge_179 : decode cX7_judge 179 = .ok (.ireturn, 1) := by decide +kernel
theorem dX7_judge_180 : decode cX7_judge 180 = .ok (.iload 7, 2) := by decide +kernel
theorem dX7_judge_182 : decode cX7_judge 182 = .ok (.istore_n 3, 1) := by decide +kernel
theorem dX7_judge_183 : decode cX7_judge 183 = .ok (.iinc 6 1, 3) := by decide +kernel
theorem dX7_judge_186 : decode cX7_judge 186 = .ok (.goto (-118), 3) := by decide +kernel
theorem dX7_judge_189 : decode cX7_judge 189 = .ok (.iconst 0, 1) := by decide +kernel
theorem dX7_judge_190 : decode cX7_judge 190 = .ok (.aload_n 0, 1) := by decide +kernel
theorem dX7_judge_191 : decode cX7_judge 191 = .ok (.getfield 10, 3) := by decide +kernel
theorem dX7_judge_194 : decode cX7_judge 194 = .ok (.getfield 135, 3) := by decide +kernel
theorem dX7_judge_197 : decode cX7_judge 197 = .ok (.invokevirtual 157, 3) := by decide +kernel
theorem dX7_judge_200 : decode cX7_judge 200 = .ok (.iload 5, 2) := by decide +kernel
theorem dX7_judge_202 : decode cX7_judge 202 = .ok (.isub, 1) := by decide +kernel
theorem dX7_judge_203 : decode cX7_judge 203 = .ok (.invokestatic 106, 3) := by decide +kernel
theorem dX7_judge_206 : decode cX7_judge 206 = .ok (.ireturn, 1) := by decide +kernel
theorem dX7_image_0 : decode cX7_image 0 = .ok (.aload_n 0, 1) := by decide +kernel
theorem dX7_image_1 : decode cX7_image 1 = .ok (.getfield 16, 3) := by decide +kernel
theorem dX7_image_4 : decode cX7_image 4 = .ok (.aload_n 0, 1) := by decide +kernel
theorem dX7_image_5 : decode cX7_image 5 = .ok (.getfield 10, 3) := by decide +kernel
theorem dX7_image_8 : decode cX7_image 8 = .ok (.invokevirtual 299, 3) := by decide +kernel
theorem dX7_image_11 : decode cX7_image 11 = .ok (.aload_n 0, 1) := by decide +kernel
theorem dX7_image_12 : decode cX7_image 12 = .ok (.iconst 1, 1) := by decide +kernel
theorem dX7_image_13 : decode cX7_image 13 = .ok (.putfield 19, 3) := by decide +kernel
theorem dX7_image_16 : decode cX7_image 16 = .ok (.iconst 1, 1) := by decide +kernel
theorem dX7_image_17 : decode cX7_image 17 = .ok (.ireturn, 1) := by decide +kernel
theorem dX7_undo_0 : decode cX7_undo 0 = .ok (.aload_n 0, 1) := by decide +kernel
theorem dX7_undo_1 : decode cX7_undo 1 = .ok (.getfield 19, 3) := by decide +kernel
theorem dX7_undo_4 : decode cX7_undo 4 = .ok (.ifCond .ne 9, 3) := by decide +kernel
theorem dX7_undo_7 : decode cX7_undo 7 = .ok (.aload_n 0, 1) := by decide +kernel
theorem dX7_undo_8 : decode cX7_undo 8 = .ok (.iconst 3, 1) := by decide +kernel
theorem dX7_undo_9 : decode cX7_undo 9 = .ok (.invokevirtual 66, 3) := by decide +kernel
theorem dX7_undo_12 : decode cX7_undo 12 = .ok (.ireturn, 1) := by decide +kernel
theorem dX7_undo_13 : decode cX7_undo 13 = .ok (.aload_n 0, 1) := by decide +kernel
theorem dX7_undo_14 : decode cX7_undo 14 = .ok (.getfield 10, 3) := by decide +kernel
theorem dX7_undo_17 : decode cX7_undo 17 = .ok (.aload_n 0, 1) := by decide +kernel
theorem dX7_undo_18 : decode cX7_undo 18 = .ok (.getfield 16, 3) := by decide +kernel
theorem dX7_undo_21 : decode cX7_undo 21 = .ok (.invokevirtual 299, 3) := by decide +kernel
theorem dX7_undo_24 : decode cX7_undo 24 = .ok (.aload_n 0, 1) := by decide +kernel
theorem dX7_undo_25 : decode cX7_undo 25 = .ok (.getfield 10, 3) := by decide +kernel
theorem dX7_undo_28 : decode cX7_undo 28 = .ok (.getfield 135, 3) := by decide +kernel
theorem dX7_undo_31 : decode cX7_undo 31 = .ok (.getfield 163, 3) := by decide +kernel
theorem dX7_undo_34 : decode cX7_undo 34 = .ok (.ireturn, 1) := by decide +kernel
theorem dX7_tear_0 : decode cX7_tear 0 = .ok (.aload_n 0, 1) := by decide +kernel
theorem dX7_tear_1 : decode cX7_tear 1 = .ok (.getfield 19, 3) := by decide +kernel
theorem dX7_tear_4 : decode cX7_tear 4 = .ok (.ifCond .eq 7, 3) := by decide +kernel
theorem dX7_tear_7 : decode cX7_tear 7 = .ok (.iconst 1, 1) := by decide +kernel
theorem dX7_tear_8 : decode cX7_tear 8 = .ok (.goto 4, 3) := by decide +kernel
theorem dX7_tear_11 : decode cX7_tear 11 = .ok (.iconst 0, 1) := by decide +kernel
theorem dX7_tear_12 : decode cX7_tear 12 = .ok (.istore_n 1, 1) := by decide +kernel
theorem dX7_tear_13 : decode cX7_tear 13 = .ok (.aload_n 0, 1) := by decide +kernel
theorem dX7_tear_14 : decode cX7_tear 14 = .ok (.iconst 0, 1) := by decide +kernel
theorem dX7_tear_15 : decode cX7_tear 15 = .ok (.putfield 19, 3) := by decide +kernel
theorem dX7_tear_18 : decode cX7_tear 18 = .ok (.iload_n 1, 1) := by decide +kernel
theorem dX7_tear_19 : decode cX7_tear 19 = .ok (.ireturn, 1) := by decide +kernel
theorem dX7_count_0 : decode cX7_count 0 = .ok (.iload_n 1, 1) := by decide +kernel
theorem dX7_count_1 : decode cX7_count 1 = .ok (.tableswitch 132 0 7 #[47, 58, 69, 80, 94, 108, 116, 124], 47) := by decide +kernel
theorem dX7_count_48 : decode cX7_count 48 = .ok (.aload_n 0, 1) := by decide +kernel
theorem dX7_count_49 : decode cX7_count 49 = .ok (.getfield 10, 3) := by decide +kernel
theorem dX7_count_52 : decode cX7_count 52 = .ok (.getfield 70, 3) := by decide +kernel
theorem dX7_count_55 : decode cX7_count 55 = .ok (.getfield 231, 3) := by decide +kernel
theorem dX7_count_58 : decode cX7_count 58 = .ok (.ireturn, 1) := by decide +kernel
theorem dX7_count_59 : decode cX7_count 59 = .ok (.aload_n 0, 1) := by decide +kernel
theorem dX7_count_60 : decode cX7_count 60 = .ok (.getfield 10, 3) := by decide +kernel
theorem dX7_count_63 : decode cX7_count 63 = .ok (.getfield 70, 3) := by decide +kernel
theorem dX7_count_66 : decode cX7_count 66 = .ok (.invokevirtual 302, 3) := by decide +kernel
theorem dX7_count_69 : decode cX7_count 69 = .ok (.ireturn, 1) := by decide +kernel
theorem dX7_count_70 : decode cX7_count 70 = .ok (.aload_n 0, 1) := by decide +kernel
theorem dX7_count_71 : decode cX7_count 71 = .ok (.getfield 10, 3) := by decide +kernel
theorem dX7_count_74 : decode cX7_count 74 = .ok (.getfield 70, 3) := by decide +kernel
theorem dX7_count_77 : decode cX7_count 77 = .ok (.invokevirtual 305, 3) := by decide +kernel
theorem dX7_count_80 : decode cX7_count 80 = .ok (.ireturn, 1) := by decide +kernel
theorem dX7_count_81 : decode cX7_count 81 = .ok (.aload_n 0, 1) := by decide +kernel
theorem dX7_count_82 : decode cX7_count 82 = .ok (.getfield 10, 3) := by decide +kernel
theorem dX7_count_85 : decode cX7_count 85 = .ok (.getfield 70, 3) := by decide +kernel
theorem dX7_count_88 : decode cX7_count 88 = .ok (.getfield 129, 3) := by decide +kernel
theorem dX7_count_91 : decode cX7_count 91 = .ok (.invokestatic 241, 3) := by decide +kernel
theorem dX7_count_94 : decode cX7_count 94 = .ok (.ireturn, 1) := by decide +kernel
theorem dX7_count_95 : decode cX7_count 95 = .ok (.aload_n 0, 1) := by decide +kernel
theorem dX7_count_96 : decode cX7_count 96 = .ok (.getfield 10, 3) := by decide +kernel
theorem dX7_count_99 : decode cX7_count 99 = .ok (.getfield 70, 3) := by decide +kernel
theorem dX7_count_102 : decode cX7_count 102 = .ok (.getfield 132, 3) := by decide +kernel
theorem dX7_count_105 : decode cX7_count 105 = .ok (.invokestatic 241, 3) := by decide +kernel
theorem dX7_count_108 : decode cX7_count 108 = .ok (.ireturn, 1) := by decide +kernel
theorem dX7_count_109 : decode cX7_count 109 = .ok (.aload_n 0, 1) := by decide +kernel
theorem dX7_count_110 : decode cX7_count 110 = .ok (.getfield 40, 3) := by decide +kernel
theorem dX7_count_113 : decode cX7_count 113 = .ok (.getfield 254, 3) := by decide +kernel
theorem dX7_count_116 : decode cX7_count 116 = .ok (.ireturn, 1) := by decide +kernel
theorem dX7_count_117 : decode cX7_count 117 = .ok (.aload_n 0, 1) := by decide +kernel
theorem dX7_count_118 : decode cX7_count 118 = .ok (.getfield 10, 3) := by decide +kernel
theorem dX7_count_121 : decode cX7_count 121 = .ok (.getfield 251, 3) := by decide +kernel
theorem dX7_count_124 : decode cX7_count 124 = .ok (.ireturn, 1) := by decide +kernel
theorem dX7_count_125 : decode cX7_count 125 = .ok (.aload_n 0, 1) := by decide +kernel
theorem dX7_count_126 : decode cX7_count 126 = .ok (.getfield 10, 3) := by decide +kernel
theorem dX7_count_129 : decode cX7_count 129 = .ok (.invokevirtual 308, 3) := by decide +kernel
theorem dX7_count_132 : decode cX7_count 132 = .ok (.ireturn, 1) := by decide +kernel
theorem dX7_count_133 : decode cX7_count 133 = .ok (.aload_n 0, 1) := by decide +kernel
theorem dX7_count_134 : decode cX7_count 134 = .ok (.iconst 0, 1) := by decide +kernel
theorem dX7_count_135 : decode cX7_count 135 = .ok (.invokevirtual 66, 3) := by decide +kernel
theorem dX7_count_138 : decode cX7_count 138 = .ok (.ireturn, 1) := by decide +kernel
theorem dX7_status_0 : decode cX7_status 0 = .ok (.iload_n 1, 1) := by decide +kernel
theorem dX7_status_1 : decode cX7_status 1 = .ok (.iconst (-1), 1) := by decide +kernel
theorem dX7_status_2 : decode cX7_status 2 = .ok (.if_icmp .ne 11, 3) := by decide +kernel
theorem dX7_status_5 : decode cX7_status 5 = .ok (.aload_n 0, 1) := by decide +kernel
theorem dX7_status_6 : decode cX7_status 6 = .ok (.getfield 50, 3) := by decide +kernel
theorem dX7_status_9 : decode cX7_status 9 = .ok (.invokestatic 241, 3) := by decide +kernel
theorem dX7_status_12 : decode cX7_status 12 = .ok (.ireturn, 1) := by decide +kernel
theorem dX7_status_13 : decode cX7_status 13 = .ok (.iload_n 1, 1) := by decide +kernel
theorem dX7_status_14 : decode cX7_status 14 = .ok (.iconst 0, 1) := by decide +kernel
theorem dX7_status_15 : decode cX7_status 15 = .ok (.bipush 6, 2) := by decide +kernel
theorem dX7_status_17 : decode cX7_status 17 = .ok (.invokestatic 62, 3) := by decide +kernel
theorem dX7_status_20 : decode cX7_status 20 = .ok (.ifCond .eq 12, 3) := by decide +kernel
theorem dX7_status_23 : decode cX7_status 23 = .ok (.aload_n 0, 1) := by decide +kernel
theorem dX7_status_24 : decode cX7_status 24 = .ok (.getfield 50, 3) := by decide +kernel
theorem dX7_status_27 : decode cX7_status 27 = .ok (.iload_n 1, 1) := by decide +kernel
theorem dX7_status_28 : decode cX7_status 28 = .ok (.iaload, 1) := by decide +kernel
theorem dX7_status_29 : decode cX7_status 29 = .ok (.goto 8, 3) := by decide +kernel
theorem dX7_status_32 : decode cX7_status 32 = .ok (.aload_n 0, 1) := by decide +kernel
theorem dX7_status_33 : decode cX7_status 33 = .ok (.iconst 0, 1) := by decide +kernel
theorem dX7_status_34 : decode cX7_status 34 = .ok (.invokevirtual 66, 3) := by decide +kernel
theorem dX7_status_37 : decode cX7_status 37 = .ok (.ireturn, 1) := by decide +kernel
theorem dX7_finding_0 : decode cX7_finding 0 = .ok (.iload_n 1, 1) := by decide +kernel
theorem dX7_finding_1 : decode cX7_finding 1 = .ok (.iconst 0, 1) := by decide +kernel
theorem dX7_finding_2 : decode cX7_finding 2 = .ok (.bipush 6, 2) := by decide +kernel
theorem dX7_finding_4 : decode cX7_finding 4 = .ok (.invokestatic 62, 3) := by decide +kernel
theorem dX7_finding_7 : decode cX7_finding 7 = .ok (.ifCond .eq 13, 3) := by decide +kernel
theorem dX7_finding_10 : decode cX7_finding 10 = .ok (.aload_n 0, 1) := by decide +kernel
theorem dX7_finding_11 : decode cX7_finding 11 = .ok (.getfield 50, 3) := by decide +kernel
theorem dX7_finding_14 : decode cX7_finding 14 = .ok (.iload_n 1, 1) := by decide +kernel
theorem dX7_finding_15 : decode cX7_finding 15 = .ok (.dup2, 1) := by decide +kernel
theorem dX7_finding_16 : decode cX7_finding 16 = .ok (.iaload, 1) := by decide +kernel
theorem dX7_finding_17 : decode cX7_finding 17 = .ok (.iconst 1, 1) := by decide +kernel
theorem dX7_finding_18 : decode cX7_finding 18 = .ok (.iadd, 1) := by decide +kernel
theorem dX7_finding_19 : decode cX7_finding 19 = .ok (.iastore, 1) := by decide +kernel
theorem dX7_finding_20 : decode cX7_finding 20 = .ok (.ldc_w 311, 3) := by decide +kernel
theorem dX7_finding_23 : decode cX7_finding 23 = .ok (.iload_n 1, 1) := by decide +kernel
theorem dX7_finding_24 : decode cX7_finding 24 = .ok (.isub, 1) := by decide +kernel
theorem dX7_finding_25 : decode cX7_finding 25 = .ok (.ireturn, 1) := by decide +kernel
theorem dX7_isPastPlanning_0 : decode cX7_isPastPlanning 0 = .ok (.aload_n 0, 1) := by decide +kernel
theorem dX7_isPastPlanning_1 : decode cX7_isPastPlanning 1 = .ok (.getfield 10, 3) := by decide +kernel
theorem dX7_isPastPlanning_4 : decode cX7_isPastPlanning 4 = .ok (.getfield 135, 3) := by decide +kernel
theorem dX7_isPastPlanning_7 : decode cX7_isPastPlanning 7 = .ok (.getfield 163, 3) := by decide +kernel
theorem dX7_isPastPlanning_10 : decode cX7_isPastPlanning 10 = .ok (.sipush 700, 3) := by decide +kernel
theorem dX7_isPastPlanning_13 : decode cX7_isPastPlanning 13 = .ok (.if_icmp .le 7, 3) := by decide +kernel
theorem dX7_isPastPlanning_16 : decode cX7_isPastPlanning 16 = .ok (.iconst 1, 1) := by decide +kernel
theorem dX7_isPastPlanning_17 : decode cX7_isPastPlanning 17 = .ok (.goto 4, 3) := by decide +kernel
theorem dX7_isPastPlanning_20 : decode cX7_isPastPlanning 20 = .ok (.iconst 0, 1) := by decide +kernel
theorem dX7_isPastPlanning_21 : decode cX7_isPastPlanning 21 = .ok (.ireturn, 1) := by decide +kernel
theorem dX7_findWays_0 : decode cX7_findWays 0 = .ok (.iload_n 1, 1) := by decide +kernel
theorem dX7_findWays_1 : decode cX7_findWays 1 = .ok (.invokestatic 59, 3) := by decide +kernel
theorem dX7_findWays_4 : decode cX7_findWays 4 = .ok (.ifCond .ne 9, 3) := by decide +kernel
theorem dX7_findWays_7 : decode cX7_findWays 7 = .ok (.aload_n 0, 1) := by decide +kernel
theorem dX7_findWays_8 : decode cX7_findWays 8 = .ok (.iconst 0, 1) := by decide +kernel
theorem dX7_findWays_9 : decode cX7_findWays 9 = .ok (.invokevirtual 66, 3) := by decide +kernel
theorem dX7_findWays_12 : decode cX7_findWays 12 = .ok (.ireturn, 1) := by decide +kernel
theorem dX7_findWays_13 : decode cX7_findWays 13 = .ok (.aload_n 0, 1) := by decide +kernel
theorem dX7_findWays_14 : decode cX7_findWays 14 = .ok (.invokevirtual 212, 3) := by decide +kernel
theorem dX7_findWays_17 : decode cX7_findWays 17 = .ok (.ifCond .eq 9, 3) := by decide +kernel
theorem dX7_findWays_20 : decode cX7_findWays 20 = .ok (.aload_n 0, 1) := by decide +kernel
theorem dX7_findWays_21 : decode cX7_findWays 21 = .ok (.iconst 4, 1) := by decide +kernel
theorem dX7_findWays_22 : decode cX7_findWays 22 = .ok (.invokevirtual 66, 3) := by decide +kernel
theorem dX7_findWays_25 : decode cX7_findWays 25 = .ok (.ireturn, 1) := by decide +kernel
theorem dX7_findWays_26 : decode cX7_findWays 26 = .ok (.aload_n 0, 1) := by decide +kernel
theorem dX7_findWays_27 : decode cX7_findWays 27 = .ok (.iload_n 1, 1) := by decide +kernel
theorem dX7_findWays_28 : decode cX7_findWays 28 = .ok (.invokevirtual 205, 3) := by decide +kernel
theorem dX7_findWays_31 : decode cX7_findWays 31 = .ok (.aload_n 0, 1) := by decide +kernel
theorem dX7_findWays_32 : decode cX7_findWays 32 = .ok (.getfield 33, 3) := by decide +kernel
theorem dX7_findWays_35 : decode cX7_findWays 35 = .ok (.getfield 209, 3) := by decide +kernel
theorem dX7_findWays_38 : decode cX7_findWays 38 = .ok (.ifCond .ne 11, 3) := by decide +kernel
theorem dX7_findWays_41 : decode cX7_findWays 41 = .ok (.aload_n 0, 1) := by decide +kernel
theorem dX7_findWays_42 : decode cX7_findWays 42 = .ok (.iconst 3, 1) := by decide +kernel
theorem dX7_findWays_43 : decode cX7_findWays 43 = .ok (.invokevirtual 66, 3) := by decide +kernel
theorem dX7_findWays_46 : decode cX7_findWays 46 = .ok (.goto 4, 3) := by decide +kernel
theorem dX7_findWays_49 : decode cX7_findWays 49 = .ok (.iconst 0, 1) := by decide +kernel
theorem dX7_findWays_50 : decode cX7_findWays 50 = .ok (.ireturn, 1) := by decide +kernel
theorem dX7_seekWays_0 : decode cX7_seekWays 0 = .ok (.aload_n 0, 1) := by decide +kernel
theorem dX7_seekWays_1 : decode cX7_seekWays 1 = .ok (.getfield 33, 3) := by decide +kernel
theorem dX7_seekWays_4 : decode cX7_seekWays 4 = .ok (.aload_n 0, 1) := by decide +kernel
theorem dX7_seekWays_5 : decode cX7_seekWays 5 = .ok (.getfield 10, 3) := by decide +kernel
theorem dX7_seekWays_8 : decode cX7_seekWays 8 = .ok (.getfield 70, 3) := by decide +kernel
theorem dX7_seekWays_11 : decode cX7_seekWays 11 = .ok (.aload_n 0, 1) := by decide +kernel
theorem dX7_seekWays_12 : decode cX7_seekWays 12 = .ok (.getfield 10, 3) := by decide +kernel
theorem dX7_seekWays_15 : decode cX7_seekWays 15 = .ok (.getfield 135, 3) := by decide +kernel
theorem dX7_seekWays_18 : decode cX7_seekWays 18 = .ok (.aload_n 0, 1) := by decide +kernel
theorem dX7_seekWays_19 : decode cX7_seekWays 19 = .ok (.getfield 10, 3) := by decide +kernel
theorem dX7_seekWays_22 : decode cX7_seekWays 22 = .ok (.getfield 135, 3) := by decide +kernel
theorem dX7_seekWays_25 : decode cX7_seekWays 25 = .ok (.getfield 139, 3) := by decide +kernel
theorem dX7_seekWays_28 : decode cX7_seekWays 28 = .ok (.iconst (-1), 1) := by decide +kernel
theorem dX7_seekWays_29 : decode cX7_seekWays 29 = .ok (.invokevirtual 219, 3) := by decide +kernel
theorem dX7_seekWays_32 : decode cX7_seekWays 32 = .ok (.aload_n 0, 1) := by decide +kernel
theorem dX7_seekWays_33 : decode cX7_seekWays 33 = .ok (.getfield 33, 3) := by decide +kernel
theorem dX7_seekWays_36 : decode cX7_seekWays 36 = .ok (.iload_n 1, 1) := by decide +kernel
theorem dX7_seekWays_37 : decode cX7_seekWays 37 = .ok (.aload_n 0, 1) := by decide +kernel
theorem dX7_seekWays_38 : decode cX7_seekWays 38 = .ok (.getfield 10, 3) := by decide +kernel
theorem dX7_seekWays_41 : decode cX7_seekWays 41 = .ok (.getfield 135, 3) := by decide +kernel
theorem dX7_seekWays_44 : decode cX7_seekWays 44 = .ok (.getfield 163, 3) := by decide +kernel
theorem dX7_seekWays_47 : decode cX7_seekWays 47 = .ok (.invokevirtual 223, 3) := by decide +kernel
theorem dX7_seekWays_50 : decode cX7_seekWays 50 = .ok (.return_, 1) := by decide +kernel
theorem dX7_seekRounds_0 : decode cX7_seekRounds 0 = .ok (.aload_n 0, 1) := by decide +kernel
theorem dX7_seekRounds_1 : decode cX7_seekRounds 1 = .ok (.getfield 33, 3) := by decide +kernel
theorem dX7_seekRounds_4 : decode cX7_seekRounds 4 = .ok (.aload_n 1, 1) := by decide +kernel
theorem dX7_seekRounds_5 : decode cX7_seekRounds 5 = .ok (.aload_n 0, 1) := by decide +kernel
theorem dX7_seekRounds_6 : decode cX7_seekRounds 6 = .ok (.getfield 10, 3) := by decide +kernel
theorem dX7_seekRounds_9 : decode cX7_seekRounds 9 = .ok (.getfield 135, 3) := by decide +kernel
theorem dX7_seekRounds_12 : decode cX7_seekRounds 12 = .ok (.iload_n 2, 1) := by decide +kernel
theorem dX7_seekRounds_13 : decode cX7_seekRounds 13 = .ok (.iload_n 3, 1) := by decide +kernel
theorem dX7_seekRounds_14 : decode cX7_seekRounds 14 = .ok (.invokevirtual 219, 3) := by decide +kernel
theorem dX7_seekRounds_17 : decode cX7_seekRounds 17 = .ok (.aload_n 0, 1) := by decide +kernel
theorem dX7_seekRounds_18 : decode cX7_seekRounds 18 = .ok (.getfield 33, 3) := by decide +kernel
theorem dX7_seekRounds_21 : decode cX7_seekRounds 21 = .ok (.iconst (-1), 1) := by decide +kernel
theorem dX7_seekRounds_22 : decode cX7_seekRounds 22 = .ok (.aload_n 0, 1) := by decide +kernel
theorem dX7_seekRounds_23 : decode cX7_seekRounds 23 = .ok (.getfield 10, 3) := by decide +kernel
theorem dX7_seekRounds_26 : decode cX7_seekRounds 26 = .ok (.getfield 135, 3) := by decide +kernel
theorem dX7_seekRounds_29 : decode cX7_seekRounds 29 = .ok (.getfield 163, 3) := by decide +kernel
theorem dX7_seekRounds_32 : decode cX7_seekRounds 32 = .ok (.invokevirtual 223, 3) := by decide +kernel
theorem dX7_seekRounds_35 : decode cX7_seekRounds 35 = .ok (.return_, 1) := by decide +kernel
theorem dX7_costsIn_0 : decode cX7_costsIn 0 = .ok (.aload_n 0, 1) := by decide +kernel
theorem dX7_costsIn_1 : decode cX7_costsIn 1 = .ok (.getfield 10, 3) := by decide +kernel
theorem dX7_costsIn_4 : decode cX7_costsIn 4 = .ok (.getfield 135, 3) := by decide +kernel
theorem dX7_costsIn_7 : decode cX7_costsIn 7 = .ok (.invokevirtual 157, 3) := by decide +kernel
theorem dX7_costsIn_10 : decode cX7_costsIn 10 = .ok (.aload_n 1, 1) := by decide +kernel
theorem dX7_costsIn_11 : decode cX7_costsIn 11 = .ok (.iload_n 2, 1) := by decide +kernel
theorem dX7_costsIn_12 : decode cX7_costsIn 12 = .ok (.iload_n 3, 1) := by decide +kernel
theorem dX7_costsIn_13 : decode cX7_costsIn 13 = .ok (.aload_n 0, 1) := by decide +kernel
theorem dX7_costsIn_14 : decode cX7_costsIn 14 = .ok (.getfield 10, 3) := by decide +kernel
theorem dX7_costsIn_17 : decode cX7_costsIn 17 = .ok (.getfield 135, 3) := by decide +kernel
theorem dX7_costsIn_20 : decode cX7_costsIn 20 = .ok (.getfield 139, 3) := by decide +kernel
theorem dX7_costsIn_23 : decode cX7_costsIn 23 = .ok (.invokevirtual 296, 3) := by decide +kernel
theorem dX7_costsIn_26 : decode cX7_costsIn 26 = .ok (.invokestatic 100, 3) := by decide +kernel
theorem dX7_costsIn_29 : decode cX7_costsIn 29 = .ok (.ireturn, 1) := by decide +kernel
theorem dX7_isIn_0 : decode cX7_isIn 0 = .ok (.iload_n 0, 1) := by decide +kernel
theorem dX7_isIn_1 : decode cX7_isIn 1 = .ok (.iload_n 1, 1) := by decide +kernel
theorem dX7_isIn_2 : decode cX7_isIn 2 = .ok (.if_icmp .lt 12, 3) := by decide +kernel
theorem dX7_isIn_5 : decode cX7_isIn 5 = .ok (.iload_n 0, 1) := by decide +kernel
theorem dX7_isIn_6 : decode cX7_isIn 6 = .ok (.iload_n 2, 1) := by decide +kernel
theorem dX7_isIn_7 : decode cX7_isIn 7 = .ok (.if_icmp .gt 7, 3) := by decide +kernel
theorem dX7_isIn_10 : decode cX7_isIn 10 = .ok (.iconst 1, 1) := by decide +kernel
theorem dX7_isIn_11 : decode cX7_isIn 11 = .ok (.goto 4, 3) := by decide +kernel
theorem dX7_isIn_14 : decode cX7_isIn 14 = .ok (.iconst 0, 1) := by decide +kernel
theorem dX7_isIn_15 : decode cX7_isIn 15 = .ok (.ireturn, 1) := by decide +kernel
theorem dX7_isCorner_0 : decode cX7_isCorner 0 = .ok (.iload_n 0, 1) := by decide +kernel
theorem dX7_isCorner_1 : decode cX7_isCorner 1 = .ok (.iconst 0, 1) := by decide +kernel
theorem dX7_isCorner_2 : decode cX7_isCorner 2 = .ok (.bipush 7, 2) := by decide +kernel
theorem dX7_isCorner_4 : decode cX7_isCorner 4 = .ok (.invokestatic 62, 3) := by decide +kernel
theorem dX7_isCorner_7 : decode cX7_isCorner 7 = .ok (.ireturn, 1) := by decide +kernel
theorem dX7_isKind_0 : decode cX7_isKind 0 = .ok (.iload_n 0, 1) := by decide +kernel
theorem dX7_isKind_1 : decode cX7_isKind 1 = .ok (.iconst 0, 1) := by decide +kernel
theorem dX7_isKind_2 : decode cX7_isKind 2 = .ok (.bipush 6, 2) := by decide +kernel
theorem dX7_isKind_4 : decode cX7_isKind 4 = .ok (.invokestatic 62, 3) := by decide +kernel
theorem dX7_isKind_7 : decode cX7_isKind 7 = .ok (.ireturn, 1) := by decide +kernel
theorem dX7_isSheet_0 : decode cX7_isSheet 0 = .ok (.iload_n 0, 1) := by decide +kernel
theorem dX7_isSheet_1 : decode cX7_isSheet 1 = .ok (.iconst 0, 1) := by decide +kernel
theorem dX7_isSheet_2 : decode cX7_isSheet 2 = .ok (.iconst 3, 1) := by decide +kernel
theorem dX7_isSheet_3 : decode cX7_isSheet 3 = .ok (.invokestatic 62, 3) := by decide +kernel
theorem dX7_isSheet_6 : decode cX7_isSheet 6 = .ok (.ireturn, 1) := by decide +kernel
theorem dX7_isInSet_0 : decode cX7_isInSet 0 = .ok (.iload_n 0, 1) := by decide +kernel
theorem dX7_isInSet_1 : decode cX7_isInSet 1 = .ok (.iload_n 1, 1) := by decide +kernel
theorem dX7_isInSet_2 : decode cX7_isInSet 2 = .ok (.iushr, 1) := by decide +kernel
theorem dX7_isInSet_3 : decode cX7_isInSet 3 = .ok (.iconst 1, 1) := by decide +kernel
theorem dX7_isInSet_4 : decode cX7_isInSet 4 = .ok (.iand, 1) := by decide +kernel
theorem dX7_isInSet_5 : decode cX7_isInSet 5 = .ok (.ifCond .eq 7, 3) := by decide +kernel
theorem dX7_isInSet_8 : decode cX7_isInSet 8 = .ok (.iconst 1, 1) := by decide +kernel
theorem dX7_isInSet_9 : decode cX7_isInSet 9 = .ok (.goto 4, 3) := by decide +kernel
theorem dX7_isInSet_12 : decode cX7_isInSet 12 = .ok (.iconst 0, 1) := by decide +kernel
theorem dX7_isInSet_13 : decode cX7_isInSet 13 = .ok (.ireturn, 1) := by decide +kernel
theorem dX7_put_0 : decode cX7_put 0 = .ok (.aload_n 0, 1) := by decide +kernel
theorem dX7_put_1 : decode cX7_put 1 = .ok (.iload_n 1, 1) := by decide +kernel
theorem dX7_put_2 : decode cX7_put 2 = .ok (.iaload, 1) := by decide +kernel
theorem dX7_put_3 : decode cX7_put 3 = .ok (.istore_n 3, 1) := by decide +kernel
theorem dX7_put_4 : decode cX7_put 4 = .ok (.aload_n 0, 1) := by decide +kernel
theorem dX7_put_5 : decode cX7_put 5 = .ok (.iload_n 1, 1) := by decide +kernel
theorem dX7_put_6 : decode cX7_put 6 = .ok (.iload_n 2, 1) := by decide +kernel
theorem dX7_put_7 : decode cX7_put 7 = .ok (.iastore, 1) := by decide +kernel
theorem dX7_put_8 : decode cX7_put 8 = .ok (.iload_n 3, 1) := by decide +kernel
theorem dX7_put_9 : decode cX7_put 9 = .ok (.ireturn, 1) := by decide +kernel
theorem dX7_sumOf_0 : decode cX7_sumOf 0 = .ok (.iconst 0, 1) := by decide +kernel
theorem dX7_sumOf_1 : decode cX7_sumOf 1 = .ok (.istore_n 1, 1) := by decide +kernel
theorem dX7_sumOf_2 : decode cX7_sumOf 2 = .ok (.aload_n 0, 1) := by decide +kernel
theorem dX7_sumOf_3 : decode cX7_sumOf 3 = .ok (.astore_n 2, 1) := by decide +kernel
theorem dX7_sumOf_4 : decode cX7_sumOf 4 = .ok (.aload_n 2, 1) := by decide +kernel
theorem dX7_sumOf_5 : decode cX7_sumOf 5 = .ok (.arraylength, 1) := by decide +kernel
theorem dX7_sumOf_6 : decode cX7_sumOf 6 = .ok (.istore_n 3, 1) := by decide +kernel
theorem dX7_sumOf_7 : decode cX7_sumOf 7 = .ok (.iconst 0, 1) := by decide +kernel
theorem dX7_sumOf_8 : decode cX7_sumOf 8 = .ok (.istore 4, 2) := by decide +kernel
theorem dX7_sumOf_10 : decode cX7_sumOf 10 = .ok (.iload 4, 2) := by decide +kernel
theorem dX7_sumOf_12 : decode cX7_sumOf 12 = .ok (.iload_n 3, 1) := by decide +kernel
theorem dX7_sumOf_13 : decode cX7_sumOf 13 = .ok (.if_icmp .ge 20, 3) := by decide +kernel
theorem dX7_sumOf_16 : decode cX7_sumOf 16 = .ok (.aload_n 2, 1) := by decide +kernel
theorem dX7_sumOf_17 : decode cX7_sumOf 17 = .ok (.iload 4, 2) := by decide +kernel
theorem dX7_sumOf_19 : decode cX7_sumOf 19 = .ok (.iaload, 1) := by decide +kernel
theorem dX7_sumOf_20 : decode cX7_sumOf 20 = .ok (.istore 5, 2) := by decide +kernel
theorem dX7_sumOf_22 : decode cX7_sumOf 22 = .ok (.iload_n 1, 1) := by decide +kernel
theorem dX7_sumOf_23 : decode cX7_sumOf 23 = .ok (.iload 5, 2) := by decide +kernel
theorem dX7_sumOf_25 : decode cX7_sumOf 25 = .ok (.iadd, 1) := by decide +kernel
theorem dX7_sumOf_26 : decode cX7_sumOf 26 = .ok (.istore_n 1, 1) := by decide +kernel
theorem dX7_sumOf_27 : decode cX7_sumOf 27 = .ok (.iinc 4 1, 3) := by decide +kernel
theorem dX7_sumOf_30 : decode cX7_sumOf 30 = .ok (.goto (-20), 3) := by decide +kernel
theorem dX7_sumOf_33 : decode cX7_sumOf 33 = .ok (.iload_n 1, 1) := by decide +kernel
theorem dX7_sumOf_34 : decode cX7_sumOf 34 = .ok (.ireturn, 1) := by decide +kernel
theorem dX8_init_0 : decode cX8_init 0 = .ok (.aload_n 0, 1) := by decide +kernel
theorem dX8_init_1 : decode cX8_init 1 = .ok (.invokespecial 1, 3) := by decide +kernel
theorem dX8_init_4 : decode cX8_init 4 = .ok (.aload_n 0, 1) := by decide +kernel
theorem dX8_init_5 : decode cX8_init 5 = .ok (.bipush 123, 2) := by decide +kernel
theorem dX8_init_7 : decode cX8_init 7 = .ok (.newarray .int, 2) := by decide +kernel
theorem dX8_init_9 : decode cX8_init 9 = .ok (.putfield 9, 3) := by decide +kernel
theorem dX8_init_12 : decode cX8_init 12 = .ok (.aload_n 0, 1) := by decide +kernel
theorem dX8_init_13 : decode cX8_init 13 = .ok (.bipush 123, 2) := by decide +kernel
theorem dX8_init_15 : decode cX8_init 15 = .ok (.newarray .int, 2) := by decide +kernel
theorem dX8_init_17 : decode cX8_init 17 = .ok (.putfield 13, 3) := by decide +kernel
theorem dX8_init_20 : decode cX8_init 20 = .ok (.aload_n 0, 1) := by decide +kernel
theorem dX8_init_21 : decode cX8_init 21 = .ok (.bipush 123, 2) := by decide +kernel
theorem dX8_init_23 : decode cX8_init 23 = .ok (.newarray .int, 2) := by decide +kernel
theorem dX8_init_25 : decode cX8_init 25 = .ok (.putfield 16, 3) := by decide +kernel
theorem dX8_init_28 : decode cX8_init 28 = .ok (.aload_n 0, 1) := by decide +kernel
theorem dX8_init_29 : decode cX8_init 29 = .ok (.bipush 8, 2) := by decide +kernel
theorem dX8_init_31 : decode cX8_init 31 = .ok (.newarray .int, 2) := by decide +kernel
theorem dX8_init_33 : decode cX8_init 33 = .ok (.putfield 19, 3) := by decide +kernel
theorem dX8_init_36 : decode cX8_init 36 = .ok (.aload_n 0, 1) := by decide +kernel
theorem dX8_init_37 : decode cX8_init 37 = .ok (.iconst (-1), 1) := by decide +kernel
theorem dX8_init_38 : decode cX8_init 38 = .ok (.putfield 22, 3) := by decide +kernel
theorem dX8_init_41 : decode cX8_init 41 = .ok (.aload_n 0, 1) := by decide +kernel
theorem dX8_init_42 : decode cX8_init 42 = .ok (.bipush 72, 2) := by decide +kernel
theorem dX8_init_44 : decode cX8_init 44 = .ok (.newarray .int, 2) := by decide +kernel
theorem dX8_init_46 : decode cX8_init 46 = .ok (.putfield 26, 3) := by decide +kernel
theorem dX8_init_49 : decode cX8_init 49 = .ok (.aload_n 0, 1) := by decide +kernel
theorem dX8_init_50 : decode cX8_init 50 = .ok (.bipush 8, 2) := by decide +kernel
theorem dX8_init_52 : decode cX8_init 52 = .ok (.newarray .int, 2) := by decide +kernel
theorem dX8_init_54 : decode cX8_init 54 = .ok (.putfield 29, 3) := by decide +kernel
theorem dX8_init_57 : decode cX8_init 57 = .ok (.aload_n 0, 1) := by decide +kernel
theorem dX8_init_58 : decode cX8_init 58 = .ok (.bipush 8, 2) := by decide +kernel
theorem dX8_init_60 : decode cX8_init 60 = .ok (.newarray .int, 2) := by decide +kernel
theorem dX8_init_62 : decode cX8_init 62 = .ok (.putfield 32, 3) := by decide +kernel
theorem dX8_init_65 : decode cX8_init 65 = .ok (.aload_n 0, 1) := by decide +kernel
theorem dX8_init_66 : decode cX8_init 66 = .ok (.bipush 120, 2) := by decide +kernel
theorem dX8_init_68 : decode cX8_init 68 = .ok (.newarray .int, 2) := by decide +kernel
theorem dX8_init_70 : decode cX8_init 70 = .ok (.putfield 35, 3) := by decide +kernel
theorem dX8_init_73 : decode cX8_init 73 = .ok (.aload_n 0, 1) := by decide +kernel
theorem dX8_init_74 : decode cX8_init 74 = .ok (.bipush 7, 2) := by decide +kernel
theorem dX8_init_76 : decode cX8_init 76 = .ok (.anewarray 38, 3) := by decide +kernel
theorem dX8_init_79 : decode cX8_init 79 = .ok (.dup, 1) := by decide +kernel
theorem dX8_init_80 : decode cX8_init 80 = .ok (.iconst 0, 1) := by decide +kernel
theorem dX8_init_81 : decode cX8_init 81 = .ok (.ldc 40, 2) := by decide +kernel
theorem dX8_init_83 : decode cX8_init 83 = .ok (.aastore, 1) := by decide +kernel
theorem dX8_init_84 : decode cX8_init 84 = .ok (.dup, 1) := by decide +kernel
theorem dX8_init_85 : decode cX8_init 85 = .ok (.iconst 1, 1) := by decide +kernel
theorem dX8_init_86 : decode cX8_init 86 = .ok (.ldc 42, 2) := by decide +kernel
theorem dX8_init_88 : decode cX8_init 88 = .ok (.aastore, 1) := by decide +kernel
theorem dX8_init_89 : decode cX8_init 89 = .ok (.dup, 1) := by decide +kernel
theorem dX8_init_90 : decode cX8_init 90 = .ok (.iconst 2, 1) := by decide +kernel
theorem dX8_init_91 : decode cX8_init 91 = .ok (.ldc 44, 2) := by decide +kernel
theorem dX8_init_93 : decode cX8_init 93 = .ok (.aastore, 1) := by decide +kernel
theorem dX8_init_94 : decode cX8_init 94 = .ok (.dup, 1) := by decide +kernel
theorem dX8_init_95 : decode cX8_init 95 = .ok (.iconst 3, 1) := by decide +kernel
theorem dX8_init_96 : decode cX8_init 96 = .ok (.ldc 46, 2) := by decide +kernel
theorem dX8_init_98 : decode cX8_init 98 = .ok (.aastore, 1) := by decide +kernel
theorem dX8_init_99 : decode cX8_init 99 = .ok (.dup, 1) := by decide +kernel
theorem dX8_init_100 : decode cX8_init 100 = .ok (.iconst 4, 1) := by decide +kernel
theorem dX8_init_101 : decode cX8_init 101 = .ok (.ldc 48, 2) := by decide +kernel
theorem dX8_init_103 : decode cX8_init 103 = .ok (.aastore, 1) := by decide +kernel
theorem dX8_init_104 : decode cX8_init 104 = .ok (.dup, 1) := by decide +kernel
theorem dX8_init_105 : decode cX8_init 105 = .ok (.iconst 5, 1) := by decide +kernel
theorem dX8_init_106 : decode cX8_init 106 = .ok (.ldc 50, 2) := by decide +kernel
theorem dX8_init_108 : decode cX8_init 108 = .ok (.aastore, 1) := by decide +kernel
theorem dX8_init_109 : decode cX8_init 109 = .ok (.dup, 1) := by decide +kernel
theorem dX8_init_110 : decode cX8_init 110 = .ok (.bipush 6, 2) := by decide +kernel
theorem dX8_init_112 : decode cX8_init 112 = .ok (.ldc 52, 2) := by decide +kernel
theorem dX8_init_114 : decode cX8_init 114 = .ok (.aastore, 1) := by decide +kernel
theorem dX8_init_115 : decode cX8_init 115 = .ok (.putfield 54, 3) := by decide +kernel
theorem dX8_init_118 : decode cX8_init 118 = .ok (.aload_n 0, 1) := by decide +kernel
theorem dX8_init_119 : decode cX8_init 119 = .ok (.sipush 1200, 3) := by decide +kernel
theorem dX8_init_122 : decode cX8_init 122 = .ok (.newarray .int, 2) := by decide +kernel
theorem dX8_init_124 : decode cX8_init 124 = .ok (.putfield 58, 3) := by decide +kernel
theorem dX8_init_127 : decode cX8_init 127 = .ok (.aload_n 0, 1) := by decide +kernel
theorem dX8_init_128 : decode cX8_init 128 = .ok (.iconst 4, 1) := by decide +kernel
theorem dX8_init_129 : decode cX8_init 129 = .ok (.newarray .int, 2) := by decide +kernel
theorem dX8_init_131 : decode cX8_init 131 = .ok (.putfield 61, 3) := by decide +kernel
theorem dX8_init_134 : decode cX8_init 134 = .ok (.aload_n 0, 1) := by decide +kernel
theorem dX8_init_135 : decode cX8_init 135 = .ok (.iconst 4, 1) := by decide +kernel
theorem dX8_init_136 : decode cX8_init 136 = .ok (.newarray .int, 2) := by decide +kernel
theorem dX8_init_138 : decode cX8_init 138 = .ok (.putfield 64, 3) := by decide +kernel
theorem dX8_init_141 : decode cX8_init 141 = .ok (.aload_n 0, 1) := by decide +kernel
theorem dX8_init_142 : decode cX8_init 142 = .ok (.sipush 160, 3) := by decide +kernel
theorem dX8_init_145 : decode cX8_init 145 = .ok (.newarray .int, 2) := by decide +kernel
theorem dX8_init_147 : decode cX8_init 147 = .ok (.putfield 67, 3) := by decide +kernel
theorem dX8_init_150 : decode cX8_init 150 = .ok (.aload_n 0, 1) := by decide +kernel
theorem dX8_init_151 : decode cX8_init 151 = .ok (.bipush 40, 2) := by decide +kernel
theorem dX8_init_153 : decode cX8_init 153 = .ok (.newarray .int, 2) := by decide +kernel
theorem dX8_init_155 : decode cX8_init 155 = .ok (.putfield 70, 3) := by decide +kernel
theorem dX8_init_158 : decode cX8_init 158 = .ok (.iconst 0, 1) := by decide +kernel
theorem dX8_init_159 : decode cX8_init 159 = .ok (.istore_n 1, 1) := by decide +kernel
theorem dX8_init_160 : decode cX8_init 160 = .ok (.iload_n 1, 1) := by decide +kernel
theorem dX8_init_161 : decode cX8_init 161 = .ok (.bipush 8, 2) := by decide +kernel
theorem dX8_init_163 : decode cX8_init 163 = .ok (.if_icmp .ge 20, 3) := by decide +kernel
theorem dX8_init_166 : decode cX8_init 166 = .ok (.aload_n 0, 1) := by decide +kernel
theorem dX8_init_167 : decode cX8_init 167 = .ok (.getfield 9, 3) := by decide +kernel
theorem dX8_init_170 : decode cX8_init 170 = .ok (.iconst 0, 1) := by decide +kernel
theorem dX8_init_171 : decode cX8_init 171 = .ok (.iload_n 1, 1) := by decide +kernel
theorem dX8_init_172 : decode cX8_init 172 = .ok (.iadd, 1) := by decide +kernel
theorem dX8_init_173 : decode cX8_init 173 = .ok (.iload_n 1, 1) := by decide +kernel
theorem dX8_init_174 : decode cX8_init 174 = .ok (.iconst 4, 1) := by decide +kernel
theorem dX8_init_175 : decode cX8_init 175 = .ok (.irem, 1) := by decide +kernel
theorem dX8_init_176 : decode cX8_init 176 = .ok (.iastore, 1) := by decide +kernel
theorem dX8_init_177 : decode cX8_init 177 = .ok (.iinc 1 1, 3) := by decide +kernel
theorem dX8_init_180 : decode cX8_init 180 = .ok (.goto (-20), 3) := by decide +kernel
theorem dX8_init_183 : decode cX8_init 183 = .ok (.iconst 0, 1) := by decide +kernel
theorem dX8_init_184 : decode cX8_init 184 = .ok (.istore_n 1, 1) := by decide +kernel
theorem dX8_init_185 : decode cX8_init 185 = .ok (.iload_n 1, 1) := by decide +kernel
theorem dX8_init_186 : decode cX8_init 186 = .ok (.bipush 12, 2) := by decide +kernel
theorem dX8_init_188 : decode cX8_init 188 = .ok (.if_icmp .ge 19, 3) := by decide +kernel
theorem dX8_init_191 : decode cX8_init 191 = .ok (.aload_n 0, 1) := by decide +kernel
theorem dX8_init_192 : decode cX8_init 192 = .ok (.getfield 9, 3) := by decide +kernel
theorem dX8_init_195 : decode cX8_init 195 = .ok (.bipush 20, 2) := by decide +kernel
theorem dX8_init_197 : decode cX8_init 197 = .ok (.iload_n 1, 1) := by decide +kernel
theorem dX8_init_198 : decode cX8_init 198 = .ok (.iadd, 1) := by decide +kernel
theorem dX8_init_199 : decode cX8_init 199 = .ok (.iconst 3, 1) := by decide +kernel
theorem dX8_init_200 : decode cX8_init 200 = .ok (.iastore, 1) := by decide +kernel
theorem dX8_init_201 : decode cX8_init 201 = .ok (.iinc 1 1, 3) := by decide +kernel
theorem dX8_init_204 : decode cX8_init 204 = .ok (.goto (-19), 3) := by decide +kernel
theorem dX8_init_207 : decode cX8_init 207 = .ok (.aload_n 0, 1) := by decide +kernel
theorem dX8_init_208 : decode cX8_init 208 = .ok (.getfield 9, 3) := by decide +kernel
theorem dX8_init_211 : decode cX8_init 211 = .ok (.bipush 45, 2) := by decide +kernel
theorem dX8_init_213 : decode cX8_init 213 = .ok (.bipush 100, 2) := by decide +kernel
theorem dX8_init_215 : decode cX8_init 215 = .ok (.iastore, 1) := by decide +kernel
theorem dX8_init_216 : decode cX8_init 216 = .ok (.aload_n 0, 1) := by decide +kernel
theorem dX8_init_217 : decode cX8_init 217 = .ok (.getfield 9, 3) := by decide +kernel
theorem dX8_init_220 : decode cX8_init 220 = .ok (.bipush 46, 2) := by decide +kernel
theorem dX8_init_222 : decode cX8_init 222 = .ok (.sipush 200, 3) := by decide +kernel
theorem dX8_init_225 : decode cX8_init 225 = .ok (.iastore, 1) := by decide +kernel
theorem dX8_init_226 : decode cX8_init 226 = .ok (.aload_n 0, 1) := by decide +kernel
theorem dX8_init_227 : decode cX8_init 227 = .ok (.getfield 9, 3) := by decide +kernel
theorem dX8_init_230 : decode cX8_init 230 = .ok (.bipush 47, 2) := by decide +kernel
theorem dX8_init_232 : decode cX8_init 232 = .ok (.sipush 200, 3) := by decide +kernel
theorem dX8_init_235 : decode cX8_init 235 = .ok (.iastore, 1) := by decide +kernel
theorem dX8_init_236 : decode cX8_init 236 = .ok (.aload_n 0, 1) := by decide +kernel
theorem dX8_init_237 : decode cX8_init 237 = .ok (.getfield 9, 3) := by decide +kernel
theorem dX8_init_240 : decode cX8_init 240 = .ok (.bipush 48, 2) := by decide +kernel
theorem dX8_init_242 : decode cX8_init 242 = .ok (.sipush 500, 3) := by decide +kernel
theorem dX8_init_245 : decode cX8_init 245 = .ok (.iastore, 1) := by decide +kernel
theorem dX8_init_246 : decode cX8_init 246 = .ok (.aload_n 0, 1) := by decide +kernel
theorem dX8_init_247 : decode cX8_init 247 = .ok (.getfield 9, 3) := by decide +kernel
theorem dX8_init_250 : decode cX8_init 250 = .ok (.bipush 9, 2) := by decide +kernel
theorem dX8_init_252 : decode cX8_init 252 = .ok (.iconst 1, 1) := by decide +kernel
theorem dX8_init_253 : decode cX8_init 253 = .ok (.iastore, 1) := by decide +kernel
theorem dX8_init_254 : decode cX8_init 254 = .ok (.iconst 0, 1) := by decide +kernel
theorem dX8_init_255 : decode cX8_init 255 = .ok (.istore_n 1, 1) := by decide +kernel
theorem dX8_init_256 : decode cX8_init 256 = .ok (.iload_n 1, 1) := by decide +kernel
theorem dX8_init_257 : decode cX8_init 257 = .ok (.bipush 10, 2) := by decide +kernel
theorem dX8_init_259 : decode cX8_init 259 = .ok (.if_icmp .ge 19, 3) := by decide +kernel
theorem dX8_init_262 : decode cX8_init 262 = .ok (.aload_n 0, 1) := by decide +kernel
theorem dX8_init_263 : decode cX8_init 263 = .ok (.getfield 9, 3) := by decide +kernel
theorem dX8_init_266 : decode cX8_init 266 = .ok (.bipush 10, 2) := by decide +kernel
theorem dX8_init_268 : decode cX8_init 268 = .ok (.iload_n 1, 1) := by decide +kernel
theorem dX8_init_269 : decode cX8_init 269 = .ok (.iadd, 1) := by decide +kernel
theorem dX8_init_270 : decode cX8_init 270 = .ok (.iconst (-1), 1) := by decide +kernel
theorem dX8_init_271 : decode cX8_init 271 = .ok (.iastore, 1) := by decide +kernel
theorem dX8_init_272 : decode cX8_init 272 = .ok (.iinc 1 1, 3) := by decide +kernel
theorem dX8_init_275 : decode cX8_init 275 = .ok (.goto (-19), 3) := by decide +kernel
theorem dX8_init_278 : decode cX8_init 278 = .ok (.return_, 1) := by decide +kernel
theorem dX8_finding_0 : decode cX8_finding 0 = .ok (.aload_n 0, 1) := by decide +kernel
theorem dX8_finding_1 : decode cX8_finding 1 = .ok (.getfield 19, 3) := by decide +kernel
theorem dX8_finding_4 : decode cX8_finding 4 = .ok (.ldc 73, 2) := by decide +kernel
theorem dX8_finding_6 : decode cX8_finding 6 = .ok (.iload_n 1, 1) := by decide +kernel
theorem dX8_finding_7 : decode cX8_finding 7 = .ok (.isub, 1) := by decide +kernel
theorem dX8_finding_8 : decode cX8_finding 8 = .ok (.iconst 1, 1) := by decide +kernel
theorem dX8_finding_9 : decode cX8_finding 9 = .ok (.iadd, 1) := by decide +kernel
theorem dX8_finding_10 : decode cX8_finding 10 = .ok (.dup2, 1) := by decide +kernel
theorem dX8_finding_11 : decode cX8_finding 11 = .ok (.iaload, 1) := by decide +kernel
theorem dX8_finding_12 : decode cX8_finding 12 = .ok (.iconst 1, 1) := by decide +kernel
theorem dX8_finding_13 : decode cX8_finding 13 = .ok (.iadd, 1) := by decide +kernel
theorem dX8_finding_14 : decode cX8_finding 14 = .ok (.iastore, 1) := by decide +kernel
theorem dX8_finding_15 : decode cX8_finding 15 = .ok (.aload_n 0, 1) := by decide +kernel
theorem dX8_finding_16 : decode cX8_finding 16 = .ok (.getfield 19, 3) := by decide +kernel
theorem dX8_finding_19 : decode cX8_finding 19 = .ok (.iconst 0, 1) := by decide +kernel
theorem dX8_finding_20 : decode cX8_finding 20 = .ok (.dup2, 1) := by decide +kernel
theorem dX8_finding_21 : decode cX8_finding 21 = .ok (.iaload, 1) := by decide +kernel
theorem dX8_finding_22 : decode cX8_finding 22 = .ok (.iconst 1, 1) := by decide +kernel
theorem dX8_finding_23 : decode cX8_finding 23 = .ok (.iadd, 1) := by decide +kernel
theorem dX8_finding_24 : decode cX8_finding 24 = .ok (.iastore, 1) := by decide +kernel
theorem dX8_finding_25 : decode cX8_finding 25 = .ok (.iload_n 1, 1) := by decide +kernel
theorem dX8_finding_26 : decode cX8_finding 26 = .ok (.ireturn, 1) := by decide +kernel
theorem dX8_within_0 : decode cX8_within 0 = .ok (.iload_n 0, 1) := by decide +kernel
theorem dX8_within_1 : decode cX8_within 1 = .ok (.iload_n 1, 1) := by decide +kernel
theorem dX8_within_2 : decode cX8_within 2 = .ok (.if_icmp .lt 12, 3) := by decide +kernel
theorem dX8_within_5 : decode cX8_within 5 = .ok (.iload_n 0, 1) := by decide +kernel
theorem dX8_within_6 : decode cX8_within 6 = .ok (.iload_n 2, 1) := by decide +kernel
theorem dX8_within_7 : decode cX8_within 7 = .ok (.if_icmp .gt 7, 3) := by decide +kernel
theorem dX8_within_10 : decode cX8_within 10 = .ok (.iconst 1, 1) := by decide +kernel
theorem dX8_within_11 : decode cX8_within 11 = .ok (.goto 4, 3) := by decide +kernel
theorem dX8_within_14 : decode cX8_within 14 = .ok (.iconst 0, 1) := by decide +kernel
theorem dX8_within_15 : decode cX8_within 15 = .ok (.ireturn, 1) := by decide +kernel
theorem dX8_become_0 : decode cX8_become 0 = .ok (.aload_n 0, 1) := by decide +kernel
theorem dX8_become_1 : decode cX8_become 1 = .ok (.getfield 9, 3) := by decide +kernel
theorem dX8_become_4 : decode cX8_become 4 = .ok (.iload_n 1, 1) := by decide +kernel
theorem dX8_become_5 : decode cX8_become 5 = .ok (.iaload, 1) := by decide +kernel
theorem dX8_become_6 : decode cX8_become 6 = .ok (.istore_n 3, 1) := by decide +kernel
theorem dX8_become_7 : decode cX8_become 7 = .ok (.aload_n 0, 1) := by decide +kernel
theorem dX8_become_8 : decode cX8_become 8 = .ok (.getfield 9, 3) := by decide +kernel
theorem dX8_become_11 : decode cX8_become 11 = .ok (.iload_n 1, 1) := by decide +kernel
theorem dX8_become_12 : decode cX8_become 12 = .ok (.iload_n 2, 1) := by decide +kernel
theorem dX8_become_13 : decode cX8_become 13 = .ok (.iastore, 1) := by decide +kernel
theorem dX8_become_14 : decode cX8_become 14 = .ok (.iload_n 3, 1) := by decide +kernel
theorem dX8_become_15 : decode cX8_become 15 = .ok (.ireturn, 1) := by decide +kernel
theorem dX8_copyRow_0 : decode cX8_copyRow 0 = .ok (.iconst 0, 1) := by decide +kernel
theorem dX8_copyRow_1 : decode cX8_copyRow 1 = .ok (.istore_n 2, 1) := by decide +kernel
theorem dX8_copyRow_2 : decode cX8_copyRow 2 = .ok (.iload_n 2, 1) := by decide +kernel
theorem dX8_copyRow_3 : decode cX8_copyRow 3 = .ok (.bipush 123, 2) := by decide +kernel
theorem dX8_copyRow_5 : decode cX8_copyRow 5 = .ok (.if_icmp .ge 15, 3) := by decide +kernel
theorem dX8_copyRow_8 : decode cX8_copyRow 8 = .ok (.aload_n 1, 1) := by decide +kernel
theorem dX8_copyRow_9 : decode cX8_copyRow 9 = .ok (.iload_n 2, 1) := by decide +kernel
theorem dX8_copyRow_10 : decode cX8_copyRow 10 = .ok (.aload_n 0, 1) := by decide +kernel
theorem dX8_copyRow_11 : decode cX8_copyRow 11 = .ok (.iload_n 2, 1) := by decide +kernel
theorem dX8_copyRow_12 : decode cX8_copyRow 12 = .ok (.iaload, 1) := by decide +kernel
theorem dX8_copyRow_13 : decode cX8_copyRow 13 = .ok (.iastore, 1) := by decide +kernel
theorem dX8_copyRow_14 : decode cX8_copyRow 14 = .ok (.iinc 2 1, 3) := by decide +kernel
theorem dX8_copyRow_17 : decode cX8_copyRow 17 = .ok (.goto (-15), 3) := by decide +kernel
theorem dX8_copyRow_20 : decode cX8_copyRow 20 = .ok (.return_, 1) := by decide +kernel
theorem dX8_putBack_0 : decode cX8_putBack 0 = .ok (.aload_n 0, 1) := by decide +kernel
theorem dX8_putBack_1 : decode cX8_putBack 1 = .ok (.getfield 16, 3) := by decide +kernel
theorem dX8_putBack_4 : decode cX8_putBack 4 = .ok (.aload_n 0, 1) := by decide +kernel
theorem dX8_putBack_5 : decode cX8_putBack 5 = .ok (.getfield 9, 3) := by decide +kernel
theorem dX8_putBack_8 : decode cX8_putBack 8 = .ok (.invokestatic 74, 3) := by decide +kernel
theorem dX8_putBack_11 : decode cX8_putBack 11 = .ok (.iload_n 1, 1) := by decide +kernel
theorem dX8_putBack_12 : decode cX8_putBack 12 = .ok (.ireturn, 1) := by decide +kernel
theorem dX8_has_0 : decode cX8_has 0 = .ok (.iload_n 0, 1) := by decide +kernel
theorem dX8_has_1 : decode cX8_has 1 = .ok (.iload_n 1, 1) := by decide +kernel
theorem dX8_has_2 : decode cX8_has 2 = .ok (.ishr, 1) := by decide +kernel
theorem dX8_has_3 : decode cX8_has 3 = .ok (.iconst 1, 1) := by decide +kernel
theorem dX8_has_4 : decode cX8_has 4 = .ok (.iand, 1) := by decide +kernel
theorem dX8_has_5 : decode cX8_has 5 = .ok (.iconst 1, 1) := by decide +kernel
theorem dX8_has_6 : decode cX8_has 6 = .ok (.if_icmp .ne 7, 3) := by decide +kernel
theorem dX8_has_9 : decode cX8_has 9 = .ok (.iconst 1, 1) := by decide +kernel
theorem dX8_has_10 : decode cX8_has 10 = .ok (.goto 4, 3) := by decide +kernel
theorem dX8_has_13 : decode cX8_has 13 = .ok (.iconst 0, 1) := by decide +kernel
theorem dX8_has_14 : decode cX8_has 14 = .ok (.ireturn, 1) := by decide +kernel
theorem dX8_bits_0 : decode cX8_bits 0 = .ok (.iconst 0, 1) := by decide +kernel
theorem dX8_bits_1 : decode cX8_bits 1 = .ok (.istore_n 1, 1) := by decide +kernel
theorem dX8_bits_2 : decode cX8_bits 2 = .ok (.iload_n 0, 1) := by decide +kernel
theorem dX8_bits_3 : decode cX8_bits 3 = .ok (.istore_n 2, 1) := by decide +kernel
theorem dX8_bits_4 : decode cX8_bits 4 = .ok (.iload_n 2, 1) := by decide +kernel
theorem dX8_bits_5 : decode cX8_bits 5 = .ok (.ifCond .eq 15, 3) := by decide +kernel
theorem dX8_bits_8 : decode cX8_bits 8 = .ok (.iinc 1 1, 3) := by decide +kernel
theorem dX8_bits_11 : decode cX8_bits 11 = .ok (.iload_n 2, 1) := by decide +kernel
theorem dX8_bits_12 : decode cX8_bits 12 = .ok (.iload_n 2, 1) := by decide +kernel
theorem dX8_bits_13 : decode cX8_bits 13 = .ok (.iconst 1, 1) := by decide +kernel
theorem dX8_bits_14 : decode cX8_bits 14 = .ok (.isub, 1) := by decide +kernel
theorem dX8_bits_15 : decode cX8_bits 15 = .ok (.iand, 1) := by decide +kernel
theorem dX8_bits_16 : decode cX8_bits 16 = .ok (.istore_n 2, 1) := by decide +kernel
theorem dX8_bits_17 : decode cX8_bits 17 = .ok (.goto (-13), 3) := by decide +kernel
theorem dX8_bits_20 : decode cX8_bits 20 = .ok (.iload_n 1, 1) := by decide +kernel
theorem dX8_bits_21 : decode cX8_bits 21 = .ok (.ireturn, 1) := by decide +kernel
theorem dX8_isCorner_0 : decode cX8_isCorner 0 = .ok (.iload_n 0, 1) := by decide +kernel
theorem dX8_isCorner_1 : decode cX8_isCorner 1 = .ok (.iconst 0, 1) := by decide +kernel
theorem dX8_isCorner_2 : decode cX8_isCorner 2 = .ok (.bipush 7, 2) := by decide +kernel
theorem dX8_isCorner_4 : decode cX8_isCorner 4 = .ok (.invokestatic 78, 3) := by decide +kernel
theorem dX8_isCorner_7 : decode cX8_isCorner 7 = .ok (.ireturn, 1) := by decide +kernel
theorem dX8_isStreet_0 : decode cX8_isStreet 0 = .ok (.iload_n 1, 1) := by decide +kernel
theorem dX8_isStreet_1 : decode cX8_isStreet 1 = .ok (.iconst 0, 1) := by decide +kernel
theorem dX8_isStreet_2 : decode cX8_isStreet 2 = .ok (.aload_n 0, 1) := by decide +kernel
theorem dX8_isStreet_3 : decode cX8_isStreet 3 = .ok (.getfield 9, 3) := by decide +kernel
theorem dX8_isStreet_6 : decode cX8_isStreet 6 = .ok (.bipush 8, 2) := by decide +kernel
theorem dX8_isStreet_8 : decode cX8_isStreet 8 = .ok (.iaload, 1) := by decide +kernel
theorem dX8_isStreet_9 : decode cX8_isStreet 9 = .ok (.iconst 1, 1) := by decide +kernel
theorem dX8_isStreet_10 : decode cX8_isStreet 10 = .ok (.isub, 1) := by decide +kernel
theorem dX8_isStreet_11 : decode cX8_isStreet 11 = .ok (.invokestatic 78, 3) := by decide +kernel
theorem dX8_isStreet_14 : decode cX8_isStreet 14 = .ok (.ireturn, 1) := by decide +kernel
theorem dX8_isKind_0 : decode cX8_isKind 0 = .ok (.iload_n 0, 1) := by decide +kernel
theorem dX8_isKind_1 : decode cX8_isKind 1 = .ok (.iconst 0, 1) := by decide +kernel
theorem dX8_isKind_2 : decode cX8_isKind 2 = .ok (.bipush 6, 2) := by decide +kernel
theorem dX8_isKind_4 : decode cX8_isKind 4 = .ok (.invokestatic 78, 3) := by decide +kernel
theorem dX8_isKind_7 : decode cX8_isKind 7 = .ok (.ireturn, 1) := by decide +kernel
theorem dX8_at_0 : decode cX8_at 0 = .ok (.bipush 53, 2) := by decide +kernel
theorem dX8_at_2 : decode cX8_at 2 = .ok (.iconst 5, 1) := by decide +kernel
theorem dX8_at_3 : decode cX8_at 3 = .ok (.iload_n 0, 1) := by decide +kernel
theorem dX8_at_4 : decode cX8_at 4 = .ok (.imul, 1) := by decide +kernel
theorem dX8_at_5 : decode cX8_at 5 = .ok (.iadd, 1) := by decide +kernel
theorem dX8_at_6 : decode cX8_at 6 = .ok (.iload_n 1, 1) := by decide +kernel
theorem dX8_at_7 : decode cX8_at 7 = .ok (.iadd, 1) := by decide +kernel
theorem dX8_at_8 : decode cX8_at 8 = .ok (.ireturn, 1) := by decide +kernel
theorem dX8_streetIs_0 : decode cX8_streetIs 0 = .ok (.aload_n 0, 1) := by decide +kernel
theorem dX8_streetIs_1 : decode cX8_streetIs 1 = .ok (.getfield 9, 3) := by decide +kernel
theorem dX8_streetIs_4 : decode cX8_streetIs 4 = .ok (.iload_n 1, 1) := by decide +kernel
theorem dX8_streetIs_5 : decode cX8_streetIs 5 = .ok (.iload_n 2, 1) := by decide +kernel
theorem dX8_streetIs_6 : decode cX8_streetIs 6 = .ok (.invokestatic 82, 3) := by decide +kernel
theorem dX8_streetIs_9 : decode cX8_streetIs 9 = .ok (.iaload, 1) := by decide +kernel
theorem dX8_streetIs_10 : decode cX8_streetIs 10 = .ok (.ireturn, 1) := by decide +kernel
theorem dX8_comes_0 : decode cX8_comes 0 = .ok (.aload_n 0, 1) := by decide +kernel
theorem dX8_comes_1 : decode cX8_comes 1 = .ok (.getfield 9, 3) := by decide +kernel
theorem dX8_comes_4 : decode cX8_comes 4 = .ok (.bipush 8, 2) := by decide +kernel
theorem dX8_comes_6 : decode cX8_comes 6 = .ok (.iaload, 1) := by decide +kernel
theorem dX8_comes_7 : decode cX8_comes 7 = .ok (.istore 6, 2) := by decide +kernel
theorem dX8_comes_9 : decode cX8_comes 9 = .ok (.aload_n 0, 1) := by decide +kernel
theorem dX8_comes_10 : decode cX8_comes 10 = .ok (.getfield 9, 3) := by decide +kernel
theorem dX8_comes_13 : decode cX8_comes 13 = .ok (.iload 6, 2) := by decide +kernel
theorem dX8_comes_15 : decode cX8_comes 15 = .ok (.iconst 0, 1) := by decide +kernel
theorem dX8_comes_16 : decode cX8_comes 16 = .ok (.invokestatic 82, 3) := by decide +kernel
theorem dX8_comes_19 : decode cX8_comes 19 = .ok (.iload_n 1, 1) := by decide +kernel
theorem dX8_comes_20 : decode cX8_comes 20 = .ok (.iastore, 1) := by decide +kernel
theorem dX8_comes_21 : decode cX8_comes 21 = .ok (.aload_n 0, 1) := by decide +kernel
theorem dX8_comes_22 : decode cX8_comes 22 = .ok (.getfield 9, 3) := by decide +kernel
theorem dX8_comes_25 : decode cX8_comes 25 = .ok (.iload 6, 2) := by decide +kernel
theorem dX8_comes_27 : decode cX8_comes 27 = .ok (.iconst 1, 1) := by decide +kernel
theorem dX8_comes_28 : decode cX8_comes 28 = .ok (.invokestatic 82, 3) := by decide +kernel
theorem dX8_comes_31 : decode cX8_comes 31 = .ok (.iload_n 2, 1) := by decide +kernel
theorem dX8_comes_32 : decode cX8_comes 32 = .ok (.iload_n 3, 1) := by decide +kernel
theorem dX8_comes_33 : decode cX8_comes 33 = .ok (.invokestatic 86, 3) := by decide +kernel
theorem dX8_comes_36 : decode cX8_comes 36 = .ok (.iastore, 1) := by decide +kernel
theorem dX8_comes_37 : decode cX8_comes 37 = .ok (.aload_n 0, 1) := by decide +kernel
theorem dX8_comes_38 : decode cX8_comes 38 = .ok (.getfield 9, 3) := by decide +kernel
theorem dX8_comes_41 : decode cX8_comes 41 = .ok (.iload 6, 2) := by decide +kernel
theorem dX8_comes_43 : decode cX8_comes 43 = .ok (.iconst 2, 1) := by decide +kernel
theorem dX8_comes_44 : decode cX8_comes 44 = .ok (.invokestatic 82, 3) := by decide +kernel
theorem dX8_comes_47 : decode cX8_comes 47 = .ok (.iload_n 2, 1) := by decide +kernel
theorem dX8_comes_48 : decode cX8_comes 48 = .ok (.iload_n 3, 1) := by decide +kernel
theorem dX8_comes_49 : decode cX8_comes 49 = .ok (.invokestatic 91, 3) := by decide +kernel
theorem dX8_comes_52 : decode cX8_comes 52 = .ok (.iastore, 1) := by decide +kernel
theorem dX8_comes_53 : decode cX8_comes 53 = .ok (.aload_n 0, 1) := by decide +kernel
theorem dX8_comes_54 : decode cX8_comes 54 = .ok (.getfield 9, 3) := by decide +kernel
theorem dX8_comes_57 : decode cX8_comes 57 = .ok (.iload 6, 2) := by decide +kernel
theorem dX8_comes_59 : decode cX8_comes 59 = .ok (.iconst 3, 1) := by decide +kernel
theorem dX8_comes_60 : decode cX8_comes 60 = .ok (.invokestatic 82, 3) := by decide +kernel
theorem dX8_comes_63 : decode cX8_comes 63 = .ok (.iload 4, 2) := by decide +kernel
theorem dX8_comes_65 : decode cX8_comes 65 = .ok (.iastore, 1) := by decide +kernel
theorem dX8_comes_66 : decode cX8_comes 66 = .ok (.aload_n 0, 1) := by decide +kernel
theorem dX8_comes_67 : decode cX8_comes 67 = .ok (.getfield 9, 3) := by decide +kernel
theorem dX8_comes_70 : decode cX8_comes 70 = .ok (.iload 6, 2) := by decide +kernel
theorem dX8_comes_72 : decode cX8_comes 72 = .ok (.iconst 4, 1) := by decide +kernel
theorem dX8_comes_73 : decode cX8_comes 73 = .ok (.invokestatic 82, 3) := by decide +kernel
theorem dX8_comes_76 : decode cX8_comes 76 = .ok (.iload 5, 2) := by decide +kernel
theorem dX8_comes_78 : decode cX8_comes 78 = .ok (.iastore, 1) := by decide +kernel
theorem dX8_comes_79 : decode cX8_comes 79 = .ok (.aload_n 0, 1) := by decide +kernel
theorem dX8_comes_80 : decode cX8_comes 80 = .ok (.getfield 9, 3) := by decide +kernel
theorem dX8_comes_83 : decode cX8_comes 83 = .ok (.bipush 8, 2) := by decide +kernel
theorem dX8_comes_85 : decode cX8_comes 85 = .ok (.dup2, 1) := by decide +kernel
theorem dX8_comes_86 : decode cX8_comes 86 = .ok (.iaload, 1) := by decide +kernel
theorem dX8_comes_87 : decode cX8_comes 87 = .ok (.iconst 1, 1) := by decide +kernel
theorem dX8_comes_88 : decode cX8_comes 88 = .ok (.iadd, 1) := by decide +kernel
theorem dX8_comes_89 : decode cX8_comes 89 = .ok (.iastore, 1) := by decide +kernel
theorem dX8_comes_90 : decode cX8_comes 90 = .ok (.iload 6, 2) := by decide +kernel
theorem dX8_comes_92 : decode cX8_comes 92 = .ok (.ireturn, 1) := by decide +kernel
theorem dX8_street_0 : decode cX8_street 0 = .ok (.iload_n 1, 1) := by decide +kernel
theorem dX8_street_1 : decode cX8_street 1 = .ok (.invokestatic 94, 3) := by decide +kernel
theorem dX8_street_4 : decode cX8_street 4 = .ok (.ifCond .eq 33, 3) := by decide +kernel
theorem dX8_street_7 : decode cX8_street 7 = .ok (.iload_n 2, 1) := by decide +kernel
theorem dX8_street_8 : decode cX8_street 8 = .ok (.invokestatic 98, 3) := by decide +kernel
theorem dX8_street_11 : decode cX8_street 11 = .ok (.ifCond .eq 26, 3) := by decide +kernel
theorem dX8_street_14 : decode cX8_street 14 = .ok (.iload_n 3, 1) := by decide +kernel
theorem dX8_street_15 : decode cX8_street 15 = .ok (.invokestatic 98, 3) := by decide +kernel
theorem dX8_street_18 : decode cX8_street 18 = .ok (.ifCond .eq 19, 3) := by decide +kernel
theorem dX8_street_21 : decode cX8_street 21 = .ok (.iload_n 2, 1) := by decide +kernel
theorem dX8_street_22 : decode cX8_street 22 = .ok (.iload_n 3, 1) := by decide +kernel
theorem dX8_street_23 : decode cX8_street 23 = .ok (.if_icmp .eq 14, 3) := by decide +kernel
theorem dX8_street_26 : decode cX8_street 26 = .ok (.iload 4, 2) := by decide +kernel
theorem dX8_street_28 : decode cX8_street 28 = .ok (.iconst 1, 1) := by decide +kernel
theorem dX8_street_29 : decode cX8_street 29 = .ok (.bipush 20, 2) := by decide +kernel
theorem dX8_street_31 : decode cX8_street 31 = .ok (.invokestatic 78, 3) := by decide +kernel
theorem dX8_street_34 : decode cX8_street 34 = .ok (.ifCond .ne 10, 3) := by decide +kernel
theorem dX8_street_37 : decode cX8_street 37 = .ok (.aload_n 0, 1) := by decide +kernel
theorem dX8_street_38 : decode cX8_street 38 = .ok (.ldc 73, 2) := by decide +kernel
theorem dX8_street_40 : decode cX8_street 40 = .ok (.invokevirtual 101, 3) := by decide +kernel
theorem dX8_street_43 : decode cX8_street 43 = .ok (.ireturn, 1) := by decide +kernel
theorem dX8_street_44 : decode cX8_street 44 = .ok (.aload_n 0, 1) := by decide +kernel
theorem dX8_street_45 : decode cX8_street 45 = .ok (.getfield 9, 3) := by decide +kernel
theorem dX8_street_48 : decode cX8_street 48 = .ok (.bipush 8, 2) := by decide +kernel
theorem dX8_street_50 : decode cX8_street 50 = .ok (.iaload, 1) := by decide +kernel
theorem dX8_street_51 : decode cX8_street 51 = .ok (.bipush 14, 2) := by decide +kernel
theorem dX8_street_53 : decode cX8_street 53 = .ok (.if_icmp .ne 12, 3) := by decide +kernel
theorem dX8_street_56 : decode cX8_street 56 = .ok (.aload_n 0, 1) := by decide +kernel
theorem dX8_street_57 : decode cX8_street 57 = .ok (.ldc 105, 2) := by decide +kernel
theorem dX8_street_59 : decode cX8_street 59 = .ok (.invokevirtual 101, 3) := by decide +kernel
theorem dX8_street_62 : decode cX8_street 62 = .ok (.goto 13, 3) := by decide +kernel
theorem dX8_street_65 : decode cX8_street 65 = .ok (.aload_n 0, 1) := by decide +kernel
theorem dX8_street_66 : decode cX8_street 66 = .ok (.iload_n 1, 1) := by decide +kernel
theorem dX8_street_67 : decode cX8_street 67 = .ok (.iload_n 2, 1) := by decide +kernel
theorem dX8_street_68 : decode cX8_street 68 = .ok (.iload_n 3, 1) := by decide +kernel
theorem dX8_street_69 : decode cX8_street 69 = .ok (.iload 4, 2) := by decide +kernel
theorem dX8_street_71 : decode cX8_street 71 = .ok (.iconst 0, 1) := by decide +kernel
theorem dX8_street_72 : decode cX8_street 72 = .ok (.invokevirtual 106, 3) := by decide +kernel
theorem dX8_street_75 : decode cX8_street 75 = .ok (.ireturn, 1) := by decide +kernel
theorem dX8_above_0 : decode cX8_above 0 = .ok (.iload_n 0, 1) := by decide +kernel
theorem dX8_above_1 : decode cX8_above 1 = .ok (.ifCond .ne 7, 3) := by decide +kernel
theorem dX8_above_4 : decode cX8_above 4 = .ok (.iconst (-1), 1) := by decide +kernel
theorem dX8_above_5 : decode cX8_above 5 = .ok (.goto 32, 3) := by decide +kernel
theorem dX8_above_8 : decode cX8_above 8 = .ok (.iload_n 0, 1) := by decide +kernel
theorem dX8_above_9 : decode cX8_above 9 = .ok (.iconst 3, 1) := by decide +kernel
theorem dX8_above_10 : decode cX8_above 10 = .ok (.if_icmp .ne 7, 3) := by decide +kernel
theorem dX8_above_13 : decode cX8_above 13 = .ok (.iconst 1, 1) := by decide +kernel
theorem dX8_above_14 : decode cX8_above 14 = .ok (.goto 23, 3) := by decide +kernel
theorem dX8_above_17 : decode cX8_above 17 = .ok (.iload_n 0, 1) := by decide +kernel
theorem dX8_above_18 : decode cX8_above 18 = .ok (.iconst 4, 1) := by decide +kernel
theorem dX8_above_19 : decode cX8_above 19 = .ok (.if_icmp .ne 7, 3) := by decide +kernel
theorem dX8_above_22 : decode cX8_above 22 = .ok (.iconst 2, 1) := by decide +kernel
theorem dX8_above_23 : decode cX8_above 23 = .ok (.goto 14, 3) := by decide +kernel
theorem dX8_above_26 : decode cX8_above 26 = .ok (.iload_n 0, 1) := by decide +kernel
theorem dX8_above_27 : decode cX8_above 27 = .ok (.bipush 6, 2) := by decide +kernel
theorem dX8_above_29 : decode cX8_above 29 = .ok (.if_icmp .ne 7, 3) := by decide +kernel
theorem dX8_above_32 : decode cX8_above 32 = .ok (.iconst 5, 1) := by decide +kernel
theorem dX8_above_33 : decode cX8_above 33 = .ok (.goto 4, 3) := by decide +kernel
theorem dX8_above_36 : decode cX8_above 36 = .ok (.iconst 0, 1) := by decide +kernel
theorem dX8_above_37 : decode cX8_above 37 = .ok (.ireturn, 1) := by decide +kernel
theorem dX8_isUnder_0 : decode cX8_isUnder 0 = .ok (.iload_n 0, 1) := by decide +kernel
theorem dX8_isUnder_1 : decode cX8_isUnder 1 = .ok (.istore_n 2, 1) := by decide +kernel
theorem dX8_isUnder_2 : decode cX8_isUnder 2 = .ok (.iload_n 2, 1) := by decide +kernel
theorem dX8_isUnder_3 : decode cX8_isUnder 3 = .ok (.ifCond .lt 16, 3) := by decide +kernel
theorem dX8_isUnder_6 : decode cX8_isUnder 6 = .ok (.iload_n 2, 1) := by decide +kernel
theorem dX8_isUnder_7 : decode cX8_isUnder 7 = .ok (.iload_n 1, 1) := by decide +kernel
theorem dX8_isUnder_8 : decode cX8_isUnder 8 = .ok (.if_icmp .eq 11, 3) := by decide +kernel
theorem dX8_isUnder_11 : decode cX8_isUnder 11 = .ok (.iload_n 2, 1) := by decide +kernel
theorem dX8_isUnder_12 : decode cX8_isUnder 12 = .ok (.invokestatic 110, 3) := by decide +kernel
theorem dX8_isUnder_15 : decode cX8_isUnder 15 = .ok (.istore_n 2, 1) := by decide +kernel
theorem dX8_isUnder_16 : decode cX8_isUnder 16 = .ok (.goto (-14), 3) := by decide +kernel
theorem dX8_isUnder_19 : decode cX8_isUnder 19 = .ok (.iload_n 2, 1) := by decide +kernel
theorem dX8_isUnder_20 : decode cX8_isUnder 20 = .ok (.ifCond .lt 7, 3) := by decide +kernel
theorem dX8_isUnder_23 : decode cX8_isUnder 23 = .ok (.iconst 1, 1) := by decide +kernel
theorem dX8_isUnder_24 : decode cX8_isUnder 24 = .ok (.goto 4, 3) := by decide +kernel
theorem dX8_isUnder_27 : decode cX8_isUnder 27 = .ok (.iconst 0, 1) := by decide +kernel
theorem dX8_isUnder_28 : decode cX8_isUnder 28 = .ok (.ireturn, 1) := by decide +kernel
theorem dX8_takes_0 : decode cX8_takes 0 = .ok (.aload_n 0, 1) := by decide +kernel
theorem dX8_takes_1 : decode cX8_takes 1 = .ok (.iload_n 1, 1) := by decide +kernel
theorem dX8_takes_2 : decode cX8_takes 2 = .ok (.iconst 0, 1) := by decide +kernel
theorem dX8_takes_3 : decode cX8_takes 3 = .ok (.invokevirtual 113, 3) := by decide +kernel
theorem dX8_takes_6 : decode cX8_takes 6 = .ok (.istore_n 2, 1) := by decide +kernel
theorem dX8_takes_7 : decode cX8_takes 7 = .ok (.aload_n 0, 1) := by decide +kernel
theorem dX8_takes_8 : decode cX8_takes 8 = .ok (.iload_n 1, 1) := by decide +kernel
theorem dX8_takes_9 : decode cX8_takes 9 = .ok (.iconst 3, 1) := by decide +kernel
theorem dX8_takes_10 : decode cX8_takes 10 = .ok (.invokevirtual 113, 3) := by decide +kernel
theorem dX8_takes_13 : decode cX8_takes 13 = .ok (.istore_n 3, 1) := by decide +kernel
theorem dX8_takes_14 : decode cX8_takes 14 = .ok (.iload_n 2, 1) := by decide +kernel
theorem dX8_takes_15 : decode cX8_takes 15 = .ok (.iconst 4, 1) := by decide +kernel
theorem dX8_takes_16 : decode cX8_takes 16 = .ok (.if_icmp .ne 11, 3) := by decide +kernel
theorem dX8_takes_19 : decode cX8_takes 19 = .ok (.iload_n 3, 1) := by decide +kernel
theorem dX8_takes_20 : decode cX8_takes 20 = .ok (.iload_n 3, 1) := by decide +kernel
theorem dX8_takes_21 : decode cX8_takes 21 = .ok (.iconst 2, 1) := by decide +kernel
theorem dX8_takes_22 : decode cX8_takes 22 = .ok (.idiv, 1) := by decide +kernel
theorem dX8_takes_23 : decode cX8_takes 23 = .ok (.iadd, 1) := by decide +kernel
theorem dX8_takes_24 : decode cX8_takes 24 = .ok (.goto 18, 3) := by decide +kernel
theorem dX8_takes_27 : decode cX8_takes 27 = .ok (.iload_n 2, 1) := by decide +kernel
theorem dX8_takes_28 : decode cX8_takes 28 = .ok (.iconst 5, 1) := by decide +kernel
theorem dX8_takes_29 : decode cX8_takes 29 = .ok (.invokestatic 116, 3) := by decide +kernel
theorem dX8_takes_32 : decode cX8_takes 32 = .ok (.ifCond .eq 9, 3) := by decide +kernel
theorem dX8_takes_35 : decode cX8_takes 35 = .ok (.iload_n 3, 1) := by decide +kernel
theorem dX8_takes_36 : decode cX8_takes 36 = .ok (.iconst 2, 1) := by decide +kernel
theorem dX8_takes_37 : decode cX8_takes 37 = .ok (.iadd, 1) := by decide +kernel
theorem dX8_takes_38 : decode cX8_takes 38 = .ok (.goto 4, 3) := by decide +kernel
theorem dX8_takes_41 : decode cX8_takes 41 = .ok (.iload_n 3, 1) := by decide +kernel
theorem dX8_takes_42 : decode cX8_takes 42 = .ok (.ireturn, 1) := by decide +kernel
theorem dX8_licks_0 : decode cX8_licks 0 = .ok (.aload_n 0, 1) := by decide +kernel
theorem dX8_licks_1 : decode cX8_licks 1 = .ok (.iload_n 1, 1) := by decide +kernel
theorem dX8_licks_2 : decode cX8_licks 2 = .ok (.iconst 0, 1) := by decide +kernel
theorem dX8_licks_3 : decode cX8_licks 3 = .ok (.invokevirtual 113, 3) := by decide +kernel
theorem dX8_licks_6 : decode cX8_licks 6 = .ok (.istore_n 2, 1) := by decide +kernel
theorem dX8_licks_7 : decode cX8_licks 7 = .ok (.iload_n 2, 1) := by decide +kernel
theorem dX8_licks_8 : decode cX8_licks 8 = .ok (.bipush 6, 2) := by decide +kernel
theorem dX8_licks_10 : decode cX8_licks 10 = .ok (.if_icmp .ne 7, 3) := by decide +kernel
theorem dX8_licks_13 : decode cX8_licks 13 = .ok (.iconst 5, 1) := by decide +kernel
theorem dX8_licks_14 : decode cX8_licks 14 = .ok (.goto 13, 3) := by decide +kernel
theorem dX8_licks_17 : decode cX8_licks 17 = .ok (.iload_n 2, 1) := by decide +kernel
theorem dX8_licks_18 : decode cX8_licks 18 = .ok (.iconst 5, 1) := by decide +kernel
theorem dX8_licks_19 : decode cX8_licks 19 = .ok (.if_icmp .ne 7, 3) := by decide +kernel
theorem dX8_licks_22 : decode cX8_licks 22 = .ok (.iconst 2, 1) := by decide +kernel
theorem dX8_licks_23 : decode cX8_licks 23 = .ok (.goto 4, 3) := by decide +kernel
theorem dX8_licks_26 : decode cX8_licks 26 = .ok (.iconst 0, 1) := by decide +kernel
theorem dX8_licks_27 : decode cX8_licks 27 = .ok (.ireturn, 1) := by decide +kernel
