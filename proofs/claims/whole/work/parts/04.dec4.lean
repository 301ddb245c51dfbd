theorem dX10_atom0_150 : decode cX10_atom0 150 = .ok (.aload_n 0, 1) := by decide +kernel
theorem dX10_atom0_151 : decode cX10_atom0 151 = .ok (.invokevirtual 163, 3) := by decide +kernel
theorem dX10_atom0_154 : decode cX10_atom0 154 = .ok (.goto 7, 3) := by decide +kernel
theorem dX10_atom0_157 : decode cX10_atom0 157 = .ok (.aload_n 0, 1) := by decide +kernel
theorem dX10_atom0_158 : decode cX10_atom0 158 = .ok (.invokevirtual 160, 3) := by decide +kernel
theorem dX10_atom0_161 : decode cX10_atom0 161 = .ok (.iload_n 1, 1) := by decide +kernel
theorem dX10_atom0_162 : decode cX10_atom0 162 = .ok (.ireturn, 1) := by decide +kernel
theorem dX10_term0_0 : decode cX10_term0 0 = .ok (.aload_n 0, 1) := by decide +kernel
theorem dX10_term0_1 : decode cX10_term0 1 = .ok (.invokevirtual 293, 3) := by decide +kernel
theorem dX10_term0_4 : decode cX10_term0 4 = .ok (.istore_n 1, 1) := by decide +kernel
theorem dX10_term0_5 : decode cX10_term0 5 = .ok (.aload_n 0, 1) := by decide +kernel
theorem dX10_term0_6 : decode cX10_term0 6 = .ok (.bipush 42, 2) := by decide +kernel
theorem dX10_term0_8 : decode cX10_term0 8 = .ok (.invokevirtual 188, 3) := by decide +kernel
theorem dX10_term0_11 : decode cX10_term0 11 = .ok (.ifCond .eq 17, 3) := by decide +kernel
theorem dX10_term0_14 : decode cX10_term0 14 = .ok (.aload_n 0, 1) := by decide +kernel
theorem dX10_term0_15 : decode cX10_term0 15 = .ok (.invokevirtual 163, 3) := by decide +kernel
theorem dX10_term0_18 : decode cX10_term0 18 = .ok (.iload_n 1, 1) := by decide +kernel
theorem dX10_term0_19 : decode cX10_term0 19 = .ok (.aload_n 0, 1) := by decide +kernel
theorem dX10_term0_20 : decode cX10_term0 20 = .ok (.invokevirtual 293, 3) := by decide +kernel
theorem dX10_term0_23 : decode cX10_term0 23 = .ok (.imul, 1) := by decide +kernel
theorem dX10_term0_24 : decode cX10_term0 24 = .ok (.istore_n 1, 1) := by decide +kernel
theorem dX10_term0_25 : decode cX10_term0 25 = .ok (.goto (-20), 3) := by decide +kernel
theorem dX10_term0_28 : decode cX10_term0 28 = .ok (.iload_n 1, 1) := by decide +kernel
theorem dX10_term0_29 : decode cX10_term0 29 = .ok (.ireturn, 1) := by decide +kernel
theorem dX10_added0_0 : decode cX10_added0 0 = .ok (.aload_n 0, 1) := by decide +kernel
theorem dX10_added0_1 : decode cX10_added0 1 = .ok (.invokevirtual 296, 3) := by decide +kernel
theorem dX10_added0_4 : decode cX10_added0 4 = .ok (.istore_n 1, 1) := by decide +kernel
theorem dX10_added0_5 : decode cX10_added0 5 = .ok (.aload_n 0, 1) := by decide +kernel
theorem dX10_added0_6 : decode cX10_added0 6 = .ok (.bipush 43, 2) := by decide +kernel
theorem dX10_added0_8 : decode cX10_added0 8 = .ok (.invokevirtual 188, 3) := by decide +kernel
theorem dX10_added0_11 : decode cX10_added0 11 = .ok (.ifCond .ne 12, 3) := by decide +kernel
theorem dX10_added0_14 : decode cX10_added0 14 = .ok (.aload_n 0, 1) := by decide +kernel
theorem dX10_added0_15 : decode cX10_added0 15 = .ok (.bipush 45, 2) := by decide +kernel
theorem dX10_added0_17 : decode cX10_added0 17 = .ok (.invokevirtual 188, 3) := by decide +kernel
theorem dX10_added0_20 : decode cX10_added0 20 = .ok (.ifCond .eq 46, 3) := by decide +kernel
theorem dX10_added0_23 : decode cX10_added0 23 = .ok (.aload_n 0, 1) := by decide +kernel
theorem dX10_added0_24 : decode cX10_added0 24 = .ok (.getfield 140, 3) := by decide +kernel
theorem dX10_added0_27 : decode cX10_added0 27 = .ok (.ldc2_w 205, 3) := by decide +kernel
theorem dX10_added0_30 : decode cX10_added0 30 = .ok (.lcmp, 1) := by decide +kernel
theorem dX10_added0_31 : decode cX10_added0 31 = .ok (.ifCond .ne 7, 3) := by decide +kernel
theorem dX10_added0_34 : decode cX10_added0 34 = .ok (.iconst 1, 1) := by decide +kernel
theorem dX10_added0_35 : decode cX10_added0 35 = .ok (.goto 4, 3) := by decide +kernel
theorem dX10_added0_38 : decode cX10_added0 38 = .ok (.iconst 0, 1) := by decide +kernel
theorem dX10_added0_39 : decode cX10_added0 39 = .ok (.istore_n 2, 1) := by decide +kernel
theorem dX10_added0_40 : decode cX10_added0 40 = .ok (.aload_n 0, 1) := by decide +kernel
theorem dX10_added0_41 : decode cX10_added0 41 = .ok (.invokevirtual 163, 3) := by decide +kernel
theorem dX10_added0_44 : decode cX10_added0 44 = .ok (.aload_n 0, 1) := by decide +kernel
theorem dX10_added0_45 : decode cX10_added0 45 = .ok (.invokevirtual 296, 3) := by decide +kernel
theorem dX10_added0_48 : decode cX10_added0 48 = .ok (.istore_n 3, 1) := by decide +kernel
theorem dX10_added0_49 : decode cX10_added0 49 = .ok (.iload_n 2, 1) := by decide +kernel
theorem dX10_added0_50 : decode cX10_added0 50 = .ok (.ifCond .eq 9, 3) := by decide +kernel
theorem dX10_added0_53 : decode cX10_added0 53 = .ok (.iload_n 1, 1) := by decide +kernel
theorem dX10_added0_54 : decode cX10_added0 54 = .ok (.iload_n 3, 1) := by decide +kernel
theorem dX10_added0_55 : decode cX10_added0 55 = .ok (.iadd, 1) := by decide +kernel
theorem dX10_added0_56 : decode cX10_added0 56 = .ok (.goto 6, 3) := by decide +kernel
theorem dX10_added0_59 : decode cX10_added0 59 = .ok (.iload_n 1, 1) := by decide +kernel
theorem dX10_added0_60 : decode cX10_added0 60 = .ok (.iload_n 3, 1) := by decide +kernel
theorem dX10_added0_61 : decode cX10_added0 61 = .ok (.isub, 1) := by decide +kernel
theorem dX10_added0_62 : decode cX10_added0 62 = .ok (.istore_n 1, 1) := by decide +kernel
theorem dX10_added0_63 : decode cX10_added0 63 = .ok (.goto (-58), 3) := by decide +kernel
theorem dX10_added0_66 : decode cX10_added0 66 = .ok (.iload_n 1, 1) := by decide +kernel
theorem dX10_added0_67 : decode cX10_added0 67 = .ok (.ireturn, 1) := by decide +kernel
theorem dX10_not0_0 : decode cX10_not0 0 = .ok (.aload_n 0, 1) := by decide +kernel
theorem dX10_not0_1 : decode cX10_not0 1 = .ok (.bipush 110, 2) := by decide +kernel
theorem dX10_not0_3 : decode cX10_not0 3 = .ok (.bipush 111, 2) := by decide +kernel
theorem dX10_not0_5 : decode cX10_not0 5 = .ok (.bipush 116, 2) := by decide +kernel
theorem dX10_not0_7 : decode cX10_not0 7 = .ok (.iconst 0, 1) := by decide +kernel
theorem dX10_not0_8 : decode cX10_not0 8 = .ok (.iconst 0, 1) := by decide +kernel
theorem dX10_not0_9 : decode cX10_not0 9 = .ok (.iconst 0, 1) := by decide +kernel
theorem dX10_not0_10 : decode cX10_not0 10 = .ok (.iconst 0, 1) := by decide +kernel
theorem dX10_not0_11 : decode cX10_not0 11 = .ok (.iconst 0, 1) := by decide +kernel
theorem dX10_not0_12 : decode cX10_not0 12 = .ok (.invokevirtual 166, 3) := by decide +kernel
theorem dX10_not0_15 : decode cX10_not0 15 = .ok (.ifCond .eq 37, 3) := by decide +kernel
theorem dX10_not0_18 : decode cX10_not0 18 = .ok (.aload_n 0, 1) := by decide +kernel
theorem dX10_not0_19 : decode cX10_not0 19 = .ok (.invokevirtual 191, 3) := by decide +kernel
theorem dX10_not0_22 : decode cX10_not0 22 = .ok (.ifCond .ne 5, 3) := by decide +kernel
theorem dX10_not0_25 : decode cX10_not0 25 = .ok (.iconst 0, 1) := by decide +kernel
theorem dX10_not0_26 : decode cX10_not0 26 = .ok (.ireturn, 1) := by decide +kernel
theorem dX10_not0_27 : decode cX10_not0 27 = .ok (.aload_n 0, 1) := by decide +kernel
theorem dX10_not0_28 : decode cX10_not0 28 = .ok (.invokevirtual 284, 3) := by decide +kernel
theorem dX10_not0_31 : decode cX10_not0 31 = .ok (.istore_n 1, 1) := by decide +kernel
theorem dX10_not0_32 : decode cX10_not0 32 = .ok (.aload_n 0, 1) := by decide +kernel
theorem dX10_not0_33 : decode cX10_not0 33 = .ok (.dup, 1) := by decide +kernel
theorem dX10_not0_34 : decode cX10_not0 34 = .ok (.getfield 157, 3) := by decide +kernel
theorem dX10_not0_37 : decode cX10_not0 37 = .ok (.iconst 1, 1) := by decide +kernel
theorem dX10_not0_38 : decode cX10_not0 38 = .ok (.isub, 1) := by decide +kernel
theorem dX10_not0_39 : decode cX10_not0 39 = .ok (.putfield 157, 3) := by decide +kernel
theorem dX10_not0_42 : decode cX10_not0 42 = .ok (.iload_n 1, 1) := by decide +kernel
theorem dX10_not0_43 : decode cX10_not0 43 = .ok (.ifCond .ne 7, 3) := by decide +kernel
theorem dX10_not0_46 : decode cX10_not0 46 = .ok (.iconst 1, 1) := by decide +kernel
theorem dX10_not0_47 : decode cX10_not0 47 = .ok (.goto 4, 3) := by decide +kernel
theorem dX10_not0_50 : decode cX10_not0 50 = .ok (.iconst 0, 1) := by decide +kernel
theorem dX10_not0_51 : decode cX10_not0 51 = .ok (.ireturn, 1) := by decide +kernel
theorem dX10_not0_52 : decode cX10_not0 52 = .ok (.aload_n 0, 1) := by decide +kernel
theorem dX10_not0_53 : decode cX10_not0 53 = .ok (.invokevirtual 299, 3) := by decide +kernel
theorem dX10_not0_56 : decode cX10_not0 56 = .ok (.istore_n 1, 1) := by decide +kernel
theorem dX10_not0_57 : decode cX10_not0 57 = .ok (.aload_n 0, 1) := by decide +kernel
theorem dX10_not0_58 : decode cX10_not0 58 = .ok (.bipush 60, 2) := by decide +kernel
theorem dX10_not0_60 : decode cX10_not0 60 = .ok (.invokevirtual 188, 3) := by decide +kernel
theorem dX10_not0_63 : decode cX10_not0 63 = .ok (.ifCond .ne 14, 3) := by decide +kernel
theorem dX10_not0_66 : decode cX10_not0 66 = .ok (.aload_n 0, 1) := by decide +kernel
theorem dX10_not0_67 : decode cX10_not0 67 = .ok (.bipush 61, 2) := by decide +kernel
theorem dX10_not0_69 : decode cX10_not0 69 = .ok (.invokevirtual 188, 3) := by decide +kernel
theorem dX10_not0_72 : decode cX10_not0 72 = .ok (.ifCond .ne 5, 3) := by decide +kernel
theorem dX10_not0_75 : decode cX10_not0 75 = .ok (.iload_n 1, 1) := by decide +kernel
theorem dX10_not0_76 : decode cX10_not0 76 = .ok (.ireturn, 1) := by decide +kernel
theorem dX10_not0_77 : decode cX10_not0 77 = .ok (.aload_n 0, 1) := by decide +kernel
theorem dX10_not0_78 : decode cX10_not0 78 = .ok (.getfield 140, 3) := by decide +kernel
theorem dX10_not0_81 : decode cX10_not0 81 = .ok (.ldc2_w 210, 3) := by decide +kernel
theorem dX10_not0_84 : decode cX10_not0 84 = .ok (.lcmp, 1) := by decide +kernel
theorem dX10_not0_85 : decode cX10_not0 85 = .ok (.ifCond .ne 7, 3) := by decide +kernel
theorem dX10_not0_88 : decode cX10_not0 88 = .ok (.iconst 1, 1) := by decide +kernel
theorem dX10_not0_89 : decode cX10_not0 89 = .ok (.goto 4, 3) := by decide +kernel
theorem dX10_not0_92 : decode cX10_not0 92 = .ok (.iconst 0, 1) := by decide +kernel
theorem dX10_not0_93 : decode cX10_not0 93 = .ok (.istore_n 2, 1) := by decide +kernel
theorem dX10_not0_94 : decode cX10_not0 94 = .ok (.aload_n 0, 1) := by decide +kernel
theorem dX10_not0_95 : decode cX10_not0 95 = .ok (.invokevirtual 163, 3) := by decide +kernel
theorem dX10_not0_98 : decode cX10_not0 98 = .ok (.aload_n 0, 1) := by decide +kernel
theorem dX10_not0_99 : decode cX10_not0 99 = .ok (.invokevirtual 299, 3) := by decide +kernel
theorem dX10_not0_102 : decode cX10_not0 102 = .ok (.istore_n 3, 1) := by decide +kernel
theorem dX10_not0_103 : decode cX10_not0 103 = .ok (.iload_n 2, 1) := by decide +kernel
theorem dX10_not0_104 : decode cX10_not0 104 = .ok (.ifCond .eq 11, 3) := by decide +kernel
theorem dX10_not0_107 : decode cX10_not0 107 = .ok (.iload_n 1, 1) := by decide +kernel
theorem dX10_not0_108 : decode cX10_not0 108 = .ok (.iload_n 3, 1) := by decide +kernel
theorem dX10_not0_109 : decode cX10_not0 109 = .ok (.if_icmp .ge 15, 3) := by decide +kernel
theorem dX10_not0_112 : decode cX10_not0 112 = .ok (.goto 8, 3) := by decide +kernel
theorem dX10_not0_115 : decode cX10_not0 115 = .ok (.iload_n 1, 1) := by decide +kernel
theorem dX10_not0_116 : decode cX10_not0 116 = .ok (.iload_n 3, 1) := by decide +kernel
theorem dX10_not0_117 : decode cX10_not0 117 = .ok (.if_icmp .ne 7, 3) := by decide +kernel
theorem dX10_not0_120 : decode cX10_not0 120 = .ok (.iconst 1, 1) := by decide +kernel
theorem dX10_not0_121 : decode cX10_not0 121 = .ok (.goto 4, 3) := by decide +kernel
theorem dX10_not0_124 : decode cX10_not0 124 = .ok (.iconst 0, 1) := by decide +kernel
theorem dX10_not0_125 : decode cX10_not0 125 = .ok (.ireturn, 1) := by decide +kernel
theorem dX10_both0_0 : decode cX10_both0 0 = .ok (.aload_n 0, 1) := by decide +kernel
theorem dX10_both0_1 : decode cX10_both0 1 = .ok (.invokevirtual 302, 3) := by decide +kernel
theorem dX10_both0_4 : decode cX10_both0 4 = .ok (.istore_n 1, 1) := by decide +kernel
theorem dX10_both0_5 : decode cX10_both0 5 = .ok (.aload_n 0, 1) := by decide +kernel
theorem dX10_both0_6 : decode cX10_both0 6 = .ok (.bipush 97, 2) := by decide +kernel
theorem dX10_both0_8 : decode cX10_both0 8 = .ok (.bipush 110, 2) := by decide +kernel
theorem dX10_both0_10 : decode cX10_both0 10 = .ok (.bipush 100, 2) := by decide +kernel
theorem dX10_both0_12 : decode cX10_both0 12 = .ok (.iconst 0, 1) := by decide +kernel
theorem dX10_both0_13 : decode cX10_both0 13 = .ok (.iconst 0, 1) := by decide +kernel
theorem dX10_both0_14 : decode cX10_both0 14 = .ok (.iconst 0, 1) := by decide +kernel
theorem dX10_both0_15 : decode cX10_both0 15 = .ok (.iconst 0, 1) := by decide +kernel
theorem dX10_both0_16 : decode cX10_both0 16 = .ok (.iconst 0, 1) := by decide +kernel
theorem dX10_both0_17 : decode cX10_both0 17 = .ok (.invokevirtual 166, 3) := by decide +kernel
theorem dX10_both0_20 : decode cX10_both0 20 = .ok (.ifCond .eq 29, 3) := by decide +kernel
theorem dX10_both0_23 : decode cX10_both0 23 = .ok (.aload_n 0, 1) := by decide +kernel
theorem dX10_both0_24 : decode cX10_both0 24 = .ok (.invokevirtual 163, 3) := by decide +kernel
theorem dX10_both0_27 : decode cX10_both0 27 = .ok (.aload_n 0, 1) := by decide +kernel
theorem dX10_both0_28 : decode cX10_both0 28 = .ok (.invokevirtual 302, 3) := by decide +kernel
theorem dX10_both0_31 : decode cX10_both0 31 = .ok (.istore_n 2, 1) := by decide +kernel
theorem dX10_both0_32 : decode cX10_both0 32 = .ok (.iload_n 1, 1) := by decide +kernel
theorem dX10_both0_33 : decode cX10_both0 33 = .ok (.ifCond .eq 11, 3) := by decide +kernel
theorem dX10_both0_36 : decode cX10_both0 36 = .ok (.iload_n 2, 1) := by decide +kernel
theorem dX10_both0_37 : decode cX10_both0 37 = .ok (.ifCond .eq 7, 3) := by decide +kernel
theorem dX10_both0_40 : decode cX10_both0 40 = .ok (.iconst 1, 1) := by decide +kernel
theorem dX10_both0_41 : decode cX10_both0 41 = .ok (.goto 4, 3) := by decide +kernel
theorem dX10_both0_44 : decode cX10_both0 44 = .ok (.iconst 0, 1) := by decide +kernel
theorem dX10_both0_45 : decode cX10_both0 45 = .ok (.istore_n 1, 1) := by decide +kernel
theorem dX10_both0_46 : decode cX10_both0 46 = .ok (.goto (-41), 3) := by decide +kernel
theorem dX10_both0_49 : decode cX10_both0 49 = .ok (.iload_n 1, 1) := by decide +kernel
theorem dX10_both0_50 : decode cX10_both0 50 = .ok (.ireturn, 1) := by decide +kernel
theorem dX10_either0_0 : decode cX10_either0 0 = .ok (.aload_n 0, 1) := by decide +kernel
theorem dX10_either0_1 : decode cX10_either0 1 = .ok (.invokevirtual 305, 3) := by decide +kernel
theorem dX10_either0_4 : decode cX10_either0 4 = .ok (.istore_n 1, 1) := by decide +kernel
theorem dX10_either0_5 : decode cX10_either0 5 = .ok (.aload_n 0, 1) := by decide +kernel
theorem dX10_either0_6 : decode cX10_either0 6 = .ok (.bipush 111, 2) := by decide +kernel
theorem dX10_either0_8 : decode cX10_either0 8 = .ok (.bipush 114, 2) := by decide +kernel
theorem dX10_either0_10 : decode cX10_either0 10 = .ok (.iconst 0, 1) := by decide +kernel
theorem dX10_either0_11 : decode cX10_either0 11 = .ok (.iconst 0, 1) := by decide +kernel
theorem dX10_either0_12 : decode cX10_either0 12 = .ok (.iconst 0, 1) := by decide +kernel
theorem dX10_either0_13 : decode cX10_either0 13 = .ok (.iconst 0, 1) := by decide +kernel
theorem dX10_either0_14 : decode cX10_either0 14 = .ok (.iconst 0, 1) := by decide +kernel
theorem dX10_either0_15 : decode cX10_either0 15 = .ok (.iconst 0, 1) := by decide +kernel
theorem dX10_either0_16 : decode cX10_either0 16 = .ok (.invokevirtual 166, 3) := by decide +kernel
theorem dX10_either0_19 : decode cX10_either0 19 = .ok (.ifCond .eq 29, 3) := by decide +kernel
theorem dX10_either0_22 : decode cX10_either0 22 = .ok (.aload_n 0, 1) := by decide +kernel
theorem dX10_either0_23 : decode cX10_either0 23 = .ok (.invokevirtual 163, 3) := by decide +kernel
theorem dX10_either0_26 : decode cX10_either0 26 = .ok (.aload_n 0, 1) := by decide +kernel
theorem dX10_either0_27 : decode cX10_either0 27 = .ok (.invokevirtual 305, 3) := by decide +kernel
theorem dX10_either0_30 : decode cX10_either0 30 = .ok (.istore_n 2, 1) := by decide +kernel
theorem dX10_either0_31 : decode cX10_either0 31 = .ok (.iload_n 1, 1) := by decide +kernel
theorem dX10_either0_32 : decode cX10_either0 32 = .ok (.ifCond .ne 7, 3) := by decide +kernel
theorem dX10_either0_35 : decode cX10_either0 35 = .ok (.iload_n 2, 1) := by decide +kernel
theorem dX10_either0_36 : decode cX10_either0 36 = .ok (.ifCond .eq 7, 3) := by decide +kernel
theorem dX10_either0_39 : decode cX10_either0 39 = .ok (.iconst 1, 1) := by decide +kernel
theorem dX10_either0_40 : decode cX10_either0 40 = .ok (.goto 4, 3) := by decide +kernel
theorem dX10_either0_43 : decode cX10_either0 43 = .ok (.iconst 0, 1) := by decide +kernel
theorem dX10_either0_44 : decode cX10_either0 44 = .ok (.istore_n 1, 1) := by decide +kernel
theorem dX10_either0_45 : decode cX10_either0 45 = .ok (.goto (-40), 3) := by decide +kernel
theorem dX10_either0_48 : decode cX10_either0 48 = .ok (.iload_n 1, 1) := by decide +kernel
theorem dX10_either0_49 : decode cX10_either0 49 = .ok (.ireturn, 1) := by decide +kernel
theorem dX10_part_0 : decode cX10_part 0 = .ok (.iload_n 1, 1) := by decide +kernel
theorem dX10_part_1 : decode cX10_part 1 = .ok (.ifCond .ne 7, 3) := by decide +kernel
theorem dX10_part_4 : decode cX10_part 4 = .ok (.aload_n 0, 1) := by decide +kernel
theorem dX10_part_5 : decode cX10_part 5 = .ok (.invokevirtual 160, 3) := by decide +kernel
theorem dX10_part_8 : decode cX10_part 8 = .ok (.aload_n 0, 1) := by decide +kernel
theorem dX10_part_9 : decode cX10_part 9 = .ok (.getfield 146, 3) := by decide +kernel
theorem dX10_part_12 : decode cX10_part 12 = .ok (.ifCond .ne 7, 3) := by decide +kernel
theorem dX10_part_15 : decode cX10_part 15 = .ok (.aload_n 0, 1) := by decide +kernel
theorem dX10_part_16 : decode cX10_part 16 = .ok (.invokevirtual 163, 3) := by decide +kernel
theorem dX10_part_19 : decode cX10_part 19 = .ok (.aload_n 0, 1) := by decide +kernel
theorem dX10_part_20 : decode cX10_part 20 = .ok (.getfield 146, 3) := by decide +kernel
theorem dX10_part_23 : decode cX10_part 23 = .ok (.ifCond .eq 7, 3) := by decide +kernel
theorem dX10_part_26 : decode cX10_part 26 = .ok (.iconst 0, 1) := by decide +kernel
theorem dX10_part_27 : decode cX10_part 27 = .ok (.goto 7, 3) := by decide +kernel
theorem dX10_part_30 : decode cX10_part 30 = .ok (.aload_n 0, 1) := by decide +kernel
theorem dX10_part_31 : decode cX10_part 31 = .ok (.invokevirtual 308, 3) := by decide +kernel
theorem dX10_part_34 : decode cX10_part 34 = .ok (.istore_n 2, 1) := by decide +kernel
theorem dX10_part_35 : decode cX10_part 35 = .ok (.aload_n 0, 1) := by decide +kernel
theorem dX10_part_36 : decode cX10_part 36 = .ok (.bipush 59, 2) := by decide +kernel
theorem dX10_part_38 : decode cX10_part 38 = .ok (.invokevirtual 188, 3) := by decide +kernel
theorem dX10_part_41 : decode cX10_part 41 = .ok (.ifCond .ne 7, 3) := by decide +kernel
theorem dX10_part_44 : decode cX10_part 44 = .ok (.aload_n 0, 1) := by decide +kernel
theorem dX10_part_45 : decode cX10_part 45 = .ok (.invokevirtual 160, 3) := by decide +kernel
theorem dX10_part_48 : decode cX10_part 48 = .ok (.aload_n 0, 1) := by decide +kernel
theorem dX10_part_49 : decode cX10_part 49 = .ok (.getfield 146, 3) := by decide +kernel
theorem dX10_part_52 : decode cX10_part 52 = .ok (.ifCond .ne 7, 3) := by decide +kernel
theorem dX10_part_55 : decode cX10_part 55 = .ok (.aload_n 0, 1) := by decide +kernel
theorem dX10_part_56 : decode cX10_part 56 = .ok (.invokevirtual 163, 3) := by decide +kernel
theorem dX10_part_59 : decode cX10_part 59 = .ok (.iload_n 2, 1) := by decide +kernel
theorem dX10_part_60 : decode cX10_part 60 = .ok (.ireturn, 1) := by decide +kernel
theorem dX10_read_0 : decode cX10_read 0 = .ok (.aload_n 0, 1) := by decide +kernel
theorem dX10_read_1 : decode cX10_read 1 = .ok (.sipush 160, 3) := by decide +kernel
theorem dX10_read_4 : decode cX10_read 4 = .ok (.iload_n 1, 1) := by decide +kernel
theorem dX10_read_5 : decode cX10_read 5 = .ok (.imul, 1) := by decide +kernel
theorem dX10_read_6 : decode cX10_read 6 = .ok (.putfield 117, 3) := by decide +kernel
theorem dX10_read_9 : decode cX10_read 9 = .ok (.aload_n 0, 1) := by decide +kernel
theorem dX10_read_10 : decode cX10_read 10 = .ok (.aload_n 0, 1) := by decide +kernel
theorem dX10_read_11 : decode cX10_read 11 = .ok (.getfield 17, 3) := by decide +kernel
theorem dX10_read_14 : decode cX10_read 14 = .ok (.iload_n 1, 1) := by decide +kernel
theorem dX10_read_15 : decode cX10_read 15 = .ok (.iaload, 1) := by decide +kernel
theorem dX10_read_16 : decode cX10_read 16 = .ok (.putfield 114, 3) := by decide +kernel
theorem dX10_read_19 : decode cX10_read 19 = .ok (.aload_n 0, 1) := by decide +kernel
theorem dX10_read_20 : decode cX10_read 20 = .ok (.iconst 0, 1) := by decide +kernel
theorem dX10_read_21 : decode cX10_read 21 = .ok (.putfield 120, 3) := by decide +kernel
theorem dX10_read_24 : decode cX10_read 24 = .ok (.aload_n 0, 1) := by decide +kernel
theorem dX10_read_25 : decode cX10_read 25 = .ok (.iconst 0, 1) := by decide +kernel
theorem dX10_read_26 : decode cX10_read 26 = .ok (.putfield 157, 3) := by decide +kernel
theorem dX10_read_29 : decode cX10_read 29 = .ok (.aload_n 0, 1) := by decide +kernel
theorem dX10_read_30 : decode cX10_read 30 = .ok (.iconst 0, 1) := by decide +kernel
theorem dX10_read_31 : decode cX10_read 31 = .ok (.putfield 146, 3) := by decide +kernel
theorem dX10_read_34 : decode cX10_read 34 = .ok (.aload_n 0, 1) := by decide +kernel
theorem dX10_read_35 : decode cX10_read 35 = .ok (.invokevirtual 163, 3) := by decide +kernel
theorem dX10_read_38 : decode cX10_read 38 = .ok (.aload_n 0, 1) := by decide +kernel
theorem dX10_read_39 : decode cX10_read 39 = .ok (.aload_n 0, 1) := by decide +kernel
theorem dX10_read_40 : decode cX10_read 40 = .ok (.bipush 115, 2) := by decide +kernel
theorem dX10_read_42 : decode cX10_read 42 = .ok (.bipush 104, 2) := by decide +kernel
theorem dX10_read_44 : decode cX10_read 44 = .ok (.bipush 111, 2) := by decide +kernel
theorem dX10_read_46 : decode cX10_read 46 = .ok (.bipush 119, 2) := by decide +kernel
theorem dX10_read_48 : decode cX10_read 48 = .ok (.bipush 115, 2) := by decide +kernel
theorem dX10_read_50 : decode cX10_read 50 = .ok (.iconst 0, 1) := by decide +kernel
theorem dX10_read_51 : decode cX10_read 51 = .ok (.iconst 0, 1) := by decide +kernel
theorem dX10_read_52 : decode cX10_read 52 = .ok (.iconst 0, 1) := by decide +kernel
theorem dX10_read_53 : decode cX10_read 53 = .ok (.invokevirtual 166, 3) := by decide +kernel
theorem dX10_read_56 : decode cX10_read 56 = .ok (.invokevirtual 311, 3) := by decide +kernel
theorem dX10_read_59 : decode cX10_read 59 = .ok (.istore_n 3, 1) := by decide +kernel
theorem dX10_read_60 : decode cX10_read 60 = .ok (.aload_n 0, 1) := by decide +kernel
theorem dX10_read_61 : decode cX10_read 61 = .ok (.getfield 146, 3) := by decide +kernel
theorem dX10_read_64 : decode cX10_read 64 = .ok (.ifCond .eq 7, 3) := by decide +kernel
theorem dX10_read_67 : decode cX10_read 67 = .ok (.iconst 0, 1) := by decide +kernel
theorem dX10_read_68 : decode cX10_read 68 = .ok (.goto 24, 3) := by decide +kernel
theorem dX10_read_71 : decode cX10_read 71 = .ok (.aload_n 0, 1) := by decide +kernel
theorem dX10_read_72 : decode cX10_read 72 = .ok (.aload_n 0, 1) := by decide +kernel
theorem dX10_read_73 : decode cX10_read 73 = .ok (.bipush 109, 2) := by decide +kernel
theorem dX10_read_75 : decode cX10_read 75 = .ok (.bipush 111, 2) := by decide +kernel
theorem dX10_read_77 : decode cX10_read 77 = .ok (.bipush 118, 2) := by decide +kernel
theorem dX10_read_79 : decode cX10_read 79 = .ok (.bipush 101, 2) := by decide +kernel
theorem dX10_read_81 : decode cX10_read 81 = .ok (.bipush 115, 2) := by decide +kernel
theorem dX10_read_83 : decode cX10_read 83 = .ok (.iconst 0, 1) := by decide +kernel
theorem dX10_read_84 : decode cX10_read 84 = .ok (.iconst 0, 1) := by decide +kernel
theorem dX10_read_85 : decode cX10_read 85 = .ok (.iconst 0, 1) := by decide +kernel
theorem dX10_read_86 : decode cX10_read 86 = .ok (.invokevirtual 166, 3) := by decide +kernel
theorem dX10_read_89 : decode cX10_read 89 = .ok (.invokevirtual 311, 3) := by decide +kernel
theorem dX10_read_92 : decode cX10_read 92 = .ok (.istore 4, 2) := by decide +kernel
theorem dX10_read_94 : decode cX10_read 94 = .ok (.aload_n 0, 1) := by decide +kernel
theorem dX10_read_95 : decode cX10_read 95 = .ok (.getfield 146, 3) := by decide +kernel
theorem dX10_read_98 : decode cX10_read 98 = .ok (.ifCond .eq 7, 3) := by decide +kernel
theorem dX10_read_101 : decode cX10_read 101 = .ok (.iconst 0, 1) := by decide +kernel
theorem dX10_read_102 : decode cX10_read 102 = .ok (.goto 24, 3) := by decide +kernel
theorem dX10_read_105 : decode cX10_read 105 = .ok (.aload_n 0, 1) := by decide +kernel
theorem dX10_read_106 : decode cX10_read 106 = .ok (.aload_n 0, 1) := by decide +kernel
theorem dX10_read_107 : decode cX10_read 107 = .ok (.bipush 109, 2) := by decide +kernel
theorem dX10_read_109 : decode cX10_read 109 = .ok (.bipush 105, 2) := by decide +kernel
theorem dX10_read_111 : decode cX10_read 111 = .ok (.bipush 110, 2) := by decide +kernel
theorem dX10_read_113 : decode cX10_read 113 = .ok (.bipush 100, 2) := by decide +kernel
theorem dX10_read_115 : decode cX10_read 115 = .ok (.bipush 115, 2) := by decide +kernel
theorem dX10_read_117 : decode cX10_read 117 = .ok (.iconst 0, 1) := by decide +kernel
theorem dX10_read_118 : decode cX10_read 118 = .ok (.iconst 0, 1) := by decide +kernel
theorem dX10_read_119 : decode cX10_read 119 = .ok (.iconst 0, 1) := by decide +kernel
theorem dX10_read_120 : decode cX10_read 120 = .ok (.invokevirtual 166, 3) := by decide +kernel
theorem dX10_read_123 : decode cX10_read 123 = .ok (.invokevirtual 311, 3) := by decide +kernel
theorem dX10_read_126 : decode cX10_read 126 = .ok (.istore 5, 2) := by decide +kernel
theorem dX10_read_128 : decode cX10_read 128 = .ok (.aload_n 0, 1) := by decide +kernel
theorem dX10_read_129 : decode cX10_read 129 = .ok (.getfield 146, 3) := by decide +kernel
theorem dX10_read_132 : decode cX10_read 132 = .ok (.ifCond .ne 14, 3) := by decide +kernel
theorem dX10_read_135 : decode cX10_read 135 = .ok (.aload_n 0, 1) := by decide +kernel
theorem dX10_read_136 : decode cX10_read 136 = .ok (.getfield 129, 3) := by decide +kernel
theorem dX10_read_139 : decode cX10_read 139 = .ok (.ifCond .eq 7, 3) := by decide +kernel
theorem dX10_read_142 : decode cX10_read 142 = .ok (.aload_n 0, 1) := by decide +kernel
theorem dX10_read_143 : decode cX10_read 143 = .ok (.invokevirtual 160, 3) := by decide +kernel
theorem dX10_read_146 : decode cX10_read 146 = .ok (.iload_n 2, 1) := by decide +kernel
theorem dX10_read_147 : decode cX10_read 147 = .ok (.ifCond .ne 7, 3) := by decide +kernel
theorem dX10_read_150 : decode cX10_read 150 = .ok (.iload_n 3, 1) := by decide +kernel
theorem dX10_read_151 : decode cX10_read 151 = .ok (.goto 15, 3) := by decide +kernel
theorem dX10_read_154 : decode cX10_read 154 = .ok (.iload_n 2, 1) := by decide +kernel
theorem dX10_read_155 : decode cX10_read 155 = .ok (.iconst 1, 1) := by decide +kernel
theorem dX10_read_156 : decode cX10_read 156 = .ok (.if_icmp .ne 8, 3) := by decide +kernel
theorem dX10_read_159 : decode cX10_read 159 = .ok (.iload 4, 2) := by decide +kernel
theorem dX10_read_161 : decode cX10_read 161 = .ok (.goto 5, 3) := by decide +kernel
theorem dX10_read_164 : decode cX10_read 164 = .ok (.iload 5, 2) := by decide +kernel
theorem dX10_read_166 : decode cX10_read 166 = .ok (.ireturn, 1) := by decide +kernel
theorem dX10_text_0 : decode cX10_text 0 = .ok (.aload_n 0, 1) := by decide +kernel
theorem dX10_text_1 : decode cX10_text 1 = .ok (.getfield 67, 3) := by decide +kernel
theorem dX10_text_4 : decode cX10_text 4 = .ok (.bipush 6, 2) := by decide +kernel
theorem dX10_text_6 : decode cX10_text 6 = .ok (.if_icmp .ne 6, 3) := by decide +kernel
theorem dX10_text_9 : decode cX10_text 9 = .ok (.bipush (-4), 2) := by decide +kernel
theorem dX10_text_11 : decode cX10_text 11 = .ok (.ireturn, 1) := by decide +kernel
theorem dX10_text_12 : decode cX10_text 12 = .ok (.iconst 0, 1) := by decide +kernel
theorem dX10_text_13 : decode cX10_text 13 = .ok (.istore_n 1, 1) := by decide +kernel
theorem dX10_text_14 : decode cX10_text 14 = .ok (.iload_n 1, 1) := by decide +kernel
theorem dX10_text_15 : decode cX10_text 15 = .ok (.aload_n 0, 1) := by decide +kernel
theorem dX10_text_16 : decode cX10_text 16 = .ok (.getfield 111, 3) := by decide +kernel
theorem dX10_text_19 : decode cX10_text 19 = .ok (.if_icmp .ge 30, 3) := by decide +kernel
theorem dX10_text_22 : decode cX10_text 22 = .ok (.aload_n 0, 1) := by decide +kernel
theorem dX10_text_23 : decode cX10_text 23 = .ok (.getfield 13, 3) := by decide +kernel
theorem dX10_text_26 : decode cX10_text 26 = .ok (.sipush 160, 3) := by decide +kernel
theorem dX10_text_29 : decode cX10_text 29 = .ok (.aload_n 0, 1) := by decide +kernel
theorem dX10_text_30 : decode cX10_text 30 = .ok (.getfield 67, 3) := by decide +kernel
theorem dX10_text_33 : decode cX10_text 33 = .ok (.imul, 1) := by decide +kernel
theorem dX10_text_34 : decode cX10_text 34 = .ok (.iload_n 1, 1) := by decide +kernel
theorem dX10_text_35 : decode cX10_text 35 = .ok (.iadd, 1) := by decide +kernel
theorem dX10_text_36 : decode cX10_text 36 = .ok (.aload_n 0, 1) := by decide +kernel
theorem dX10_text_37 : decode cX10_text 37 = .ok (.getfield 20, 3) := by decide +kernel
theorem dX10_text_40 : decode cX10_text 40 = .ok (.iload_n 1, 1) := by decide +kernel
theorem dX10_text_41 : decode cX10_text 41 = .ok (.iaload, 1) := by decide +kernel
theorem dX10_text_42 : decode cX10_text 42 = .ok (.iastore, 1) := by decide +kernel
theorem dX10_text_43 : decode cX10_text 43 = .ok (.iinc 1 1, 3) := by decide +kernel
theorem dX10_text_46 : decode cX10_text 46 = .ok (.goto (-32), 3) := by decide +kernel
theorem dX10_text_49 : decode cX10_text 49 = .ok (.aload_n 0, 1) := by decide +kernel
theorem dX10_text_50 : decode cX10_text 50 = .ok (.getfield 17, 3) := by decide +kernel
theorem dX10_text_53 : decode cX10_text 53 = .ok (.aload_n 0, 1) := by decide +kernel
theorem dX10_text_54 : decode cX10_text 54 = .ok (.getfield 67, 3) := by decide +kernel
theorem dX10_text_57 : decode cX10_text 57 = .ok (.aload_n 0, 1) := by decide +kernel
theorem dX10_text_58 : decode cX10_text 58 = .ok (.getfield 111, 3) := by decide +kernel
theorem dX10_text_61 : decode cX10_text 61 = .ok (.iastore, 1) := by decide +kernel
theorem dX10_text_62 : decode cX10_text 62 = .ok (.aload_n 0, 1) := by decide +kernel
theorem dX10_text_63 : decode cX10_text 63 = .ok (.iconst 0, 1) := by decide +kernel
theorem dX10_text_64 : decode cX10_text 64 = .ok (.putfield 111, 3) := by decide +kernel
theorem dX10_text_67 : decode cX10_text 67 = .ok (.aload_n 0, 1) := by decide +kernel
theorem dX10_text_68 : decode cX10_text 68 = .ok (.aload_n 0, 1) := by decide +kernel
theorem dX10_text_69 : decode cX10_text 69 = .ok (.getfield 67, 3) := by decide +kernel
theorem dX10_text_72 : decode cX10_text 72 = .ok (.iconst 0, 1) := by decide +kernel
theorem dX10_text_73 : decode cX10_text 73 = .ok (.invokevirtual 315, 3) := by decide +kernel
theorem dX10_text_76 : decode cX10_text 76 = .ok (.istore_n 1, 1) := by decide +kernel
theorem dX10_text_77 : decode cX10_text 77 = .ok (.aload_n 0, 1) := by decide +kernel
theorem dX10_text_78 : decode cX10_text 78 = .ok (.getfield 146, 3) := by decide +kernel
theorem dX10_text_81 : decode cX10_text 81 = .ok (.ifCond .eq 11, 3) := by decide +kernel
theorem dX10_text_84 : decode cX10_text 84 = .ok (.bipush (-100), 2) := by decide +kernel
theorem dX10_text_86 : decode cX10_text 86 = .ok (.aload_n 0, 1) := by decide +kernel
theorem dX10_text_87 : decode cX10_text 87 = .ok (.getfield 150, 3) := by decide +kernel
theorem dX10_text_90 : decode cX10_text 90 = .ok (.isub, 1) := by decide +kernel
theorem dX10_text_91 : decode cX10_text 91 = .ok (.ireturn, 1) := by decide +kernel
theorem dX10_text_92 : decode cX10_text 92 = .ok (.aload_n 0, 1) := by decide +kernel
theorem dX10_text_93 : decode cX10_text 93 = .ok (.dup, 1) := by decide +kernel
theorem dX10_text_94 : decode cX10_text 94 = .ok (.getfield 67, 3) := by decide +kernel
theorem dX10_text_97 : decode cX10_text 97 = .ok (.iconst 1, 1) := by decide +kernel
theorem dX10_text_98 : decode cX10_text 98 = .ok (.iadd, 1) := by decide +kernel
theorem dX10_text_99 : decode cX10_text 99 = .ok (.putfield 67, 3) := by decide +kernel
theorem dX10_text_102 : decode cX10_text 102 = .ok (.aload_n 0, 1) := by decide +kernel
theorem dX10_text_103 : decode cX10_text 103 = .ok (.getfield 67, 3) := by decide +kernel
theorem dX10_text_106 : decode cX10_text 106 = .ok (.iconst 1, 1) := by decide +kernel
theorem dX10_text_107 : decode cX10_text 107 = .ok (.isub, 1) := by decide +kernel
theorem dX10_text_108 : decode cX10_text 108 = .ok (.ireturn, 1) := by decide +kernel
theorem dX10_force_0 : decode cX10_force 0 = .ok (.iload_n 1, 1) := by decide +kernel
theorem dX10_force_1 : decode cX10_force 1 = .ok (.i2l, 1) := by decide +kernel
theorem dX10_force_2 : decode cX10_force 2 = .ok (.lconst 0, 1) := by decide +kernel
theorem dX10_force_3 : decode cX10_force 3 = .ok (.aload_n 0, 1) := by decide +kernel
theorem dX10_force_4 : decode cX10_force 4 = .ok (.getfield 67, 3) := by decide +kernel
theorem dX10_force_7 : decode cX10_force 7 = .ok (.iconst 1, 1) := by decide +kernel
theorem dX10_force_8 : decode cX10_force 8 = .ok (.isub, 1) := by decide +kernel
theorem dX10_force_9 : decode cX10_force 9 = .ok (.i2l, 1) := by decide +kernel
theorem dX10_force_10 : decode cX10_force 10 = .ok (.invokestatic 73, 3) := by decide +kernel
theorem dX10_force_13 : decode cX10_force 13 = .ok (.ifCond .ne 6, 3) := by decide +kernel
theorem dX10_force_16 : decode cX10_force 16 = .ok (.bipush (-2), 2) := by decide +kernel
theorem dX10_force_18 : decode cX10_force 18 = .ok (.ireturn, 1) := by decide +kernel
theorem dX10_force_19 : decode cX10_force 19 = .ok (.aload_n 0, 1) := by decide +kernel
theorem dX10_force_20 : decode cX10_force 20 = .ok (.getfield 95, 3) := by decide +kernel
theorem dX10_force_23 : decode cX10_force 23 = .ok (.istore_n 2, 1) := by decide +kernel
theorem dX10_force_24 : decode cX10_force 24 = .ok (.aload_n 0, 1) := by decide +kernel
theorem dX10_force_25 : decode cX10_force 25 = .ok (.iload_n 1, 1) := by decide +kernel
theorem dX10_force_26 : decode cX10_force 26 = .ok (.putfield 95, 3) := by decide +kernel
theorem dX10_force_29 : decode cX10_force 29 = .ok (.iload_n 2, 1) := by decide +kernel
theorem dX10_force_30 : decode cX10_force 30 = .ok (.ireturn, 1) := by decide +kernel
theorem dX10_asks_0 : decode cX10_asks 0 = .ok (.aload_n 0, 1) := by decide +kernel
theorem dX10_asks_1 : decode cX10_asks 1 = .ok (.iload 4, 2) := by decide +kernel
theorem dX10_asks_3 : decode cX10_asks 3 = .ok (.putfield 170, 3) := by decide +kernel
theorem dX10_asks_6 : decode cX10_asks 6 = .ok (.aload_n 0, 1) := by decide +kernel
theorem dX10_asks_7 : decode cX10_asks 7 = .ok (.aload_n 0, 1) := by decide +kernel
theorem dX10_asks_8 : decode cX10_asks 8 = .ok (.getfield 29, 3) := by decide +kernel
theorem dX10_asks_11 : decode cX10_asks 11 = .ok (.iconst 4, 1) := by decide +kernel
theorem dX10_asks_12 : decode cX10_asks 12 = .ok (.iload_n 2, 1) := by decide +kernel
theorem dX10_asks_13 : decode cX10_asks 13 = .ok (.imul, 1) := by decide +kernel
theorem dX10_asks_14 : decode cX10_asks 14 = .ok (.iconst 2, 1) := by decide +kernel
theorem dX10_asks_15 : decode cX10_asks 15 = .ok (.iadd, 1) := by decide +kernel
theorem dX10_asks_16 : decode cX10_asks 16 = .ok (.iaload, 1) := by decide +kernel
theorem dX10_asks_17 : decode cX10_asks 17 = .ok (.putfield 173, 3) := by decide +kernel
theorem dX10_asks_20 : decode cX10_asks 20 = .ok (.aload_n 0, 1) := by decide +kernel
theorem dX10_asks_21 : decode cX10_asks 21 = .ok (.iload_n 3, 1) := by decide +kernel
theorem dX10_asks_22 : decode cX10_asks 22 = .ok (.putfield 176, 3) := by decide +kernel
theorem dX10_asks_25 : decode cX10_asks 25 = .ok (.aload_n 0, 1) := by decide +kernel
theorem dX10_asks_26 : decode cX10_asks 26 = .ok (.aload_n 0, 1) := by decide +kernel
theorem dX10_asks_27 : decode cX10_asks 27 = .ok (.getfield 29, 3) := by decide +kernel
theorem dX10_asks_30 : decode cX10_asks 30 = .ok (.iconst 4, 1) := by decide +kernel
theorem dX10_asks_31 : decode cX10_asks 31 = .ok (.iload_n 2, 1) := by decide +kernel
theorem dX10_asks_32 : decode cX10_asks 32 = .ok (.imul, 1) := by decide +kernel
theorem dX10_asks_33 : decode cX10_asks 33 = .ok (.iaload, 1) := by decide +kernel
theorem dX10_asks_34 : decode cX10_asks 34 = .ok (.putfield 179, 3) := by decide +kernel
theorem dX10_asks_37 : decode cX10_asks 37 = .ok (.aload_n 0, 1) := by decide +kernel
theorem dX10_asks_38 : decode cX10_asks 38 = .ok (.iload 4, 2) := by decide +kernel
theorem dX10_asks_40 : decode cX10_asks 40 = .ok (.aload_n 0, 1) := by decide +kernel
theorem dX10_asks_41 : decode cX10_asks 41 = .ok (.getfield 23, 3) := by decide +kernel
theorem dX10_asks_44 : decode cX10_asks 44 = .ok (.iconst 0, 1) := by decide +kernel
theorem dX10_asks_45 : decode cX10_asks 45 = .ok (.iaload, 1) := by decide +kernel
theorem dX10_asks_46 : decode cX10_asks 46 = .ok (.invokestatic 318, 3) := by decide +kernel
theorem dX10_asks_49 : decode cX10_asks 49 = .ok (.putfield 182, 3) := by decide +kernel
theorem dX10_asks_52 : decode cX10_asks 52 = .ok (.aload_n 0, 1) := by decide +kernel
theorem dX10_asks_53 : decode cX10_asks 53 = .ok (.aload_n 0, 1) := by decide +kernel
theorem dX10_asks_54 : decode cX10_asks 54 = .ok (.getfield 29, 3) := by decide +kernel
theorem dX10_asks_57 : decode cX10_asks 57 = .ok (.iconst 4, 1) := by decide +kernel
theorem dX10_asks_58 : decode cX10_asks 58 = .ok (.iload_n 2, 1) := by decide +kernel
theorem dX10_asks_59 : decode cX10_asks 59 = .ok (.imul, 1) := by decide +kernel
theorem dX10_asks_60 : decode cX10_asks 60 = .ok (.iconst 3, 1) := by decide +kernel
theorem dX10_asks_61 : decode cX10_asks 61 = .ok (.iadd, 1) := by decide +kernel
theorem dX10_asks_62 : decode cX10_asks 62 = .ok (.iaload, 1) := by decide +kernel
theorem dX10_asks_63 : decode cX10_asks 63 = .ok (.putfield 185, 3) := by decide +kernel
theorem dX10_asks_66 : decode cX10_asks 66 = .ok (.aload_n 0, 1) := by decide +kernel
theorem dX10_asks_67 : decode cX10_asks 67 = .ok (.aload_n 0, 1) := by decide +kernel
theorem dX10_asks_68 : decode cX10_asks 68 = .ok (.getfield 95, 3) := by decide +kernel
theorem dX10_asks_71 : decode cX10_asks 71 = .ok (.iload_n 1, 1) := by decide +kernel
theorem dX10_asks_72 : decode cX10_asks 72 = .ok (.invokevirtual 315, 3) := by decide +kernel
theorem dX10_asks_75 : decode cX10_asks 75 = .ok (.istore 5, 2) := by decide +kernel
theorem dX10_asks_77 : decode cX10_asks 77 = .ok (.iload_n 1, 1) := by decide +kernel
theorem dX10_asks_78 : decode cX10_asks 78 = .ok (.ifCond .ne 14, 3) := by decide +kernel
theorem dX10_asks_81 : decode cX10_asks 81 = .ok (.iload 5, 2) := by decide +kernel
theorem dX10_asks_83 : decode cX10_asks 83 = .ok (.iconst 0, 1) := by decide +kernel
theorem dX10_asks_84 : decode cX10_asks 84 = .ok (.bipush 100, 2) := by decide +kernel
theorem dX10_asks_86 : decode cX10_asks 86 = .ok (.invokestatic 321, 3) := by decide +kernel
theorem dX10_asks_89 : decode cX10_asks 89 = .ok (.goto 28, 3) := by decide +kernel
theorem dX10_asks_92 : decode cX10_asks 92 = .ok (.iload_n 1, 1) := by decide +kernel
theorem dX10_asks_93 : decode cX10_asks 93 = .ok (.iconst 1, 1) := by decide +kernel
theorem dX10_asks_94 : decode cX10_asks 94 = .ok (.if_icmp .ne 15, 3) := by decide +kernel
theorem dX10_asks_97 : decode cX10_asks 97 = .ok (.iload 5, 2) := by decide +kernel
theorem dX10_asks_99 : decode cX10_asks 99 = .ok (.bipush (-19), 2) := by decide +kernel
theorem dX10_asks_101 : decode cX10_asks 101 = .ok (.bipush 19, 2) := by decide +kernel
theorem dX10_asks_103 : decode cX10_asks 103 = .ok (.invokestatic 321, 3) := by decide +kernel
theorem dX10_asks_106 : decode cX10_asks 106 = .ok (.goto 11, 3) := by decide +kernel
theorem dX10_asks_109 : decode cX10_asks 109 = .ok (.iload 5, 2) := by decide +kernel
theorem dX10_asks_111 : decode cX10_asks 111 = .ok (.iconst 0, 1) := by decide +kernel
theorem dX10_asks_112 : decode cX10_asks 112 = .ok (.bipush 99, 2) := by decide +kernel
theorem dX10_asks_114 : decode cX10_asks 114 = .ok (.invokestatic 321, 3) := by decide +kernel
theorem dX10_asks_117 : decode cX10_asks 117 = .ok (.ireturn, 1) := by decide +kernel
theorem dX10_showsOf_0 : decode cX10_showsOf 0 = .ok (.aload_n 0, 1) := by decide +kernel
theorem dX10_showsOf_1 : decode cX10_showsOf 1 = .ok (.getfield 26, 3) := by decide +kernel
theorem dX10_showsOf_4 : decode cX10_showsOf 4 = .ok (.iload_n 1, 1) := by decide +kernel
theorem dX10_showsOf_5 : decode cX10_showsOf 5 = .ok (.iaload, 1) := by decide +kernel
theorem dX10_showsOf_6 : decode cX10_showsOf 6 = .ok (.istore_n 3, 1) := by decide +kernel
theorem dX10_showsOf_7 : decode cX10_showsOf 7 = .ok (.aload_n 0, 1) := by decide +kernel
theorem dX10_showsOf_8 : decode cX10_showsOf 8 = .ok (.getfield 29, 3) := by decide +kernel
theorem dX10_showsOf_11 : decode cX10_showsOf 11 = .ok (.iconst 4, 1) := by decide +kernel
theorem dX10_showsOf_12 : decode cX10_showsOf 12 = .ok (.iload_n 1, 1) := by decide +kernel
theorem dX10_showsOf_13 : decode cX10_showsOf 13 = .ok (.imul, 1) := by decide +kernel
theorem dX10_showsOf_14 : decode cX10_showsOf 14 = .ok (.iconst 3, 1) := by decide +kernel
theorem dX10_showsOf_15 : decode cX10_showsOf 15 = .ok (.iadd, 1) := by decide +kernel
theorem dX10_showsOf_16 : decode cX10_showsOf 16 = .ok (.iaload, 1) := by decide +kernel
theorem dX10_showsOf_17 : decode cX10_showsOf 17 = .ok (.aload_n 0, 1) := by decide +kernel
theorem dX10_showsOf_18 : decode cX10_showsOf 18 = .ok (.getfield 23, 3) := by decide +kernel
theorem dX10_showsOf_21 : decode cX10_showsOf 21 = .ok (.iconst 2, 1) := by decide +kernel
theorem dX10_showsOf_22 : decode cX10_showsOf 22 = .ok (.iaload, 1) := by decide +kernel
theorem dX10_showsOf_23 : decode cX10_showsOf 23 = .ok (.if_icmp .ne 7, 3) := by decide +kernel
theorem dX10_showsOf_26 : decode cX10_showsOf 26 = .ok (.iload_n 2, 1) := by decide +kernel
theorem dX10_showsOf_27 : decode cX10_showsOf 27 = .ok (.goto 6, 3) := by decide +kernel
theorem dX10_showsOf_30 : decode cX10_showsOf 30 = .ok (.iload_n 2, 1) := by decide +kernel
theorem dX10_showsOf_31 : decode cX10_showsOf 31 = .ok (.iconst 2, 1) := by decide +kernel
theorem dX10_showsOf_32 : decode cX10_showsOf 32 = .ok (.idiv, 1) := by decide +kernel
theorem dX10_showsOf_33 : decode cX10_showsOf 33 = .ok (.istore 4, 2) := by decide +kernel
theorem dX10_showsOf_35 : decode cX10_showsOf 35 = .ok (.iload_n 3, 1) := by decide +kernel
theorem dX10_showsOf_36 : decode cX10_showsOf 36 = .ok (.iconst 1, 1) := by decide +kernel
theorem dX10_showsOf_37 : decode cX10_showsOf 37 = .ok (.if_icmp .ne 10, 3) := by decide +kernel
theorem dX10_showsOf_40 : decode cX10_showsOf 40 = .ok (.iload 4, 2) := by decide +kernel
theorem dX10_showsOf_42 : decode cX10_showsOf 42 = .ok (.iconst 2, 1) := by decide +kernel
theorem dX10_showsOf_43 : decode cX10_showsOf 43 = .ok (.idiv, 1) := by decide +kernel
theorem dX10_showsOf_44 : decode cX10_showsOf 44 = .ok (.goto 63, 3) := by decide +kernel
theorem dX10_showsOf_47 : decode cX10_showsOf 47 = .ok (.iload_n 3, 1) := by decide +kernel
theorem dX10_showsOf_48 : decode cX10_showsOf 48 = .ok (.iconst 3, 1) := by decide +kernel
theorem dX10_showsOf_49 : decode cX10_showsOf 49 = .ok (.if_icmp .ne 19, 3) := by decide +kernel
theorem dX10_showsOf_52 : decode cX10_showsOf 52 = .ok (.iload 4, 2) := by decide +kernel
theorem dX10_showsOf_54 : decode cX10_showsOf 54 = .ok (.iconst 2, 1) := by decide +kernel
theorem dX10_showsOf_55 : decode cX10_showsOf 55 = .ok (.idiv, 1) := by decide +kernel
theorem dX10_showsOf_56 : decode cX10_showsOf 56 = .ok (.aload_n 0, 1) := by decide +kernel
theorem dX10_showsOf_57 : decode cX10_showsOf 57 = .ok (.getfield 29, 3) := by decide +kernel
theorem dX10_showsOf_60 : decode cX10_showsOf 60 = .ok (.iconst 4, 1) := by decide +kernel
theorem dX10_showsOf_61 : decode cX10_showsOf 61 = .ok (.iload_n 1, 1) := by decide +kernel
theorem dX10_showsOf_62 : decode cX10_showsOf 62 = .ok (.imul, 1) := by decide +kernel
theorem dX10_showsOf_63 : decode cX10_showsOf 63 = .ok (.iaload, 1) := by decide +kernel
theorem dX10_showsOf_64 : decode cX10_showsOf 64 = .ok (.isub, 1) := by decide +kernel
theorem dX10_showsOf_65 : decode cX10_showsOf 65 = .ok (.goto 42, 3) := by decide +kernel
theorem dX10_showsOf_68 : decode cX10_showsOf 68 = .ok (.iload_n 3, 1) := by decide +kernel
theorem dX10_showsOf_69 : decode cX10_showsOf 69 = .ok (.iconst 2, 1) := by decide +kernel
theorem dX10_showsOf_70 : decode cX10_showsOf 70 = .ok (.if_icmp .eq 8, 3) := by decide +kernel
theorem dX10_showsOf_73 : decode cX10_showsOf 73 = .ok (.iload_n 3, 1) := by decide +kernel
theorem dX10_showsOf_74 : decode cX10_showsOf 74 = .ok (.iconst 4, 1) := by decide +kernel
theorem dX10_showsOf_75 : decode cX10_showsOf 75 = .ok (.if_icmp .ne 11, 3) := by decide +kernel
theorem dX10_showsOf_78 : decode cX10_showsOf 78 = .ok (.iload 4, 2) := by decide +kernel
theorem dX10_showsOf_80 : decode cX10_showsOf 80 = .ok (.bipush 20, 2) := by decide +kernel
theorem dX10_showsOf_82 : decode cX10_showsOf 82 = .ok (.iadd, 1) := by decide +kernel
theorem dX10_showsOf_83 : decode cX10_showsOf 83 = .ok (.goto 24, 3) := by decide +kernel
theorem dX10_showsOf_86 : decode cX10_showsOf 86 = .ok (.iload_n 3, 1) := by decide +kernel
theorem dX10_showsOf_87 : decode cX10_showsOf 87 = .ok (.iconst 5, 1) := by decide +kernel
theorem dX10_showsOf_88 : decode cX10_showsOf 88 = .ok (.if_icmp .ne 17, 3) := by decide +kernel
theorem dX10_showsOf_91 : decode cX10_showsOf 91 = .ok (.iload 4, 2) := by decide +kernel
theorem dX10_showsOf_93 : decode cX10_showsOf 93 = .ok (.aload_n 0, 1) := by decide +kernel
theorem dX10_showsOf_94 : decode cX10_showsOf 94 = .ok (.getfield 29, 3) := by decide +kernel
theorem dX10_showsOf_97 : decode cX10_showsOf 97 = .ok (.iconst 4, 1) := by decide +kernel
theorem dX10_showsOf_98 : decode cX10_showsOf 98 = .ok (.iload_n 1, 1) := by decide +kernel
theorem dX10_showsOf_99 : decode cX10_showsOf 99 = .ok (.imul, 1) := by decide +kernel
theorem dX10_showsOf_100 : decode cX10_showsOf 100 = .ok (.iaload, 1) := by decide +kernel
theorem dX10_showsOf_101 : decode cX10_showsOf 101 = .ok (.iadd, 1) := by decide +kernel
theorem dX10_showsOf_102 : decode cX10_showsOf 102 = .ok (.goto 5, 3) := by decide +kernel
theorem dX10_showsOf_105 : decode cX10_showsOf 105 = .ok (.iload 4, 2) := by decide +kernel
theorem dX10_showsOf_107 : decode cX10_showsOf 107 = .ok (.istore 5, 2) := by decide +kernel
theorem dX10_showsOf_109 : decode cX10_showsOf 109 = .ok (.iload 5, 2) := by decide +kernel
theorem dX10_showsOf_111 : decode cX10_showsOf 111 = .ok (.iconst 0, 1) := by decide +kernel
theorem dX10_showsOf_112 : decode cX10_showsOf 112 = .ok (.bipush 100, 2) := by decide +kernel
theorem dX10_showsOf_114 : decode cX10_showsOf 114 = .ok (.invokestatic 321, 3) := by decide +kernel
theorem dX10_showsOf_117 : decode cX10_showsOf 117 = .ok (.ireturn, 1) := by decide +kernel
theorem dX10_movesOf_0 : decode cX10_movesOf 0 = .ok (.aload_n 0, 1) := by decide +kernel
theorem dX10_movesOf_1 : decode cX10_movesOf 1 = .ok (.getfield 26, 3) := by decide +kernel
theorem dX10_movesOf_4 : decode cX10_movesOf 4 = .ok (.iload_n 1, 1) := by decide +kernel
theorem dX10_movesOf_5 : decode cX10_movesOf 5 = .ok (.iaload, 1) := by decide +kernel
theorem dX10_movesOf_6 : decode cX10_movesOf 6 = .ok (.istore_n 3, 1) := by decide +kernel
theorem dX10_movesOf_7 : decode cX10_movesOf 7 = .ok (.iload_n 3, 1) := by decide +kernel
theorem dX10_movesOf_8 : decode cX10_movesOf 8 = .ok (.iconst 2, 1) := by decide +kernel
theorem dX10_movesOf_9 : decode cX10_movesOf 9 = .ok (.if_icmp .ne 9, 3) := by decide +kernel
theorem dX10_movesOf_12 : decode cX10_movesOf 12 = .ok (.iconst 2, 1) := by decide +kernel
theorem dX10_movesOf_13 : decode cX10_movesOf 13 = .ok (.iload_n 2, 1) := by decide +kernel
theorem dX10_movesOf_14 : decode cX10_movesOf 14 = .ok (.imul, 1) := by decide +kernel
theorem dX10_movesOf_15 : decode cX10_movesOf 15 = .ok (.goto 39, 3) := by decide +kernel
theorem dX10_movesOf_18 : decode cX10_movesOf 18 = .ok (.iload_n 3, 1) := by decide +kernel
theorem dX10_movesOf_19 : decode cX10_movesOf 19 = .ok (.iconst 3, 1) := by decide +kernel
theorem dX10_movesOf_20 : decode cX10_movesOf 20 = .ok (.if_icmp .ne 9, 3) := by decide +kernel
theorem dX10_movesOf_23 : decode cX10_movesOf 23 = .ok (.iload_n 2, 1) := by decide +kernel
theorem dX10_movesOf_24 : decode cX10_movesOf 24 = .ok (.iconst 1, 1) := by decide +kernel
theorem dX10_movesOf_25 : decode cX10_movesOf 25 = .ok (.iadd, 1) := by decide +kernel
theorem dX10_movesOf_26 : decode cX10_movesOf 26 = .ok (.goto 28, 3) := by decide +kernel
theorem dX10_movesOf_29 : decode cX10_movesOf 29 = .ok (.iload_n 3, 1) := by decide +kernel
theorem dX10_movesOf_30 : decode cX10_movesOf 30 = .ok (.iconst 4, 1) := by decide +kernel
theorem dX10_movesOf_31 : decode cX10_movesOf 31 = .ok (.if_icmp .ne 11, 3) := by decide +kernel
theorem dX10_movesOf_34 : decode cX10_movesOf 34 = .ok (.iconst 2, 1) := by decide +kernel
theorem dX10_movesOf_35 : decode cX10_movesOf 35 = .ok (.iload_n 2, 1) := by decide +kernel
theorem dX10_movesOf_36 : decode cX10_movesOf 36 = .ok (.imul, 1) := by decide +kernel
theorem dX10_movesOf_37 : decode cX10_movesOf 37 = .ok (.iconst 1, 1) := by decide +kernel
theorem dX10_movesOf_38 : decode cX10_movesOf 38 = .ok (.isub, 1) := by decide +kernel
theorem dX10_movesOf_39 : decode cX10_movesOf 39 = .ok (.goto 15, 3) := by decide +kernel
theorem dX10_movesOf_42 : decode cX10_movesOf 42 = .ok (.iload_n 3, 1) := by decide +kernel
theorem dX10_movesOf_43 : decode cX10_movesOf 43 = .ok (.iconst 5, 1) := by decide +kernel
theorem dX10_movesOf_44 : decode cX10_movesOf 44 = .ok (.if_icmp .ne 9, 3) := by decide +kernel
theorem dX10_movesOf_47 : decode cX10_movesOf 47 = .ok (.iload_n 2, 1) := by decide +kernel
theorem dX10_movesOf_48 : decode cX10_movesOf 48 = .ok (.iconst 2, 1) := by decide +kernel
theorem dX10_movesOf_49 : decode cX10_movesOf 49 = .ok (.idiv, 1) := by decide +kernel
theorem dX10_movesOf_50 : decode cX10_movesOf 50 = .ok (.goto 4, 3) := by decide +kernel
theorem dX10_movesOf_53 : decode cX10_movesOf 53 = .ok (.iload_n 2, 1) := by decide +kernel
theorem dX10_movesOf_54 : decode cX10_movesOf 54 = .ok (.ireturn, 1) := by decide +kernel
theorem dX10_passes_0 : decode cX10_passes 0 = .ok (.aload_n 0, 1) := by decide +kernel
theorem dX10_passes_1 : decode cX10_passes 1 = .ok (.getfield 23, 3) := by decide +kernel
theorem dX10_passes_4 : decode cX10_passes 4 = .ok (.iconst 0, 1) := by decide +kernel
theorem dX10_passes_5 : decode cX10_passes 5 = .ok (.iaload, 1) := by decide +kernel
theorem dX10_passes_6 : decode cX10_passes 6 = .ok (.aload_n 0, 1) := by decide +kernel
theorem dX10_passes_7 : decode cX10_passes 7 = .ok (.getfield 23, 3) := by decide +kernel
theorem dX10_passes_10 : decode cX10_passes 10 = .ok (.iconst 1, 1) := by decide +kernel
theorem dX10_passes_11 : decode cX10_passes 11 = .ok (.iaload, 1) := by decide +kernel
theorem dX10_passes_12 : decode cX10_passes 12 = .ok (.if_icmp .ge 25, 3) := by decide +kernel
theorem dX10_passes_15 : decode cX10_passes 15 = .ok (.iload_n 1, 1) := by decide +kernel
theorem dX10_passes_16 : decode cX10_passes 16 = .ok (.i2l, 1) := by decide +kernel
theorem dX10_passes_17 : decode cX10_passes 17 = .ok (.aload_n 0, 1) := by decide +kernel
theorem dX10_passes_18 : decode cX10_passes 18 = .ok (.getfield 23, 3) := by decide +kernel
theorem dX10_passes_21 : decode cX10_passes 21 = .ok (.iconst 0, 1) := by decide +kernel
theorem dX10_passes_22 : decode cX10_passes 22 = .ok (.iaload, 1) := by decide +kernel
theorem dX10_passes_23 : decode cX10_passes 23 = .ok (.i2l, 1) := by decide +kernel
theorem dX10_passes_24 : decode cX10_passes 24 = .ok (.aload_n 0, 1) := by decide +kernel
theorem dX10_passes_25 : decode cX10_passes 25 = .ok (.getfield 23, 3) := by decide +kernel
theorem dX10_passes_28 : decode cX10_passes 28 = .ok (.iconst 1, 1) := by decide +kernel
theorem dX10_passes_29 : decode cX10_passes 29 = .ok (.iaload, 1) := by decide +kernel
theorem dX10_passes_30 : decode cX10_passes 30 = .ok (.i2l, 1) := by decide +kernel
theorem dX10_passes_31 : decode cX10_passes 31 = .ok (.invokestatic 73, 3) := by decide +kernel
theorem dX10_passes_34 : decode cX10_passes 34 = .ok (.goto 22, 3) := by decide +kernel
theorem dX10_passes_37 : decode cX10_passes 37 = .ok (.iload_n 1, 1) := by decide +kernel
theorem dX10_passes_38 : decode cX10_passes 38 = .ok (.i2l, 1) := by decide +kernel
theorem dX10_passes_39 : decode cX10_passes 39 = .ok (.aload_n 0, 1) := by decide +kernel
theorem dX10_passes_40 : decode cX10_passes 40 = .ok (.getfield 23, 3) := by decide +kernel
theorem dX10_passes_43 : decode cX10_passes 43 = .ok (.iconst 1, 1) := by decide +kernel
theorem dX10_passes_44 : decode cX10_passes 44 = .ok (.iaload, 1) := by decide +kernel
theorem dX10_passes_45 : decode cX10_passes 45 = .ok (.i2l, 1) := by decide +kernel
theorem dX10_passes_46 : decode cX10_passes 46 = .ok (.aload_n 0, 1) := by decide +kernel
theorem dX10_passes_47 : decode cX10_passes 47 = .ok (.getfield 23, 3) := by decide +kernel
theorem dX10_passes_50 : decode cX10_passes 50 = .ok (.iconst 0, 1) := by decide +kernel
theorem dX10_passes_51 : decode cX10_passes 51 = .ok (.iaload, 1) := by decide +kernel
theorem dX10_passes_52 : decode cX10_passes 52 = .ok (.i2l, 1) := by decide +kernel
theorem dX10_passes_53 : decode cX10_passes 53 = .ok (.invokestatic 73, 3) := by decide +kernel
theorem dX10_passes_56 : decode cX10_passes 56 = .ok (.ireturn, 1) := by decide +kernel
theorem dX10_gathers_0 : decode cX10_gathers 0 = .ok (.aload_n 0, 1) := by decide +kernel
theorem dX10_gathers_1 : decode cX10_gathers 1 = .ok (.getfield 29, 3) := by decide +kernel
theorem dX10_gathers_4 : decode cX10_gathers 4 = .ok (.iconst 4, 1) := by decide +kernel
theorem dX10_gathers_5 : decode cX10_gathers 5 = .ok (.iload_n 1, 1) := by decide +kernel
theorem dX10_gathers_6 : decode cX10_gathers 6 = .ok (.imul, 1) := by decide +kernel
theorem dX10_gathers_7 : decode cX10_gathers 7 = .ok (.iconst 1, 1) := by decide +kernel
theorem dX10_gathers_8 : decode cX10_gathers 8 = .ok (.iadd, 1) := by decide +kernel
theorem dX10_gathers_9 : decode cX10_gathers 9 = .ok (.iaload, 1) := by decide +kernel
theorem dX10_gathers_10 : decode cX10_gathers 10 = .ok (.istore_n 2, 1) := by decide +kernel
theorem dX10_gathers_11 : decode cX10_gathers 11 = .ok (.iconst 0, 1) := by decide +kernel
theorem dX10_gathers_12 : decode cX10_gathers 12 = .ok (.istore_n 3, 1) := by decide +kernel
theorem dX10_gathers_13 : decode cX10_gathers 13 = .ok (.iload_n 3, 1) := by decide +kernel
theorem dX10_gathers_14 : decode cX10_gathers 14 = .ok (.bipush 30, 2) := by decide +kernel
theorem dX10_gathers_16 : decode cX10_gathers 16 = .ok (.if_icmp .ge 92, 3) := by decide +kernel
theorem dX10_gathers_19 : decode cX10_gathers 19 = .ok (.aload_n 0, 1) := by decide +kernel
theorem dX10_gathers_20 : decode cX10_gathers 20 = .ok (.getfield 32, 3) := by decide +kernel
theorem dX10_gathers_23 : decode cX10_gathers 23 = .ok (.iload_n 3, 1) := by decide +kernel
theorem dX10_gathers_24 : decode cX10_gathers 24 = .ok (.iload_n 3, 1) := by decide +kernel
theorem dX10_gathers_25 : decode cX10_gathers 25 = .ok (.aload_n 0, 1) := by decide +kernel
theorem dX10_gathers_26 : decode cX10_gathers 26 = .ok (.iload_n 1, 1) := by decide +kernel
theorem dX10_gathers_27 : decode cX10_gathers 27 = .ok (.invokevirtual 106, 3) := by decide +kernel
theorem dX10_gathers_30 : decode cX10_gathers 30 = .ok (.if_icmp .ge 7, 3) := by decide +kernel
theorem dX10_gathers_33 : decode cX10_gathers 33 = .ok (.iload_n 2, 1) := by decide +kernel
theorem dX10_gathers_34 : decode cX10_gathers 34 = .ok (.goto 4, 3) := by decide +kernel
theorem dX10_gathers_37 : decode cX10_gathers 37 = .ok (.iconst (-1), 1) := by decide +kernel
theorem dX10_gathers_38 : decode cX10_gathers 38 = .ok (.iastore, 1) := by decide +kernel
theorem dX10_gathers_39 : decode cX10_gathers 39 = .ok (.aload_n 0, 1) := by decide +kernel
theorem dX10_gathers_40 : decode cX10_gathers 40 = .ok (.getfield 35, 3) := by decide +kernel
theorem dX10_gathers_43 : decode cX10_gathers 43 = .ok (.iload_n 3, 1) := by decide +kernel
theorem dX10_gathers_44 : decode cX10_gathers 44 = .ok (.aload_n 0, 1) := by decide +kernel
theorem dX10_gathers_45 : decode cX10_gathers 45 = .ok (.getfield 32, 3) := by decide +kernel
theorem dX10_gathers_48 : decode cX10_gathers 48 = .ok (.iload_n 3, 1) := by decide +kernel
theorem dX10_gathers_49 : decode cX10_gathers 49 = .ok (.iaload, 1) := by decide +kernel
theorem dX10_gathers_50 : decode cX10_gathers 50 = .ok (.iconst (-1), 1) := by decide +kernel
theorem dX10_gathers_51 : decode cX10_gathers 51 = .ok (.if_icmp .eq 27, 3) := by decide +kernel
theorem dX10_gathers_54 : decode cX10_gathers 54 = .ok (.aload_n 0, 1) := by decide +kernel
theorem dX10_gathers_55 : decode cX10_gathers 55 = .ok (.iload_n 2, 1) := by decide +kernel
theorem dX10_gathers_56 : decode cX10_gathers 56 = .ok (.invokevirtual 325, 3) := by decide +kernel
theorem dX10_gathers_59 : decode cX10_gathers 59 = .ok (.ifCond .eq 19, 3) := by decide +kernel
theorem dX10_gathers_62 : decode cX10_gathers 62 = .ok (.aload_n 0, 1) := by decide +kernel
theorem dX10_gathers_63 : decode cX10_gathers 63 = .ok (.iload_n 1, 1) := by decide +kernel
theorem dX10_gathers_64 : decode cX10_gathers 64 = .ok (.aload_n 0, 1) := by decide +kernel
theorem dX10_gathers_65 : decode cX10_gathers 65 = .ok (.iconst 0, 1) := by decide +kernel
theorem dX10_gathers_66 : decode cX10_gathers 66 = .ok (.iload_n 1, 1) := by decide +kernel
theorem dX10_gathers_67 : decode cX10_gathers 67 = .ok (.iload_n 3, 1) := by decide +kernel
theorem dX10_gathers_68 : decode cX10_gathers 68 = .ok (.iload_n 2, 1) := by decide +kernel
theorem dX10_gathers_69 : decode cX10_gathers 69 = .ok (.invokevirtual 328, 3) := by decide +kernel
theorem dX10_gathers_72 : decode cX10_gathers 72 = .ok (.invokevirtual 332, 3) := by decide +kernel
theorem dX10_gathers_75 : decode cX10_gathers 75 = .ok (.goto 4, 3) := by decide +kernel
theorem dX10_gathers_78 : decode cX10_gathers 78 = .ok (.iconst 0, 1) := by decide +kernel
theorem dX10_gathers_79 : decode cX10_gathers 79 = .ok (.iastore, 1) := by decide +kernel
theorem dX10_gathers_80 : decode cX10_gathers 80 = .ok (.iload_n 2, 1) := by decide +kernel
theorem dX10_gathers_81 : decode cX10_gathers 81 = .ok (.aload_n 0, 1) := by decide +kernel
theorem dX10_gathers_82 : decode cX10_gathers 82 = .ok (.iload_n 1, 1) := by decide +kernel
theorem dX10_gathers_83 : decode cX10_gathers 83 = .ok (.aload_n 0, 1) := by decide +kernel
theorem dX10_gathers_84 : decode cX10_gathers 84 = .ok (.iconst 1, 1) := by decide +kernel
theorem dX10_gathers_85 : decode cX10_gathers 85 = .ok (.iload_n 1, 1) := by decide +kernel
theorem dX10_gathers_86 : decode cX10_gathers 86 = .ok (.iload_n 3, 1) := by decide +kernel
theorem dX10_gathers_87 : decode cX10_gathers 87 = .ok (.iload_n 2, 1) := by decide +kernel
theorem dX10_gathers_88 : decode cX10_gathers 88 = .ok (.invokevirtual 328, 3) := by decide +kernel
theorem dX10_gathers_91 : decode cX10_gathers 91 = .ok (.invokevirtual 335, 3) := by decide +kernel
theorem dX10_gathers_94 : decode cX10_gathers 94 = .ok (.iadd, 1) := by decide +kernel
theorem dX10_gathers_95 : decode cX10_gathers 95 = .ok (.iconst 0, 1) := by decide +kernel
theorem dX10_gathers_96 : decode cX10_gathers 96 = .ok (.bipush 19, 2) := by decide +kernel
theorem dX10_gathers_98 : decode cX10_gathers 98 = .ok (.invokestatic 321, 3) := by decide +kernel
theorem dX10_gathers_101 : decode cX10_gathers 101 = .ok (.istore_n 2, 1) := by decide +kernel
theorem dX10_gathers_102 : decode cX10_gathers 102 = .ok (.iinc 3 1, 3) := by decide +kernel
theorem dX10_gathers_105 : decode cX10_gathers 105 = .ok (.goto (-92), 3) := by decide +kernel
theorem dX10_gathers_108 : decode cX10_gathers 108 = .ok (.return_, 1) := by decide +kernel
theorem dX10_mindsOn_0 : decode cX10_mindsOn 0 = .ok (.aload_n 0, 1) := by decide +kernel
theorem dX10_mindsOn_1 : decode cX10_mindsOn 1 = .ok (.getfield 32, 3) := by decide +kernel
theorem dX10_mindsOn_4 : decode cX10_mindsOn 4 = .ok (.iload_n 2, 1) := by decide +kernel
theorem dX10_mindsOn_5 : decode cX10_mindsOn 5 = .ok (.iaload, 1) := by decide +kernel
theorem dX10_mindsOn_6 : decode cX10_mindsOn 6 = .ok (.iconst (-1), 1) := by decide +kernel
theorem dX10_mindsOn_7 : decode cX10_mindsOn 7 = .ok (.if_icmp .ne 7, 3) := by decide +kernel
theorem dX10_mindsOn_10 : decode cX10_mindsOn 10 = .ok (.iconst 0, 1) := by decide +kernel
theorem dX10_mindsOn_11 : decode cX10_mindsOn 11 = .ok (.goto 16, 3) := by decide +kernel
theorem dX10_mindsOn_14 : decode cX10_mindsOn 14 = .ok (.aload_n 0, 1) := by decide +kernel
theorem dX10_mindsOn_15 : decode cX10_mindsOn 15 = .ok (.iconst 2, 1) := by decide +kernel
theorem dX10_mindsOn_16 : decode cX10_mindsOn 16 = .ok (.iload_n 1, 1) := by decide +kernel
theorem dX10_mindsOn_17 : decode cX10_mindsOn 17 = .ok (.iload_n 2, 1) := by decide +kernel
theorem dX10_mindsOn_18 : decode cX10_mindsOn 18 = .ok (.aload_n 0, 1) := by decide +kernel
theorem dX10_mindsOn_19 : decode cX10_mindsOn 19 = .ok (.getfield 32, 3) := by decide +kernel
theorem dX10_mindsOn_22 : decode cX10_mindsOn 22 = .ok (.iload_n 2, 1) := by decide +kernel
theorem dX10_mindsOn_23 : decode cX10_mindsOn 23 = .ok (.iaload, 1) := by decide +kernel
theorem dX10_mindsOn_24 : decode cX10_mindsOn 24 = .ok (.invokevirtual 328, 3) := by decide +kernel
theorem dX10_mindsOn_27 : decode cX10_mindsOn 27 = .ok (.ireturn, 1) := by decide +kernel
theorem dX10_day_0 : decode cX10_day 0 = .ok (.aload_n 0, 1) := by decide +kernel
theorem dX10_day_1 : decode cX10_day 1 = .ok (.iload_n 1, 1) := by decide +kernel
theorem dX10_day_2 : decode cX10_day 2 = .ok (.invokevirtual 79, 3) := by decide +kernel
theorem dX10_day_5 : decode cX10_day 5 = .ok (.ifCond .eq 27, 3) := by decide +kernel
theorem dX10_day_8 : decode cX10_day 8 = .ok (.iload_n 2, 1) := by decide +kernel
theorem dX10_day_9 : decode cX10_day 9 = .ok (.i2l, 1) := by decide +kernel
theorem dX10_day_10 : decode cX10_day 10 = .ok (.lconst 0, 1) := by decide +kernel
theorem dX10_day_11 : decode cX10_day 11 = .ok (.ldc2_w 338, 3) := by decide +kernel
theorem dX10_day_14 : decode cX10_day 14 = .ok (.invokestatic 73, 3) := by decide +kernel
theorem dX10_day_17 : decode cX10_day 17 = .ok (.ifCond .eq 15, 3) := by decide +kernel
theorem dX10_day_20 : decode cX10_day 20 = .ok (.iload_n 3, 1) := by decide +kernel
theorem dX10_day_21 : decode cX10_day 21 = .ok (.i2l, 1) := by decide +kernel
theorem dX10_day_22 : decode cX10_day 22 = .ok (.lconst 0, 1) := by decide +kernel
theorem dX10_day_23 : decode cX10_day 23 = .ok (.ldc2_w 340, 3) := by decide +kernel
theorem dX10_day_26 : decode cX10_day 26 = .ok (.invokestatic 73, 3) := by decide +kernel
theorem dX10_day_29 : decode cX10_day 29 = .ok (.ifCond .ne 6, 3) := by decide +kernel
theorem dX10_day_32 : decode cX10_day 32 = .ok (.bipush (-2), 2) := by decide +kernel
theorem dX10_day_34 : decode cX10_day 34 = .ok (.ireturn, 1) := by decide +kernel
theorem dX10_day_35 : decode cX10_day 35 = .ok (.aload_n 0, 1) := by decide +kernel
theorem dX10_day_36 : decode cX10_day 36 = .ok (.iload_n 1, 1) := by decide +kernel
theorem dX10_day_37 : decode cX10_day 37 = .ok (.invokevirtual 342, 3) := by decide +kernel
theorem dX10_day_40 : decode cX10_day 40 = .ok (.iload_n 3, 1) := by decide +kernel
theorem dX10_day_41 : decode cX10_day 41 = .ok (.ifCond .ne 12, 3) := by decide +kernel
theorem dX10_day_44 : decode cX10_day 44 = .ok (.aload_n 0, 1) := by decide +kernel
theorem dX10_day_45 : decode cX10_day 45 = .ok (.getfield 32, 3) := by decide +kernel
theorem dX10_day_48 : decode cX10_day 48 = .ok (.iload_n 2, 1) := by decide +kernel
theorem dX10_day_49 : decode cX10_day 49 = .ok (.iaload, 1) := by decide +kernel
theorem dX10_day_50 : decode cX10_day 50 = .ok (.goto 23, 3) := by decide +kernel
theorem dX10_day_53 : decode cX10_day 53 = .ok (.iload_n 3, 1) := by decide +kernel
theorem dX10_day_54 : decode cX10_day 54 = .ok (.iconst 1, 1) := by decide +kernel
theorem dX10_day_55 : decode cX10_day 55 = .ok (.if_icmp .ne 12, 3) := by decide +kernel
theorem dX10_day_58 : decode cX10_day 58 = .ok (.aload_n 0, 1) := by decide +kernel
theorem dX10_day_59 : decode cX10_day 59 = .ok (.getfield 35, 3) := by decide +kernel
theorem dX10_day_62 : decode cX10_day 62 = .ok (.iload_n 2, 1) := by decide +kernel
theorem dX10_day_63 : decode cX10_day 63 = .ok (.iaload, 1) := by decide +kernel
theorem dX10_day_64 : decode cX10_day 64 = .ok (.goto 9, 3) := by decide +kernel
theorem dX10_day_67 : decode cX10_day 67 = .ok (.aload_n 0, 1) := by decide +kernel
theorem dX10_day_68 : decode cX10_day 68 = .ok (.iload_n 1, 1) := by decide +kernel
theorem dX10_day_69 : decode cX10_day 69 = .ok (.iload_n 2, 1) := by decide +kernel
theorem dX10_day_70 : decode cX10_day 70 = .ok (.invokevirtual 346, 3) := by decide +kernel
theorem dX10_day_73 : decode cX10_day 73 = .ok (.ireturn, 1) := by decide +kernel
theorem dX10_found_0 : decode cX10_found 0 = .ok (.aload_n 0, 1) := by decide +kernel
theorem dX10_found_1 : decode cX10_found 1 = .ok (.iload_n 1, 1) := by decide +kernel
theorem dX10_found_2 : decode cX10_found 2 = .ok (.invokevirtual 79, 3) := by decide +kernel
theorem dX10_found_5 : decode cX10_found 5 = .ok (.ifCond .eq 25, 3) := by decide +kernel
theorem dX10_found_8 : decode cX10_found 8 = .ok (.iload_n 2, 1) := by decide +kernel
theorem dX10_found_9 : decode cX10_found 9 = .ok (.i2l, 1) := by decide +kernel
theorem dX10_found_10 : decode cX10_found 10 = .ok (.lconst 0, 1) := by decide +kernel
theorem dX10_found_11 : decode cX10_found 11 = .ok (.ldc2_w 104, 3) := by decide +kernel
theorem dX10_found_14 : decode cX10_found 14 = .ok (.invokestatic 73, 3) := by decide +kernel
theorem dX10_found_17 : decode cX10_found 17 = .ok (.ifCond .eq 13, 3) := by decide +kernel
theorem dX10_found_20 : decode cX10_found 20 = .ok (.iload_n 3, 1) := by decide +kernel
theorem dX10_found_21 : decode cX10_found 21 = .ok (.i2l, 1) := by decide +kernel
theorem dX10_found_22 : decode cX10_found 22 = .ok (.lconst 0, 1) := by decide +kernel
theorem dX10_found_23 : decode cX10_found 23 = .ok (.lconst 1, 1) := by decide +kernel
theorem dX10_found_24 : decode cX10_found 24 = .ok (.invokestatic 73, 3) := by decide +kernel
theorem dX10_found_27 : decode cX10_found 27 = .ok (.ifCond .ne 7, 3) := by decide +kernel
theorem dX10_found_30 : decode cX10_found 30 = .ok (.ldc2_w 349, 3) := by decide +kernel
theorem dX10_found_33 : decode cX10_found 33 = .ok (.lreturn, 1) := by decide +kernel
theorem dX10_found_34 : decode cX10_found 34 = .ok (.aload_n 0, 1) := by decide +kernel
theorem dX10_found_35 : decode cX10_found 35 = .ok (.iload_n 1, 1) := by decide +kernel
theorem dX10_found_36 : decode cX10_found 36 = .ok (.invokevirtual 342, 3) := by decide +kernel
theorem dX10_found_39 : decode cX10_found 39 = .ok (.lconst 1, 1) := by decide +kernel
theorem dX10_found_40 : decode cX10_found 40 = .ok (.lstore 4, 2) := by decide +kernel
theorem dX10_found_42 : decode cX10_found 42 = .ok (.lconst 1, 1) := by decide +kernel
theorem dX10_found_43 : decode cX10_found 43 = .ok (.lstore 6, 2) := by decide +kernel
theorem dX10_found_45 : decode cX10_found 45 = .ok (.iconst 0, 1) := by decide +kernel
theorem dX10_found_46 : decode cX10_found 46 = .ok (.istore 8, 2) := by decide +kernel
theorem dX10_found_48 : decode cX10_found 48 = .ok (.iload 8, 2) := by decide +kernel
theorem dX10_found_50 : decode cX10_found 50 = .ok (.iload_n 2, 1) := by decide +kernel
theorem dX10_found_51 : decode cX10_found 51 = .ok (.if_icmp .ge 33, 3) := by decide +kernel
theorem dX10_found_54 : decode cX10_found 54 = .ok (.lload 4, 2) := by decide +kernel
theorem dX10_found_56 : decode cX10_found 56 = .ok (.bipush 100, 2) := by decide +kernel
theorem dX10_found_58 : decode cX10_found 58 = .ok (.aload_n 0, 1) := by decide +kernel
theorem dX10_found_59 : decode cX10_found 59 = .ok (.getfield 35, 3) := by decide +kernel
theorem dX10_found_62 : decode cX10_found 62 = .ok (.iload 8, 2) := by decide +kernel
theorem dX10_found_64 : decode cX10_found 64 = .ok (.iaload, 1) := by decide +kernel
theorem dX10_found_65 : decode cX10_found 65 = .ok (.isub, 1) := by decide +kernel
theorem dX10_found_66 : decode cX10_found 66 = .ok (.i2l, 1) := by decide +kernel
theorem dX10_found_67 : decode cX10_found 67 = .ok (.lmul, 1) := by decide +kernel
theorem dX10_found_68 : decode cX10_found 68 = .ok (.lstore 4, 2) := by decide +kernel
theorem dX10_found_70 : decode cX10_found 70 = .ok (.lload 6, 2) := by decide +kernel
theorem dX10_found_72 : decode cX10_found 72 = .ok (.ldc2_w 351, 3) := by decide +kernel
theorem dX10_found_75 : decode cX10_found 75 = .ok (.lmul, 1) := by decide +kernel
theorem dX10_found_76 : decode cX10_found 76 = .ok (.lstore 6, 2) := by decide +kernel
theorem dX10_found_78 : decode cX10_found 78 = .ok (.iinc 8 1, 3) := by decide +kernel
theorem dX10_found_81 : decode cX10_found 81 = .ok (.goto (-33), 3) := by decide +kernel
theorem dX10_found_84 : decode cX10_found 84 = .ok (.lload 6, 2) := by decide +kernel
theorem dX10_found_86 : decode cX10_found 86 = .ok (.lload 4, 2) := by decide +kernel
theorem dX10_found_88 : decode cX10_found 88 = .ok (.lsub, 1) := by decide +kernel
theorem dX10_found_89 : decode cX10_found 89 = .ok (.lstore 8, 2) := by decide +kernel
theorem dX10_found_91 : decode cX10_found 91 = .ok (.lload 8, 2) := by decide +kernel
theorem dX10_found_93 : decode cX10_found 93 = .ok (.lstore 10, 2) := by decide +kernel
theorem dX10_found_95 : decode cX10_found 95 = .ok (.lload 6, 2) := by decide +kernel
theorem dX10_found_97 : decode cX10_found 97 = .ok (.lstore 12, 2) := by decide +kernel
theorem dX10_found_99 : decode cX10_found 99 = .ok (.lload 12, 2) := by decide +kernel
theorem dX10_found_101 : decode cX10_found 101 = .ok (.lconst 0, 1) := by decide +kernel
theorem dX10_found_102 : decode cX10_found 102 = .ok (.lcmp, 1) := by decide +kernel
theorem dX10_found_103 : decode cX10_found 103 = .ok (.ifCond .eq 21, 3) := by decide +kernel
theorem dX10_found_106 : decode cX10_found 106 = .ok (.lload 10, 2) := by decide +kernel
theorem dX10_found_108 : decode cX10_found 108 = .ok (.lload 12, 2) := by decide +kernel
theorem dX10_found_110 : decode cX10_found 110 = .ok (.lrem, 1) := by decide +kernel
theorem dX10_found_111 : decode cX10_found 111 = .ok (.lstore 14, 2) := by decide +kernel
theorem dX10_found_113 : decode cX10_found 113 = .ok (.lload 12, 2) := by decide +kernel
theorem dX10_found_115 : decode cX10_found 115 = .ok (.lstore 10, 2) := by decide +kernel
theorem dX10_found_117 : decode cX10_found 117 = .ok (.lload 14, 2) := by decide +kernel
theorem dX10_found_119 : decode cX10_found 119 = .ok (.lstore 12, 2) := by decide +kernel
theorem dX10_found_121 : decode cX10_found 121 = .ok (.goto (-22), 3) := by decide +kernel
theorem dX10_found_124 : decode cX10_found 124 = .ok (.iload_n 3, 1) := by decide +kernel
theorem dX10_found_125 : decode cX10_found 125 = .ok (.ifCond .ne 11, 3) := by decide +kernel
theorem dX10_found_128 : decode cX10_found 128 = .ok (.lload 8, 2) := by decide +kernel
theorem dX10_found_130 : decode cX10_found 130 = .ok (.lload 10, 2) := by decide +kernel
theorem dX10_found_132 : decode cX10_found 132 = .ok (.ldiv, 1) := by decide +kernel
theorem dX10_found_133 : decode cX10_found 133 = .ok (.goto 8, 3) := by decide +kernel
theorem dX10_found_136 : decode cX10_found 136 = .ok (.lload 6, 2) := by decide +kernel
theorem dX10_found_138 : decode cX10_found 138 = .ok (.lload 10, 2) := by decide +kernel
theorem dX10_found_140 : decode cX10_found 140 = .ok (.ldiv, 1) := by decide +kernel
theorem dX10_found_141 : decode cX10_found 141 = .ok (.lreturn, 1) := by decide +kernel
theorem dX10_partsBy_0 : decode cX10_partsBy 0 = .ok (.aload_n 0, 1) := by decide +kernel
theorem dX10_partsBy_1 : decode cX10_partsBy 1 = .ok (.iload_n 1, 1) := by decide +kernel
theorem dX10_partsBy_2 : decode cX10_partsBy 2 = .ok (.invokevirtual 342, 3) := by decide +kernel
theorem dX10_partsBy_5 : decode cX10_partsBy 5 = .ok (.ldc2_w 353, 3) := by decide +kernel
theorem dX10_partsBy_8 : decode cX10_partsBy 8 = .ok (.lstore_n 3, 1) := by decide +kernel
theorem dX10_partsBy_9 : decode cX10_partsBy 9 = .ok (.iconst 0, 1) := by decide +kernel
theorem dX10_partsBy_10 : decode cX10_partsBy 10 = .ok (.istore 5, 2) := by decide +kernel
theorem dX10_partsBy_12 : decode cX10_partsBy 12 = .ok (.iload 5, 2) := by decide +kernel
theorem dX10_partsBy_14 : decode cX10_partsBy 14 = .ok (.iload_n 2, 1) := by decide +kernel
theorem dX10_partsBy_15 : decode cX10_partsBy 15 = .ok (.if_icmp .ge 27, 3) := by decide +kernel
theorem dX10_partsBy_18 : decode cX10_partsBy 18 = .ok (.lload_n 3, 1) := by decide +kernel
theorem dX10_partsBy_19 : decode cX10_partsBy 19 = .ok (.bipush 100, 2) := by decide +kernel
theorem dX10_partsBy_21 : decode cX10_partsBy 21 = .ok (.aload_n 0, 1) := by decide +kernel
theorem dX10_partsBy_22 : decode cX10_partsBy 22 = .ok (.getfield 35, 3) := by decide +kernel
theorem dX10_partsBy_25 : decode cX10_partsBy 25 = .ok (.iload 5, 2) := by decide +kernel
theorem dX10_partsBy_27 : decode cX10_partsBy 27 = .ok (.iaload, 1) := by decide +kernel
theorem dX10_partsBy_28 : decode cX10_partsBy 28 = .ok (.isub, 1) := by decide +kernel
theorem dX10_partsBy_29 : decode cX10_partsBy 29 = .ok (.i2l, 1) := by decide +kernel
theorem dX10_partsBy_30 : decode cX10_partsBy 30 = .ok (.lmul, 1) := by decide +kernel
theorem dX10_partsBy_31 : decode cX10_partsBy 31 = .ok (.ldc2_w 351, 3) := by decide +kernel
theorem dX10_partsBy_34 : decode cX10_partsBy 34 = .ok (.ldiv, 1) := by decide +kernel
theorem dX10_partsBy_35 : decode cX10_partsBy 35 = .ok (.lstore_n 3, 1) := by decide +kernel
theorem dX10_partsBy_36 : decode cX10_partsBy 36 = .ok (.iinc 5 1, 3) := by decide +kernel
theorem dX10_partsBy_39 : decode cX10_partsBy 39 = .ok (.goto (-27), 3) := by decide +kernel
theorem dX10_partsBy_42 : decode cX10_partsBy 42 = .ok (.ldc2_w 353, 3) := by decide +kernel
theorem dX10_partsBy_45 : decode cX10_partsBy 45 = .ok (.lload_n 3, 1) := by decide +kernel
theorem dX10_partsBy_46 : decode cX10_partsBy 46 = .ok (.lsub, 1) := by decide +kernel
theorem dX10_partsBy_47 : decode cX10_partsBy 47 = .ok (.lreturn, 1) := by decide +kernel
theorem dX10_parts_0 : decode cX10_parts 0 = .ok (.aload_n 0, 1) := by decide +kernel
theorem dX10_parts_1 : decode cX10_parts 1 = .ok (.iload_n 1, 1) := by decide +kernel
theorem dX10_parts_2 : decode cX10_parts 2 = .ok (.invokevirtual 79, 3) := by decide +kernel
theorem dX10_parts_5 : decode cX10_parts 5 = .ok (.ifCond .eq 24, 3) := by decide +kernel
theorem dX10_parts_8 : decode cX10_parts 8 = .ok (.iload_n 2, 1) := by decide +kernel
theorem dX10_parts_9 : decode cX10_parts 9 = .ok (.i2l, 1) := by decide +kernel
theorem dX10_parts_10 : decode cX10_parts 10 = .ok (.lconst 0, 1) := by decide +kernel
theorem dX10_parts_11 : decode cX10_parts 11 = .ok (.ldc2_w 355, 3) := by decide +kernel
theorem dX10_parts_14 : decode cX10_parts 14 = .ok (.invokestatic 73, 3) := by decide +kernel
theorem dX10_parts_17 : decode cX10_parts 17 = .ok (.ifCond .eq 12, 3) := by decide +kernel
theorem dX10_parts_20 : decode cX10_parts 20 = .ok (.aload_n 0, 1) := by decide +kernel
theorem dX10_parts_21 : decode cX10_parts 21 = .ok (.iload_n 1, 1) := by decide +kernel
theorem dX10_parts_22 : decode cX10_parts 22 = .ok (.iload_n 2, 1) := by decide +kernel
theorem dX10_parts_23 : decode cX10_parts 23 = .ok (.invokevirtual 357, 3) := by decide +kernel
theorem dX10_parts_26 : decode cX10_parts 26 = .ok (.goto 6, 3) := by decide +kernel
theorem dX10_parts_29 : decode cX10_parts 29 = .ok (.ldc2_w 349, 3) := by decide +kernel
theorem dX10_parts_32 : decode cX10_parts 32 = .ok (.lreturn, 1) := by decide +kernel
theorem dX10_waiting_0 : decode cX10_waiting 0 = .ok (.aload_n 0, 1) := by decide +kernel
theorem dX10_waiting_1 : decode cX10_waiting 1 = .ok (.iload_n 1, 1) := by decide +kernel
theorem dX10_waiting_2 : decode cX10_waiting 2 = .ok (.invokevirtual 79, 3) := by decide +kernel
theorem dX10_waiting_5 : decode cX10_waiting 5 = .ok (.ifCond .eq 15, 3) := by decide +kernel
theorem dX10_waiting_8 : decode cX10_waiting 8 = .ok (.iload_n 2, 1) := by decide +kernel
theorem dX10_waiting_9 : decode cX10_waiting 9 = .ok (.i2l, 1) := by decide +kernel
theorem dX10_waiting_10 : decode cX10_waiting 10 = .ok (.lconst 0, 1) := by decide +kernel
theorem dX10_waiting_11 : decode cX10_waiting 11 = .ok (.ldc2_w 355, 3) := by decide +kernel
theorem dX10_waiting_14 : decode cX10_waiting 14 = .ok (.invokestatic 73, 3) := by decide +kernel
theorem dX10_waiting_17 : decode cX10_waiting 17 = .ok (.ifCond .ne 7, 3) := by decide +kernel
theorem dX10_waiting_20 : decode cX10_waiting 20 = .ok (.ldc2_w 349, 3) := by decide +kernel
theorem dX10_waiting_23 : decode cX10_waiting 23 = .ok (.lreturn, 1) := by decide +kernel
theorem dX10_waiting_24 : decode cX10_waiting 24 = .ok (.aload_n 0, 1) := by decide +kernel
theorem dX10_waiting_25 : decode cX10_waiting 25 = .ok (.iload_n 1, 1) := by decide +kernel
theorem dX10_waiting_26 : decode cX10_waiting 26 = .ok (.invokevirtual 342, 3) := by decide +kernel
theorem dX10_waiting_29 : decode cX10_waiting 29 = .ok (.ldc2_w 361, 3) := by decide +kernel
theorem dX10_waiting_32 : decode cX10_waiting 32 = .ok (.lstore_n 3, 1) := by decide +kernel
theorem dX10_waiting_33 : decode cX10_waiting 33 = .ok (.lconst 0, 1) := by decide +kernel
theorem dX10_waiting_34 : decode cX10_waiting 34 = .ok (.lstore 5, 2) := by decide +kernel
theorem dX10_waiting_36 : decode cX10_waiting 36 = .ok (.iconst 0, 1) := by decide +kernel
theorem dX10_waiting_37 : decode cX10_waiting 37 = .ok (.istore 7, 2) := by decide +kernel
theorem dX10_waiting_39 : decode cX10_waiting 39 = .ok (.iload 7, 2) := by decide +kernel
theorem dX10_waiting_41 : decode cX10_waiting 41 = .ok (.iload_n 2, 1) := by decide +kernel
theorem dX10_waiting_42 : decode cX10_waiting 42 = .ok (.if_icmp .ge 42, 3) := by decide +kernel
theorem dX10_waiting_45 : decode cX10_waiting 45 = .ok (.lload 5, 2) := by decide +kernel
theorem dX10_waiting_47 : decode cX10_waiting 47 = .ok (.aload_n 0, 1) := by decide +kernel
theorem dX10_waiting_48 : decode cX10_waiting 48 = .ok (.iload_n 1, 1) := by decide +kernel
theorem dX10_waiting_49 : decode cX10_waiting 49 = .ok (.iload 7, 2) := by decide +kernel
theorem dX10_waiting_51 : decode cX10_waiting 51 = .ok (.invokevirtual 346, 3) := by decide +kernel
theorem dX10_waiting_54 : decode cX10_waiting 54 = .ok (.i2l, 1) := by decide +kernel
theorem dX10_waiting_55 : decode cX10_waiting 55 = .ok (.lload_n 3, 1) := by decide +kernel
theorem dX10_waiting_56 : decode cX10_waiting 56 = .ok (.lmul, 1) := by decide +kernel
theorem dX10_waiting_57 : decode cX10_waiting 57 = .ok (.ladd, 1) := by decide +kernel
theorem dX10_waiting_58 : decode cX10_waiting 58 = .ok (.lstore 5, 2) := by decide +kernel
theorem dX10_waiting_60 : decode cX10_waiting 60 = .ok (.lload_n 3, 1) := by decide +kernel
theorem dX10_waiting_61 : decode cX10_waiting 61 = .ok (.bipush 100, 2) := by decide +kernel
theorem dX10_waiting_63 : decode cX10_waiting 63 = .ok (.aload_n 0, 1) := by decide +kernel
theorem dX10_waiting_64 : decode cX10_waiting 64 = .ok (.getfield 35, 3) := by decide +kernel
theorem dX10_waiting_67 : decode cX10_waiting 67 = .ok (.iload 7, 2) := by decide +kernel
theorem dX10_waiting_69 : decode cX10_waiting 69 = .ok (.iaload, 1) := by decide +kernel
theorem dX10_waiting_70 : decode cX10_waiting 70 = .ok (.isub, 1) := by decide +kernel
theorem dX10_waiting_71 : decode cX10_waiting 71 = .ok (.i2l, 1) := by decide +kernel
theorem dX10_waiting_72 : decode cX10_waiting 72 = .ok (.lmul, 1) := by decide +kernel
theorem dX10_waiting_73 : decode cX10_waiting 73 = .ok (.ldc2_w 351, 3) := by decide +kernel
theorem dX10_waiting_76 : decode cX10_waiting 76 = .ok (.ldiv, 1) := by decide +kernel
theorem dX10_waiting_77 : decode cX10_waiting 77 = .ok (.lstore_n 3, 1) := by decide +kernel
theorem dX10_waiting_78 : decode cX10_waiting 78 = .ok (.iinc 7 1, 3) := by decide +kernel
theorem dX10_waiting_81 : decode cX10_waiting 81 = .ok (.goto (-42), 3) := by decide +kernel
theorem dX10_waiting_84 : decode cX10_waiting 84 = .ok (.lload 5, 2) := by decide +kernel
theorem dX10_waiting_86 : decode cX10_waiting 86 = .ok (.lreturn, 1) := by decide +kernel
theorem dX10_hang_0 : decode cX10_hang 0 = .ok (.aload_n 0, 1) := by decide +kernel
theorem dX10_hang_1 : decode cX10_hang 1 = .ok (.iload_n 1, 1) := by decide +kernel
theorem dX10_hang_2 : decode cX10_hang 2 = .ok (.invokevirtual 79, 3) := by decide +kernel
theorem dX10_hang_5 : decode cX10_hang 5 = .ok (.ifCond .eq 13, 3) := by decide +kernel
theorem dX10_hang_8 : decode cX10_hang 8 = .ok (.iload_n 2, 1) := by decide +kernel
theorem dX10_hang_9 : decode cX10_hang 9 = .ok (.i2l, 1) := by decide +kernel
theorem dX10_hang_10 : decode cX10_hang 10 = .ok (.lconst 0, 1) := by decide +kernel
theorem dX10_hang_11 : decode cX10_hang 11 = .ok (.lconst 1, 1) := by decide +kernel
theorem dX10_hang_12 : decode cX10_hang 12 = .ok (.invokestatic 73, 3) := by decide +kernel
theorem dX10_hang_15 : decode cX10_hang 15 = .ok (.ifCond .ne 7, 3) := by decide +kernel
theorem dX10_hang_18 : decode cX10_hang 18 = .ok (.ldc2_w 349, 3) := by decide +kernel
theorem dX10_hang_21 : decode cX10_hang 21 = .ok (.lreturn, 1) := by decide +kernel
theorem dX10_hang_22 : decode cX10_hang 22 = .ok (.aload_n 0, 1) := by decide +kernel
theorem dX10_hang_23 : decode cX10_hang 23 = .ok (.getfield 29, 3) := by decide +kernel
theorem dX10_hang_26 : decode cX10_hang 26 = .ok (.iconst 4, 1) := by decide +kernel
theorem dX10_hang_27 : decode cX10_hang 27 = .ok (.iload_n 1, 1) := by decide +kernel
theorem dX10_hang_28 : decode cX10_hang 28 = .ok (.imul, 1) := by decide +kernel
theorem dX10_hang_29 : decode cX10_hang 29 = .ok (.iconst 1, 1) := by decide +kernel
theorem dX10_hang_30 : decode cX10_hang 30 = .ok (.iadd, 1) := by decide +kernel
theorem dX10_hang_31 : decode cX10_hang 31 = .ok (.iaload, 1) := by decide +kernel
theorem dX10_hang_32 : decode cX10_hang 32 = .ok (.istore_n 3, 1) := by decide +kernel
theorem dX10_hang_33 : decode cX10_hang 33 = .ok (.aload_n 0, 1) := by decide +kernel
theorem dX10_hang_34 : decode cX10_hang 34 = .ok (.getfield 29, 3) := by decide +kernel
theorem dX10_hang_37 : decode cX10_hang 37 = .ok (.iconst 4, 1) := by decide +kernel
theorem dX10_hang_38 : decode cX10_hang 38 = .ok (.iload_n 1, 1) := by decide +kernel
theorem dX10_hang_39 : decode cX10_hang 39 = .ok (.imul, 1) := by decide +kernel
theorem dX10_hang_40 : decode cX10_hang 40 = .ok (.iconst 2, 1) := by decide +kernel
theorem dX10_hang_41 : decode cX10_hang 41 = .ok (.iadd, 1) := by decide +kernel
theorem dX10_hang_42 : decode cX10_hang 42 = .ok (.iaload, 1) := by decide +kernel
theorem dX10_hang_43 : decode cX10_hang 43 = .ok (.istore 4, 2) := by decide +kernel
theorem dX10_hang_45 : decode cX10_hang 45 = .ok (.iconst (-1), 1) := by decide +kernel
theorem dX10_hang_46 : decode cX10_hang 46 = .ok (.istore 5, 2) := by decide +kernel
theorem dX10_hang_48 : decode cX10_hang 48 = .ok (.lconst 0, 1) := by decide +kernel
theorem dX10_hang_49 : decode cX10_hang 49 = .ok (.lstore 6, 2) := by decide +kernel
theorem dX10_hang_51 : decode cX10_hang 51 = .ok (.iconst 0, 1) := by decide +kernel
theorem dX10_hang_52 : decode cX10_hang 52 = .ok (.istore 8, 2) := by decide +kernel
theorem dX10_hang_54 : decode cX10_hang 54 = .ok (.iload 8, 2) := by decide +kernel
theorem dX10_hang_56 : decode cX10_hang 56 = .ok (.bipush 100, 2) := by decide +kernel
theorem dX10_hang_58 : decode cX10_hang 58 = .ok (.if_icmp .ge 78, 3) := by decide +kernel
theorem dX10_hang_61 : decode cX10_hang 61 = .ok (.aload_n 0, 1) := by decide +kernel
theorem dX10_hang_62 : decode cX10_hang 62 = .ok (.getfield 29, 3) := by decide +kernel
theorem dX10_hang_65 : decode cX10_hang 65 = .ok (.iconst 4, 1) := by decide +kernel
theorem dX10_hang_66 : decode cX10_hang 66 = .ok (.iload_n 1, 1) := by decide +kernel
theorem dX10_hang_67 : decode cX10_hang 67 = .ok (.imul, 1) := by decide +kernel
theorem dX10_hang_68 : decode cX10_hang 68 = .ok (.iconst 1, 1) := by decide +kernel
theorem dX10_hang_69 : decode cX10_hang 69 = .ok (.iadd, 1) := by decide +kernel
theorem dX10_hang_70 : decode cX10_hang 70 = .ok (.iload 8, 2) := by decide +kernel
theorem dX10_hang_72 : decode cX10_hang 72 = .ok (.iconst 5, 1) := by decide +kernel
theorem dX10_hang_73 : decode cX10_hang 73 = .ok (.idiv, 1) := by decide +kernel
theorem dX10_hang_74 : decode cX10_hang 74 = .ok (.iastore, 1) := by decide +kernel
theorem dX10_hang_75 : decode cX10_hang 75 = .ok (.aload_n 0, 1) := by decide +kernel
theorem dX10_hang_76 : decode cX10_hang 76 = .ok (.getfield 29, 3) := by decide +kernel
theorem dX10_hang_79 : decode cX10_hang 79 = .ok (.iconst 4, 1) := by decide +kernel
theorem dX10_hang_80 : decode cX10_hang 80 = .ok (.iload_n 1, 1) := by decide +kernel
theorem dX10_hang_81 : decode cX10_hang 81 = .ok (.imul, 1) := by decide +kernel
theorem dX10_hang_82 : decode cX10_hang 82 = .ok (.iconst 2, 1) := by decide +kernel
theorem dX10_hang_83 : decode cX10_hang 83 = .ok (.iadd, 1) := by decide +kernel
theorem dX10_hang_84 : decode cX10_hang 84 = .ok (.iload 8, 2) := by decide +kernel
theorem dX10_hang_86 : decode cX10_hang 86 = .ok (.iconst 5, 1) := by decide +kernel
theorem dX10_hang_87 : decode cX10_hang 87 = .ok (.irem, 1) := by decide +kernel
theorem dX10_hang_88 : decode cX10_hang 88 = .ok (.iastore, 1) := by decide +kernel
theorem dX10_hang_89 : decode cX10_hang 89 = .ok (.aload_n 0, 1) := by decide +kernel
theorem dX10_hang_90 : decode cX10_hang 90 = .ok (.iload_n 1, 1) := by decide +kernel
theorem dX10_hang_91 : decode cX10_hang 91 = .ok (.bipush 30, 2) := by decide +kernel
theorem dX10_hang_93 : decode cX10_hang 93 = .ok (.invokevirtual 357, 3) := by decide +kernel
theorem dX10_hang_96 : decode cX10_hang 96 = .ok (.lstore 9, 2) := by decide +kernel
theorem dX10_hang_98 : decode cX10_hang 98 = .ok (.iload 5, 2) := by decide +kernel
theorem dX10_hang_100 : decode cX10_hang 100 = .ok (.iconst (-1), 1) := by decide +kernel
theorem dX10_hang_101 : decode cX10_hang 101 = .ok (.if_icmp .eq 11, 3) := by decide +kernel
theorem dX10_hang_104 : decode cX10_hang 104 = .ok (.lload 9, 2) := by decide +kernel
theorem dX10_hang_106 : decode cX10_hang 106 = .ok (.lload 6, 2) := by decide +kernel
theorem dX10_hang_108 : decode cX10_hang 108 = .ok (.lcmp, 1) := by decide +kernel
theorem dX10_hang_109 : decode cX10_hang 109 = .ok (.ifCond .le 21, 3) := by decide +kernel
theorem dX10_hang_112 : decode cX10_hang 112 = .ok (.bipush 10, 2) := by decide +kernel
theorem dX10_hang_114 : decode cX10_hang 114 = .ok (.iload 8, 2) := by decide +kernel
theorem dX10_hang_116 : decode cX10_hang 116 = .ok (.iconst 5, 1) := by decide +kernel
theorem dX10_hang_117 : decode cX10_hang 117 = .ok (.idiv, 1) := by decide +kernel
theorem dX10_hang_118 : decode cX10_hang 118 = .ok (.imul, 1) := by decide +kernel
theorem dX10_hang_119 : decode cX10_hang 119 = .ok (.iload 8, 2) := by decide +kernel
theorem dX10_hang_121 : decode cX10_hang 121 = .ok (.iconst 5, 1) := by decide +kernel
theorem dX10_hang_122 : decode cX10_hang 122 = .ok (.irem, 1) := by decide +kernel
theorem dX10_hang_123 : decode cX10_hang 123 = .ok (.iadd, 1) := by decide +kernel
theorem dX10_hang_124 : decode cX10_hang 124 = .ok (.istore 5, 2) := by decide +kernel
theorem dX10_hang_126 : decode cX10_hang 126 = .ok (.lload 9, 2) := by decide +kernel
theorem dX10_hang_128 : decode cX10_hang 128 = .ok (.lstore 6, 2) := by decide +kernel
theorem dX10_hang_130 : decode cX10_hang 130 = .ok (.iinc 8 1, 3) := by decide +kernel
theorem dX10_hang_133 : decode cX10_hang 133 = .ok (.goto (-79), 3) := by decide +kernel
theorem dX10_hang_136 : decode cX10_hang 136 = .ok (.aload_n 0, 1) := by decide +kernel
theorem dX10_hang_137 : decode cX10_hang 137 = .ok (.getfield 29, 3) := by decide +kernel
theorem dX10_hang_140 : decode cX10_hang 140 = .ok (.iconst 4, 1) := by decide +kernel
theorem dX10_hang_141 : decode cX10_hang 141 = .ok (.iload_n 1, 1) := by decide +kernel
theorem dX10_hang_142 : decode cX10_hang 142 = .ok (.imul, 1) := by decide +kernel
theorem dX10_hang_143 : decode cX10_hang 143 = .ok (.iconst 1, 1) := by decide +kernel
theorem dX10_hang_144 : decode cX10_hang 144 = .ok (.iadd, 1) := by decide +kernel
theorem dX10_hang_145 : decode cX10_hang 145 = .ok (.iload_n 3, 1) := by decide +kernel
theorem dX10_hang_146 : decode cX10_hang 146 = .ok (.iastore, 1) := by decide +kernel
theorem dX10_hang_147 : decode cX10_hang 147 = .ok (.aload_n 0, 1) := by decide +kernel
theorem dX10_hang_148 : decode cX10_hang 148 = .ok (.getfield 29, 3) := by decide +kernel
theorem dX10_hang_151 : decode cX10_hang 151 = .ok (.iconst 4, 1) := by decide +kernel
theorem dX10_hang_152 : decode cX10_hang 152 = .ok (.iload_n 1, 1) := by decide +kernel
theorem dX10_hang_153 : decode cX10_hang 153 = .ok (.imul, 1) := by decide +kernel
theorem dX10_hang_154 : decode cX10_hang 154 = .ok (.iconst 2, 1) := by decide +kernel
theorem dX10_hang_155 : decode cX10_hang 155 = .ok (.iadd, 1) := by decide +kernel
theorem dX10_hang_156 : decode cX10_hang 156 = .ok (.iload 4, 2) := by decide +kernel
theorem dX10_hang_158 : decode cX10_hang 158 = .ok (.iastore, 1) := by decide +kernel
theorem dX10_hang_159 : decode cX10_hang 159 = .ok (.iload_n 2, 1) := by decide +kernel
theorem dX10_hang_160 : decode cX10_hang 160 = .ok (.ifCond .ne 9, 3) := by decide +kernel
theorem dX10_hang_163 : decode cX10_hang 163 = .ok (.iload 5, 2) := by decide +kernel
theorem dX10_hang_165 : decode cX10_hang 165 = .ok (.i2l, 1) := by decide +kernel
theorem dX10_hang_166 : decode cX10_hang 166 = .ok (.goto 5, 3) := by decide +kernel
theorem dX10_hang_169 : decode cX10_hang 169 = .ok (.lload 6, 2) := by decide +kernel
theorem dX10_hang_171 : decode cX10_hang 171 = .ok (.lreturn, 1) := by decide +kernel
theorem dX10_walk_0 : decode cX10_walk 0 = .ok (.aload_n 0, 1) := by decide +kernel
theorem dX10_walk_1 : decode cX10_walk 1 = .ok (.iload_n 1, 1) := by decide +kernel
theorem dX10_walk_2 : decode cX10_walk 2 = .ok (.invokevirtual 79, 3) := by decide +kernel
theorem dX10_walk_5 : decode cX10_walk 5 = .ok (.ifCond .eq 13, 3) := by decide +kernel
theorem dX10_walk_8 : decode cX10_walk 8 = .ok (.iload_n 2, 1) := by decide +kernel
theorem dX10_walk_9 : decode cX10_walk 9 = .ok (.i2l, 1) := by decide +kernel
theorem dX10_walk_10 : decode cX10_walk 10 = .ok (.lconst 0, 1) := by decide +kernel
theorem dX10_walk_11 : decode cX10_walk 11 = .ok (.lconst 1, 1) := by decide +kernel
theorem dX10_walk_12 : decode cX10_walk 12 = .ok (.invokestatic 73, 3) := by decide +kernel
theorem dX10_walk_15 : decode cX10_walk 15 = .ok (.ifCond .ne 7, 3) := by decide +kernel
theorem dX10_walk_18 : decode cX10_walk 18 = .ok (.ldc2_w 349, 3) := by decide +kernel
theorem dX10_walk_21 : decode cX10_walk 21 = .ok (.lreturn, 1) := by decide +kernel
theorem dX10_walk_22 : decode cX10_walk 22 = .ok (.iconst 0, 1) := by decide +kernel
theorem dX10_walk_23 : decode cX10_walk 23 = .ok (.istore_n 3, 1) := by decide +kernel
theorem dX10_walk_24 : decode cX10_walk 24 = .ok (.iload_n 3, 1) := by decide +kernel
theorem dX10_walk_25 : decode cX10_walk 25 = .ok (.iconst 3, 1) := by decide +kernel
theorem dX10_walk_26 : decode cX10_walk 26 = .ok (.if_icmp .ge 21, 3) := by decide +kernel
theorem dX10_walk_29 : decode cX10_walk 29 = .ok (.aload_n 0, 1) := by decide +kernel
theorem dX10_walk_30 : decode cX10_walk 30 = .ok (.getfield 38, 3) := by decide +kernel
theorem dX10_walk_33 : decode cX10_walk 33 = .ok (.iload_n 3, 1) := by decide +kernel
theorem dX10_walk_34 : decode cX10_walk 34 = .ok (.aload_n 0, 1) := by decide +kernel
theorem dX10_walk_35 : decode cX10_walk 35 = .ok (.getfield 23, 3) := by decide +kernel
theorem dX10_walk_38 : decode cX10_walk 38 = .ok (.iload_n 3, 1) := by decide +kernel
theorem dX10_walk_39 : decode cX10_walk 39 = .ok (.iaload, 1) := by decide +kernel
theorem dX10_walk_40 : decode cX10_walk 40 = .ok (.iastore, 1) := by decide +kernel
theorem dX10_walk_41 : decode cX10_walk 41 = .ok (.iinc 3 1, 3) := by decide +kernel
theorem dX10_walk_44 : decode cX10_walk 44 = .ok (.goto (-20), 3) := by decide +kernel
theorem dX10_walk_47 : decode cX10_walk 47 = .ok (.iconst (-1), 1) := by decide +kernel
theorem dX10_walk_48 : decode cX10_walk 48 = .ok (.istore_n 3, 1) := by decide +kernel
theorem dX10_walk_49 : decode cX10_walk 49 = .ok (.lconst 0, 1) := by decide +kernel
theorem dX10_walk_50 : decode cX10_walk 50 = .ok (.lstore 4, 2) := by decide +kernel
theorem dX10_walk_52 : decode cX10_walk 52 = .ok (.lconst 0, 1) := by decide +kernel
theorem dX10_walk_53 : decode cX10_walk 53 = .ok (.lstore 6, 2) := by decide +kernel
theorem dX10_walk_55 : decode cX10_walk 55 = .ok (.aload_n 0, 1) := by decide +kernel
theorem dX10_walk_56 : decode cX10_walk 56 = .ok (.getfield 23, 3) := by decide +kernel
theorem dX10_walk_59 : decode cX10_walk 59 = .ok (.iconst 0, 1) := by decide +kernel
theorem dX10_walk_60 : decode cX10_walk 60 = .ok (.iconst 0, 1) := by decide +kernel
theorem dX10_walk_61 : decode cX10_walk 61 = .ok (.iastore, 1) := by decide +kernel
theorem dX10_walk_62 : decode cX10_walk 62 = .ok (.aload_n 0, 1) := by decide +kernel
theorem dX10_walk_63 : decode cX10_walk 63 = .ok (.getfield 23, 3) := by decide +kernel
theorem dX10_walk_66 : decode cX10_walk 66 = .ok (.iconst 0, 1) := by decide +kernel
theorem dX10_walk_67 : decode cX10_walk 67 = .ok (.iaload, 1) := by decide +kernel
theorem dX10_walk_68 : decode cX10_walk 68 = .ok (.bipush 20, 2) := by decide +kernel
theorem dX10_walk_70 : decode cX10_walk 70 = .ok (.if_icmp .ge 165, 3) := by decide +kernel
theorem dX10_walk_73 : decode cX10_walk 73 = .ok (.aload_n 0, 1) := by decide +kernel
theorem dX10_walk_74 : decode cX10_walk 74 = .ok (.getfield 23, 3) := by decide +kernel
theorem dX10_walk_77 : decode cX10_walk 77 = .ok (.iconst 1, 1) := by decide +kernel
theorem dX10_walk_78 : decode cX10_walk 78 = .ok (.aload_n 0, 1) := by decide +kernel
theorem dX10_walk_79 : decode cX10_walk 79 = .ok (.getfield 23, 3) := by decide +kernel
theorem dX10_walk_82 : decode cX10_walk 82 = .ok (.iconst 0, 1) := by decide +kernel
theorem dX10_walk_83 : decode cX10_walk 83 = .ok (.iaload, 1) := by decide +kernel
theorem dX10_walk_84 : decode cX10_walk 84 = .ok (.iastore, 1) := by decide +kernel
theorem dX10_walk_85 : decode cX10_walk 85 = .ok (.aload_n 0, 1) := by decide +kernel
theorem dX10_walk_86 : decode cX10_walk 86 = .ok (.getfield 23, 3) := by decide +kernel
theorem dX10_walk_89 : decode cX10_walk 89 = .ok (.iconst 1, 1) := by decide +kernel
theorem dX10_walk_90 : decode cX10_walk 90 = .ok (.iaload, 1) := by decide +kernel
theorem dX10_walk_91 : decode cX10_walk 91 = .ok (.bipush 20, 2) := by decide +kernel
theorem dX10_walk_93 : decode cX10_walk 93 = .ok (.if_icmp .ge 129, 3) := by decide +kernel
theorem dX10_walk_96 : decode cX10_walk 96 = .ok (.aload_n 0, 1) := by decide +kernel
theorem dX10_walk_97 : decode cX10_walk 97 = .ok (.getfield 23, 3) := by decide +kernel
theorem dX10_walk_100 : decode cX10_walk 100 = .ok (.iconst 2, 1) := by decide +kernel
theorem dX10_walk_101 : decode cX10_walk 101 = .ok (.iconst 0, 1) := by decide +kernel
theorem dX10_walk_102 : decode cX10_walk 102 = .ok (.iastore, 1) := by decide +kernel
theorem dX10_walk_103 : decode cX10_walk 103 = .ok (.aload_n 0, 1) := by decide +kernel
theorem dX10_walk_104 : decode cX10_walk 104 = .ok (.getfield 23, 3) := by decide +kernel
theorem dX10_walk_107 : decode cX10_walk 107 = .ok (.iconst 2, 1) := by decide +kernel
theorem dX10_walk_108 : decode cX10_walk 108 = .ok (.iaload, 1) := by decide +kernel
theorem dX10_walk_109 : decode cX10_walk 109 = .ok (.iconst 2, 1) := by decide +kernel
theorem dX10_walk_110 : decode cX10_walk 110 = .ok (.if_icmp .ge 99, 3) := by decide +kernel
theorem dX10_walk_113 : decode cX10_walk 113 = .ok (.aload_n 0, 1) := by decide +kernel
theorem dX10_walk_114 : decode cX10_walk 114 = .ok (.iload_n 1, 1) := by decide +kernel
theorem dX10_walk_115 : decode cX10_walk 115 = .ok (.bipush 30, 2) := by decide +kernel
theorem dX10_walk_117 : decode cX10_walk 117 = .ok (.invokevirtual 357, 3) := by decide +kernel
theorem dX10_walk_120 : decode cX10_walk 120 = .ok (.lstore 8, 2) := by decide +kernel
theorem dX10_walk_122 : decode cX10_walk 122 = .ok (.lload 8, 2) := by decide +kernel
theorem dX10_walk_124 : decode cX10_walk 124 = .ok (.ldc2_w 361, 3) := by decide +kernel
theorem dX10_walk_127 : decode cX10_walk 127 = .ok (.aload_n 0, 1) := by decide +kernel
theorem dX10_walk_128 : decode cX10_walk 128 = .ok (.getfield 23, 3) := by decide +kernel
theorem dX10_walk_131 : decode cX10_walk 131 = .ok (.iconst 1, 1) := by decide +kernel
theorem dX10_walk_132 : decode cX10_walk 132 = .ok (.iaload, 1) := by decide +kernel
theorem dX10_walk_133 : decode cX10_walk 133 = .ok (.aload_n 0, 1) := by decide +kernel
theorem dX10_walk_134 : decode cX10_walk 134 = .ok (.getfield 23, 3) := by decide +kernel
theorem dX10_walk_137 : decode cX10_walk 137 = .ok (.iconst 0, 1) := by decide +kernel
theorem dX10_walk_138 : decode cX10_walk 138 = .ok (.iaload, 1) := by decide +kernel
theorem dX10_walk_139 : decode cX10_walk 139 = .ok (.isub, 1) := by decide +kernel
theorem dX10_walk_140 : decode cX10_walk 140 = .ok (.iconst 1, 1) := by decide +kernel
theorem dX10_walk_141 : decode cX10_walk 141 = .ok (.iadd, 1) := by decide +kernel
theorem dX10_walk_142 : decode cX10_walk 142 = .ok (.i2l, 1) := by decide +kernel
theorem dX10_walk_143 : decode cX10_walk 143 = .ok (.lmul, 1) := by decide +kernel
theorem dX10_walk_144 : decode cX10_walk 144 = .ok (.lsub, 1) := by decide +kernel
theorem dX10_walk_145 : decode cX10_walk 145 = .ok (.lstore 10, 2) := by decide +kernel
theorem dX10_walk_147 : decode cX10_walk 147 = .ok (.iload_n 3, 1) := by decide +kernel
theorem dX10_walk_148 : decode cX10_walk 148 = .ok (.iconst (-1), 1) := by decide +kernel
theorem dX10_walk_149 : decode cX10_walk 149 = .ok (.if_icmp .eq 11, 3) := by decide +kernel
theorem dX10_walk_152 : decode cX10_walk 152 = .ok (.lload 10, 2) := by decide +kernel
theorem dX10_walk_154 : decode cX10_walk 154 = .ok (.lload 4, 2) := by decide +kernel
theorem dX10_walk_156 : decode cX10_walk 156 = .ok (.lcmp, 1) := by decide +kernel
theorem dX10_walk_157 : decode cX10_walk 157 = .ok (.ifCond .le 39, 3) := by decide +kernel
theorem dX10_walk_160 : decode cX10_walk 160 = .ok (.sipush 1000, 3) := by decide +kernel
theorem dX10_walk_163 : decode cX10_walk 163 = .ok (.aload_n 0, 1) := by decide +kernel
theorem dX10_walk_164 : decode cX10_walk 164 = .ok (.getfield 23, 3) := by decide +kernel
theorem dX10_walk_167 : decode cX10_walk 167 = .ok (.iconst 0, 1) := by decide +kernel
theorem dX10_walk_168 : decode cX10_walk 168 = .ok (.iaload, 1) := by decide +kernel
theorem dX10_walk_169 : decode cX10_walk 169 = .ok (.imul, 1) := by decide +kernel
theorem dX10_walk_170 : decode cX10_walk 170 = .ok (.bipush 10, 2) := by decide +kernel
theorem dX10_walk_172 : decode cX10_walk 172 = .ok (.aload_n 0, 1) := by decide +kernel
theorem dX10_walk_173 : decode cX10_walk 173 = .ok (.getfield 23, 3) := by decide +kernel
theorem dX10_walk_176 : decode cX10_walk 176 = .ok (.iconst 1, 1) := by decide +kernel
theorem dX10_walk_177 : decode cX10_walk 177 = .ok (.iaload, 1) := by decide +kernel
theorem dX10_walk_178 : decode cX10_walk 178 = .ok (.imul, 1) := by decide +kernel
theorem dX10_walk_179 : decode cX10_walk 179 = .ok (.iadd, 1) := by decide +kernel
theorem dX10_walk_180 : decode cX10_walk 180 = .ok (.aload_n 0, 1) := by decide +kernel
theorem dX10_walk_181 : decode cX10_walk 181 = .ok (.getfield 23, 3) := by decide +kernel
theorem dX10_walk_184 : decode cX10_walk 184 = .ok (.iconst 2, 1) := by decide +kernel
theorem dX10_walk_185 : decode cX10_walk 185 = .ok (.iaload, 1) := by decide +kernel
theorem dX10_walk_186 : decode cX10_walk 186 = .ok (.iadd, 1) := by decide +kernel
theorem dX10_walk_187 : decode cX10_walk 187 = .ok (.istore_n 3, 1) := by decide +kernel
theorem dX10_walk_188 : decode cX10_walk 188 = .ok (.lload 10, 2) := by decide +kernel
theorem dX10_walk_190 : decode cX10_walk 190 = .ok (.lstore 4, 2) := by decide +kernel
theorem dX10_walk_192 : decode cX10_walk 192 = .ok (.lload 8, 2) := by decide +kernel
theorem dX10_walk_194 : decode cX10_walk 194 = .ok (.lstore 6, 2) := by decide +kernel
theorem dX10_walk_196 : decode cX10_walk 196 = .ok (.aload_n 0, 1) := by decide +kernel
theorem dX10_walk_197 : decode cX10_walk 197 = .ok (.getfield 23, 3) := by decide +kernel
theorem dX10_walk_200 : decode cX10_walk 200 = .ok (.iconst 2, 1) := by decide +kernel
theorem dX10_walk_201 : decode cX10_walk 201 = .ok (.dup2, 1) := by decide +kernel
theorem dX10_walk_202 : decode cX10_walk 202 = .ok (.iaload, 1) := by decide +kernel
theorem dX10_walk_203 : decode cX10_walk 203 = .ok (.iconst 1, 1) := by decide +kernel
theorem dX10_walk_204 : decode cX10_walk 204 = .ok (.iadd, 1) := by decide +kernel
theorem dX10_walk_205 : decode cX10_walk 205 = .ok (.iastore, 1) := by decide +kernel
theorem dX10_walk_206 : decode cX10_walk 206 = .ok (.goto (-103), 3) := by decide +kernel
theorem dX10_walk_209 : decode cX10_walk 209 = .ok (.aload_n 0, 1) := by decide +kernel
theorem dX10_walk_210 : decode cX10_walk 210 = .ok (.getfield 23, 3) := by decide +kernel
theorem dX10_walk_213 : decode cX10_walk 213 = .ok (.iconst 1, 1) := by decide +kernel
theorem dX10_walk_214 : decode cX10_walk 214 = .ok (.dup2, 1) := by decide +kernel
theorem dX10_walk_215 : decode cX10_walk 215 = .ok (.iaload, 1) := by decide +kernel
theorem dX10_walk_216 : decode cX10_walk 216 = .ok (.iconst 1, 1) := by decide +kernel
theorem dX10_walk_217 : decode cX10_walk 217 = .ok (.iadd, 1) := by decide +kernel
theorem dX10_walk_218 : decode cX10_walk 218 = .ok (.iastore, 1) := by decide +kernel
theorem dX10_walk_219 : decode cX10_walk 219 = .ok (.goto (-134), 3) := by decide +kernel
theorem dX10_walk_222 : decode cX10_walk 222 = .ok (.aload_n 0, 1) := by decide +kernel
theorem dX10_walk_223 : decode cX10_walk 223 = .ok (.getfield 23, 3) := by decide +kernel
theorem dX10_walk_226 : decode cX10_walk 226 = .ok (.iconst 0, 1) := by decide +kernel
theorem dX10_walk_227 : decode cX10_walk 227 = .ok (.dup2, 1) := by decide +kernel
theorem dX10_walk_228 : decode cX10_walk 228 = .ok (.iaload, 1) := by decide +kernel
theorem dX10_walk_229 : decode cX10_walk 229 = .ok (.iconst 1, 1) := by decide +kernel
theorem dX10_walk_230 : decode cX10_walk 230 = .ok (.iadd, 1) := by decide +kernel
theorem dX10_walk_231 : decode cX10_walk 231 = .ok (.iastore, 1) := by decide +kernel
theorem dX10_walk_232 : decode cX10_walk 232 = .ok (.goto (-170), 3) := by decide +kernel
theorem dX10_walk_235 : decode cX10_walk 235 = .ok (.iconst 0, 1) := by decide +kernel
theorem dX10_walk_236 : decode cX10_walk 236 = .ok (.istore 8, 2) := by decide +kernel
theorem dX10_walk_238 : decode cX10_walk 238 = .ok (.iload 8, 2) := by decide +kernel
theorem dX10_walk_240 : decode cX10_walk 240 = .ok (.iconst 3, 1) := by decide +kernel
theorem dX10_walk_241 : decode cX10_walk 241 = .ok (.if_icmp .ge 23, 3) := by decide +kernel
theorem dX10_walk_244 : decode cX10_walk 244 = .ok (.aload_n 0, 1) := by decide +kernel
theorem dX10_walk_245 : decode cX10_walk 245 = .ok (.getfield 23, 3) := by decide +kernel
theorem dX10_walk_248 : decode cX10_walk 248 = .ok (.iload 8, 2) := by decide +kernel
theorem dX10_walk_250 : decode cX10_walk 250 = .ok (.aload_n 0, 1) := by decide +kernel
theorem dX10_walk_251 : decode cX10_walk 251 = .ok (.getfield 38, 3) := by decide +kernel
theorem dX10_walk_254 : decode cX10_walk 254 = .ok (.iload 8, 2) := by decide +kernel
theorem dX10_walk_256 : decode cX10_walk 256 = .ok (.iaload, 1) := by decide +kernel
theorem dX10_walk_257 : decode cX10_walk 257 = .ok (.iastore, 1) := by decide +kernel
theorem dX10_walk_258 : decode cX10_walk 258 = .ok (.iinc 8 1, 3) := by decide +kernel
theorem dX10_walk_261 : decode cX10_walk 261 = .ok (.goto (-23), 3) := by decide +kernel
theorem dX10_walk_264 : decode cX10_walk 264 = .ok (.iload_n 2, 1) := by decide +kernel
theorem dX10_walk_265 : decode cX10_walk 265 = .ok (.ifCond .ne 8, 3) := by decide +kernel
theorem dX10_walk_268 : decode cX10_walk 268 = .ok (.iload_n 3, 1) := by decide +kernel
theorem dX10_walk_269 : decode cX10_walk 269 = .ok (.i2l, 1) := by decide +kernel
theorem dX10_walk_270 : decode cX10_walk 270 = .ok (.goto 5, 3) := by decide +kernel
theorem dX10_walk_273 : decode cX10_walk 273 = .ok (.lload 6, 2) := by decide +kernel
theorem dX10_walk_275 : decode cX10_walk 275 = .ok (.lreturn, 1) := by decide +kernel
theorem dX10_best_0 : decode cX10_best 0 = .ok (.aload_n 0, 1) := by decide +kernel
theorem dX10_best_1 : decode cX10_best 1 = .ok (.iload_n 1, 1) := by decide +kernel
theorem dX10_best_2 : decode cX10_best 2 = .ok (.invokevirtual 79, 3) := by decide +kernel
theorem dX10_best_5 : decode cX10_best 5 = .ok (.ifCond .eq 13, 3) := by decide +kernel
theorem dX10_best_8 : decode cX10_best 8 = .ok (.iload_n 2, 1) := by decide +kernel
theorem dX10_best_9 : decode cX10_best 9 = .ok (.i2l, 1) := by decide +kernel
theorem dX10_best_10 : decode cX10_best 10 = .ok (.lconst 0, 1) := by decide +kernel
theorem dX10_best_11 : decode cX10_best 11 = .ok (.lconst 1, 1) := by decide +kernel
theorem dX10_best_12 : decode cX10_best 12 = .ok (.invokestatic 73, 3) := by decide +kernel
theorem dX10_best_15 : decode cX10_best 15 = .ok (.ifCond .ne 6, 3) := by decide +kernel
theorem dX10_best_18 : decode cX10_best 18 = .ok (.bipush (-2), 2) := by decide +kernel
theorem dX10_best_20 : decode cX10_best 20 = .ok (.ireturn, 1) := by decide +kernel
theorem dX10_best_21 : decode cX10_best 21 = .ok (.aload_n 0, 1) := by decide +kernel
theorem dX10_best_22 : decode cX10_best 22 = .ok (.iload_n 1, 1) := by decide +kernel
theorem dX10_best_23 : decode cX10_best 23 = .ok (.invokevirtual 342, 3) := by decide +kernel
theorem dX10_best_26 : decode cX10_best 26 = .ok (.iconst 0, 1) := by decide +kernel
theorem dX10_best_27 : decode cX10_best 27 = .ok (.istore_n 3, 1) := by decide +kernel
theorem dX10_best_28 : decode cX10_best 28 = .ok (.iconst 1, 1) := by decide +kernel
theorem dX10_best_29 : decode cX10_best 29 = .ok (.istore 4, 2) := by decide +kernel
theorem dX10_best_31 : decode cX10_best 31 = .ok (.iload 4, 2) := by decide +kernel
theorem dX10_best_33 : decode cX10_best 33 = .ok (.bipush 30, 2) := by decide +kernel
theorem dX10_best_35 : decode cX10_best 35 = .ok (.if_icmp .ge 32, 3) := by decide +kernel
theorem dX10_best_38 : decode cX10_best 38 = .ok (.aload_n 0, 1) := by decide +kernel
theorem dX10_best_39 : decode cX10_best 39 = .ok (.getfield 35, 3) := by decide +kernel
theorem dX10_best_42 : decode cX10_best 42 = .ok (.iload 4, 2) := by decide +kernel
theorem dX10_best_44 : decode cX10_best 44 = .ok (.iaload, 1) := by decide +kernel
theorem dX10_best_45 : decode cX10_best 45 = .ok (.aload_n 0, 1) := by decide +kernel
theorem dX10_best_46 : decode cX10_best 46 = .ok (.getfield 35, 3) := by decide +kernel
theorem dX10_best_49 : decode cX10_best 49 = .ok (.iload_n 3, 1) := by decide +kernel
theorem dX10_best_50 : decode cX10_best 50 = .ok (.iaload, 1) := by decide +kernel
theorem dX10_best_51 : decode cX10_best 51 = .ok (.if_icmp .le 8, 3) := by decide +kernel
theorem dX10_best_54 : decode cX10_best 54 = .ok (.iload 4, 2) := by decide +kernel
theorem dX10_best_56 : decode cX10_best 56 = .ok (.goto 4, 3) := by decide +kernel
theorem dX10_best_59 : decode cX10_best 59 = .ok (.iload_n 3, 1) := by decide +kernel
theorem dX10_best_60 : decode cX10_best 60 = .ok (.istore_n 3, 1) := by decide +kernel
theorem dX10_best_61 : decode cX10_best 61 = .ok (.iinc 4 1, 3) := by decide +kernel
theorem dX10_best_64 : decode cX10_best 64 = .ok (.goto (-33), 3) := by decide +kernel
theorem dX10_best_67 : decode cX10_best 67 = .ok (.iload_n 2, 1) := by decide +kernel
theorem dX10_best_68 : decode cX10_best 68 = .ok (.ifCond .ne 7, 3) := by decide +kernel
theorem dX10_best_71 : decode cX10_best 71 = .ok (.iload_n 3, 1) := by decide +kernel
theorem dX10_best_72 : decode cX10_best 72 = .ok (.goto 9, 3) := by decide +kernel
theorem dX10_best_75 : decode cX10_best 75 = .ok (.aload_n 0, 1) := by decide +kernel
theorem dX10_best_76 : decode cX10_best 76 = .ok (.getfield 35, 3) := by decide +kernel
theorem dX10_best_79 : decode cX10_best 79 = .ok (.iload_n 3, 1) := by decide +kernel
theorem dX10_best_80 : decode cX10_best 80 = .ok (.iaload, 1) := by decide +kernel
theorem dX10_best_81 : decode cX10_best 81 = .ok (.ireturn, 1) := by decide +kernel
theorem dX10_first_0 : decode cX10_first 0 = .ok (.iload_n 1, 1) := by decide +kernel
theorem dX10_first_1 : decode cX10_first 1 = .ok (.i2l, 1) := by decide +kernel
theorem dX10_first_2 : decode cX10_first 2 = .ok (.lconst 0, 1) := by decide +kernel
theorem dX10_first_3 : decode cX10_first 3 = .ok (.ldc2_w 355, 3) := by decide +kernel
theorem dX10_first_6 : decode cX10_first 6 = .ok (.invokestatic 73, 3) := by decide +kernel
theorem dX10_first_9 : decode cX10_first 9 = .ok (.ifCond .eq 13, 3) := by decide +kernel
theorem dX10_first_12 : decode cX10_first 12 = .ok (.iload_n 2, 1) := by decide +kernel
theorem dX10_first_13 : decode cX10_first 13 = .ok (.i2l, 1) := by decide +kernel
theorem dX10_first_14 : decode cX10_first 14 = .ok (.lconst 0, 1) := by decide +kernel
theorem dX10_first_15 : decode cX10_first 15 = .ok (.lconst 1, 1) := by decide +kernel
theorem dX10_first_16 : decode cX10_first 16 = .ok (.invokestatic 73, 3) := by decide +kernel
theorem dX10_first_19 : decode cX10_first 19 = .ok (.ifCond .ne 7, 3) := by decide +kernel
theorem dX10_first_22 : decode cX10_first 22 = .ok (.ldc2_w 349, 3) := by decide +kernel
theorem dX10_first_25 : decode cX10_first 25 = .ok (.lreturn, 1) := by decide +kernel
theorem dX10_first_26 : decode cX10_first 26 = .ok (.iconst (-1), 1) := by decide +kernel
theorem dX10_first_27 : decode cX10_first 27 = .ok (.istore_n 3, 1) := by decide +kernel
theorem dX10_first_28 : decode cX10_first 28 = .ok (.ldc2_w 363, 3) := by decide +kernel
theorem dX10_first_31 : decode cX10_first 31 = .ok (.lstore 4, 2) := by decide +kernel
theorem dX10_first_33 : decode cX10_first 33 = .ok (.iconst 0, 1) := by decide +kernel
theorem dX10_first_34 : decode cX10_first 34 = .ok (.istore 6, 2) := by decide +kernel
theorem dX10_first_36 : decode cX10_first 36 = .ok (.iload 6, 2) := by decide +kernel
theorem dX10_first_38 : decode cX10_first 38 = .ok (.aload_n 0, 1) := by decide +kernel
theorem dX10_first_39 : decode cX10_first 39 = .ok (.getfield 70, 3) := by decide +kernel
theorem dX10_first_42 : decode cX10_first 42 = .ok (.if_icmp .ge 33, 3) := by decide +kernel
theorem dX10_first_45 : decode cX10_first 45 = .ok (.aload_n 0, 1) := by decide +kernel
theorem dX10_first_46 : decode cX10_first 46 = .ok (.iload 6, 2) := by decide +kernel
theorem dX10_first_48 : decode cX10_first 48 = .ok (.iload_n 1, 1) := by decide +kernel
theorem dX10_first_49 : decode cX10_first 49 = .ok (.invokevirtual 357, 3) := by decide +kernel
theorem dX10_first_52 : decode cX10_first 52 = .ok (.lstore 7, 2) := by decide +kernel
theorem dX10_first_54 : decode cX10_first 54 = .ok (.lload 7, 2) := by decide +kernel
theorem dX10_first_56 : decode cX10_first 56 = .ok (.lload 4, 2) := by decide +kernel
theorem dX10_first_58 : decode cX10_first 58 = .ok (.lcmp, 1) := by decide +kernel
theorem dX10_first_59 : decode cX10_first 59 = .ok (.ifCond .le 10, 3) := by decide +kernel
theorem dX10_first_62 : decode cX10_first 62 = .ok (.iload 6, 2) := by decide +kernel
theorem dX10_first_64 : decode cX10_first 64 = .ok (.istore_n 3, 1) := by decide +kernel
theorem dX10_first_65 : decode cX10_first 65 = .ok (.lload 7, 2) := by decide +kernel
theorem dX10_first_67 : decode cX10_first 67 = .ok (.lstore 4, 2) := by decide +kernel
theorem dX10_first_69 : decode cX10_first 69 = .ok (.iinc 6 1, 3) := by decide +kernel
theorem dX10_first_72 : decode cX10_first 72 = .ok (.goto (-36), 3) := by decide +kernel
theorem dX10_first_75 : decode cX10_first 75 = .ok (.iload_n 2, 1) := by decide +kernel
theorem dX10_first_76 : decode cX10_first 76 = .ok (.ifCond .ne 8, 3) := by decide +kernel
theorem dX10_first_79 : decode cX10_first 79 = .ok (.iload_n 3, 1) := by decide +kernel
theorem dX10_first_80 : decode cX10_first 80 = .ok (.i2l, 1) := by decide +kernel
theorem dX10_first_81 : decode cX10_first 81 = .ok (.goto 5, 3) := by decide +kernel
theorem dX10_first_84 : decode cX10_first 84 = .ok (.lload 4, 2) := by decide +kernel
theorem dX10_first_86 : decode cX10_first 86 = .ok (.lreturn, 1) := by decide +kernel
theorem dX10_giveUp_0 : decode cX10_giveUp 0 = .ok (.aload_n 0, 1) := by decide +kernel
theorem dX10_giveUp_1 : decode cX10_giveUp 1 = .ok (.iload_n 1, 1) := by decide +kernel
theorem dX10_giveUp_2 : decode cX10_giveUp 2 = .ok (.invokevirtual 79, 3) := by decide +kernel
theorem dX10_giveUp_5 : decode cX10_giveUp 5 = .ok (.ifCond .eq 15, 3) := by decide +kernel
theorem dX10_giveUp_8 : decode cX10_giveUp 8 = .ok (.iload_n 2, 1) := by decide +kernel
theorem dX10_giveUp_9 : decode cX10_giveUp 9 = .ok (.i2l, 1) := by decide +kernel
theorem dX10_giveUp_10 : decode cX10_giveUp 10 = .ok (.lconst 1, 1) := by decide +kernel
theorem dX10_giveUp_11 : decode cX10_giveUp 11 = .ok (.ldc2_w 351, 3) := by decide +kernel
theorem dX10_giveUp_14 : decode cX10_giveUp 14 = .ok (.invokestatic 73, 3) := by decide +kernel
theorem dX10_giveUp_17 : decode cX10_giveUp 17 = .ok (.ifCond .ne 6, 3) := by decide +kernel
theorem dX10_giveUp_20 : decode cX10_giveUp 20 = .ok (.bipush (-2), 2) := by decide +kernel
theorem dX10_giveUp_22 : decode cX10_giveUp 22 = .ok (.ireturn, 1) := by decide +kernel
theorem dX10_giveUp_23 : decode cX10_giveUp 23 = .ok (.aload_n 0, 1) := by decide +kernel
theorem dX10_giveUp_24 : decode cX10_giveUp 24 = .ok (.iload_n 1, 1) := by decide +kernel
theorem dX10_giveUp_25 : decode cX10_giveUp 25 = .ok (.invokevirtual 342, 3) := by decide +kernel
theorem dX10_giveUp_28 : decode cX10_giveUp 28 = .ok (.iconst 0, 1) := by decide +kernel
theorem dX10_giveUp_29 : decode cX10_giveUp 29 = .ok (.istore_n 3, 1) := by decide +kernel
theorem dX10_giveUp_30 : decode cX10_giveUp 30 = .ok (.iconst 0, 1) := by decide +kernel
theorem dX10_giveUp_31 : decode cX10_giveUp 31 = .ok (.istore 4, 2) := by decide +kernel
theorem dX10_giveUp_33 : decode cX10_giveUp 33 = .ok (.iload 4, 2) := by decide +kernel
theorem dX10_giveUp_35 : decode cX10_giveUp 35 = .ok (.bipush 30, 2) := by decide +kernel
theorem dX10_giveUp_37 : decode cX10_giveUp 37 = .ok (.if_icmp .ge 29, 3) := by decide +kernel
theorem dX10_giveUp_40 : decode cX10_giveUp 40 = .ok (.aload_n 0, 1) := by decide +kernel
theorem dX10_giveUp_41 : decode cX10_giveUp 41 = .ok (.getfield 35, 3) := by decide +kernel
theorem dX10_giveUp_44 : decode cX10_giveUp 44 = .ok (.iload 4, 2) := by decide +kernel
theorem dX10_giveUp_46 : decode cX10_giveUp 46 = .ok (.iaload, 1) := by decide +kernel
theorem dX10_giveUp_47 : decode cX10_giveUp 47 = .ok (.iload_n 2, 1) := by decide +kernel
theorem dX10_giveUp_48 : decode cX10_giveUp 48 = .ok (.if_icmp .lt 10, 3) := by decide +kernel
theorem dX10_giveUp_51 : decode cX10_giveUp 51 = .ok (.iload 4, 2) := by decide +kernel
theorem dX10_giveUp_53 : decode cX10_giveUp 53 = .ok (.iconst 1, 1) := by decide +kernel
theorem dX10_giveUp_54 : decode cX10_giveUp 54 = .ok (.iadd, 1) := by decide +kernel
theorem dX10_giveUp_55 : decode cX10_giveUp 55 = .ok (.goto 4, 3) := by decide +kernel
theorem dX10_giveUp_58 : decode cX10_giveUp 58 = .ok (.iload_n 3, 1) := by decide +kernel
theorem dX10_giveUp_59 : decode cX10_giveUp 59 = .ok (.istore_n 3, 1) := by decide +kernel
theorem dX10_giveUp_60 : decode cX10_giveUp 60 = .ok (.iinc 4 1, 3) := by decide +kernel
theorem dX10_giveUp_63 : decode cX10_giveUp 63 = .ok (.goto (-30), 3) := by decide +kernel
theorem dX10_giveUp_66 : decode cX10_giveUp 66 = .ok (.iload_n 3, 1) := by decide +kernel
theorem dX10_giveUp_67 : decode cX10_giveUp 67 = .ok (.ireturn, 1) := by decide +kernel
theorem dX10_firstOther_0 : decode cX10_firstOther 0 = .ok (.aload_n 0, 1) := by decide +kernel
theorem dX10_firstOther_1 : decode cX10_firstOther 1 = .ok (.iload_n 2, 1) := by decide +kernel
theorem dX10_firstOther_2 : decode cX10_firstOther 2 = .ok (.invokevirtual 342, 3) := by decide +kernel
theorem dX10_firstOther_5 : decode cX10_firstOther 5 = .ok (.iconst 0, 1) := by decide +kernel
theorem dX10_firstOther_6 : decode cX10_firstOther 6 = .ok (.istore_n 3, 1) := by decide +kernel
theorem dX10_firstOther_7 : decode cX10_firstOther 7 = .ok (.iload_n 3, 1) := by decide +kernel
theorem dX10_firstOther_8 : decode cX10_firstOther 8 = .ok (.aload_n 0, 1) := by decide +kernel
theorem dX10_firstOther_9 : decode cX10_firstOther 9 = .ok (.getfield 57, 3) := by decide +kernel
theorem dX10_firstOther_12 : decode cX10_firstOther 12 = .ok (.iload_n 1, 1) := by decide +kernel
theorem dX10_firstOther_13 : decode cX10_firstOther 13 = .ok (.iaload, 1) := by decide +kernel
theorem dX10_firstOther_14 : decode cX10_firstOther 14 = .ok (.if_icmp .ge 31, 3) := by decide +kernel
theorem dX10_firstOther_17 : decode cX10_firstOther 17 = .ok (.aload_n 0, 1) := by decide +kernel
theorem dX10_firstOther_18 : decode cX10_firstOther 18 = .ok (.getfield 32, 3) := by decide +kernel
theorem dX10_firstOther_21 : decode cX10_firstOther 21 = .ok (.iload_n 3, 1) := by decide +kernel
theorem dX10_firstOther_22 : decode cX10_firstOther 22 = .ok (.iaload, 1) := by decide +kernel
theorem dX10_firstOther_23 : decode cX10_firstOther 23 = .ok (.aload_n 0, 1) := by decide +kernel
theorem dX10_firstOther_24 : decode cX10_firstOther 24 = .ok (.getfield 60, 3) := by decide +kernel
theorem dX10_firstOther_27 : decode cX10_firstOther 27 = .ok (.bipush 40, 2) := by decide +kernel
theorem dX10_firstOther_29 : decode cX10_firstOther 29 = .ok (.iload_n 1, 1) := by decide +kernel
theorem dX10_firstOther_30 : decode cX10_firstOther 30 = .ok (.imul, 1) := by decide +kernel
theorem dX10_firstOther_31 : decode cX10_firstOther 31 = .ok (.iload_n 3, 1) := by decide +kernel
theorem dX10_firstOther_32 : decode cX10_firstOther 32 = .ok (.iadd, 1) := by decide +kernel
theorem dX10_firstOther_33 : decode cX10_firstOther 33 = .ok (.iaload, 1) := by decide +kernel
theorem dX10_firstOther_34 : decode cX10_firstOther 34 = .ok (.if_icmp .eq 5, 3) := by decide +kernel
theorem dX10_firstOther_37 : decode cX10_firstOther 37 = .ok (.iload_n 3, 1) := by decide +kernel
theorem dX10_firstOther_38 : decode cX10_firstOther 38 = .ok (.ireturn, 1) := by decide +kernel
theorem dX10_firstOther_39 : decode cX10_firstOther 39 = .ok (.iinc 3 1, 3) := by decide +kernel
theorem dX10_firstOther_42 : decode cX10_firstOther 42 = .ok (.goto (-35), 3) := by decide +kernel
theorem dX10_firstOther_45 : decode cX10_firstOther 45 = .ok (.iconst (-1), 1) := by decide +kernel
theorem dX10_firstOther_46 : decode cX10_firstOther 46 = .ok (.ireturn, 1) := by decide +kernel
theorem dX10_tells_0 : decode cX10_tells 0 = .ok (.iload_n 1, 1) := by decide +kernel
theorem dX10_tells_1 : decode cX10_tells 1 = .ok (.invokestatic 365, 3) := by decide +kernel
theorem dX10_tells_4 : decode cX10_tells 4 = .ok (.ifCond .eq 23, 3) := by decide +kernel
theorem dX10_tells_7 : decode cX10_tells 7 = .ok (.aload_n 0, 1) := by decide +kernel
theorem dX10_tells_8 : decode cX10_tells 8 = .ok (.iload_n 2, 1) := by decide +kernel
theorem dX10_tells_9 : decode cX10_tells 9 = .ok (.invokevirtual 79, 3) := by decide +kernel
theorem dX10_tells_12 : decode cX10_tells 12 = .ok (.ifCond .eq 15, 3) := by decide +kernel
theorem dX10_tells_15 : decode cX10_tells 15 = .ok (.iload_n 3, 1) := by decide +kernel
theorem dX10_tells_16 : decode cX10_tells 16 = .ok (.i2l, 1) := by decide +kernel
theorem dX10_tells_17 : decode cX10_tells 17 = .ok (.lconst 0, 1) := by decide +kernel
theorem dX10_tells_18 : decode cX10_tells 18 = .ok (.ldc2_w 98, 3) := by decide +kernel
theorem dX10_tells_21 : decode cX10_tells 21 = .ok (.invokestatic 73, 3) := by decide +kernel
theorem dX10_tells_24 : decode cX10_tells 24 = .ok (.ifCond .ne 6, 3) := by decide +kernel
theorem dX10_tells_27 : decode cX10_tells 27 = .ok (.bipush (-2), 2) := by decide +kernel
theorem dX10_tells_29 : decode cX10_tells 29 = .ok (.ireturn, 1) := by decide +kernel
theorem dX10_tells_30 : decode cX10_tells 30 = .ok (.aload_n 0, 1) := by decide +kernel
theorem dX10_tells_31 : decode cX10_tells 31 = .ok (.getfield 50, 3) := by decide +kernel
theorem dX10_tells_34 : decode cX10_tells 34 = .ok (.iload_n 1, 1) := by decide +kernel
theorem dX10_tells_35 : decode cX10_tells 35 = .ok (.baload, 1) := by decide +kernel
theorem dX10_tells_36 : decode cX10_tells 36 = .ok (.ifCond .ne 6, 3) := by decide +kernel
theorem dX10_tells_39 : decode cX10_tells 39 = .ok (.bipush (-11), 2) := by decide +kernel
theorem dX10_tells_41 : decode cX10_tells 41 = .ok (.ireturn, 1) := by decide +kernel
theorem dX10_tells_42 : decode cX10_tells 42 = .ok (.aload_n 0, 1) := by decide +kernel
theorem dX10_tells_43 : decode cX10_tells 43 = .ok (.getfield 57, 3) := by decide +kernel
theorem dX10_tells_46 : decode cX10_tells 46 = .ok (.iload_n 1, 1) := by decide +kernel
theorem dX10_tells_47 : decode cX10_tells 47 = .ok (.iaload, 1) := by decide +kernel
theorem dX10_tells_48 : decode cX10_tells 48 = .ok (.bipush 30, 2) := by decide +kernel
theorem dX10_tells_50 : decode cX10_tells 50 = .ok (.if_icmp .le 6, 3) := by decide +kernel
theorem dX10_tells_53 : decode cX10_tells 53 = .ok (.bipush (-2), 2) := by decide +kernel
theorem dX10_tells_55 : decode cX10_tells 55 = .ok (.ireturn, 1) := by decide +kernel
theorem dX10_tells_56 : decode cX10_tells 56 = .ok (.iload_n 3, 1) := by decide +kernel
theorem dX10_tells_57 : decode cX10_tells 57 = .ok (.ifCond .ne 10, 3) := by decide +kernel
theorem dX10_tells_60 : decode cX10_tells 60 = .ok (.aload_n 0, 1) := by decide +kernel
theorem dX10_tells_61 : decode cX10_tells 61 = .ok (.iload_n 1, 1) := by decide +kernel
theorem dX10_tells_62 : decode cX10_tells 62 = .ok (.iload_n 2, 1) := by decide +kernel
theorem dX10_tells_63 : decode cX10_tells 63 = .ok (.invokevirtual 368, 3) := by decide +kernel
theorem dX10_tells_66 : decode cX10_tells 66 = .ok (.ireturn, 1) := by decide +kernel
theorem dX10_tells_67 : decode cX10_tells 67 = .ok (.iload_n 3, 1) := by decide +kernel
theorem dX10_tells_68 : decode cX10_tells 68 = .ok (.iconst 1, 1) := by decide +kernel
theorem dX10_tells_69 : decode cX10_tells 69 = .ok (.if_icmp .ne 8, 3) := by decide +kernel
theorem dX10_tells_72 : decode cX10_tells 72 = .ok (.bipush 7, 2) := by decide +kernel
theorem dX10_tells_74 : decode cX10_tells 74 = .ok (.goto 32, 3) := by decide +kernel
theorem dX10_tells_77 : decode cX10_tells 77 = .ok (.iload_n 3, 1) := by decide +kernel
theorem dX10_tells_78 : decode cX10_tells 78 = .ok (.iconst 2, 1) := by decide +kernel
theorem dX10_tells_79 : decode cX10_tells 79 = .ok (.if_icmp .ne 7, 3) := by decide +kernel
theorem dX10_tells_82 : decode cX10_tells 82 = .ok (.iconst 3, 1) := by decide +kernel
theorem dX10_tells_83 : decode cX10_tells 83 = .ok (.goto 23, 3) := by decide +kernel
theorem dX10_tells_86 : decode cX10_tells 86 = .ok (.iload_n 3, 1) := by decide +kernel
theorem dX10_tells_87 : decode cX10_tells 87 = .ok (.iconst 3, 1) := by decide +kernel
theorem dX10_tells_88 : decode cX10_tells 88 = .ok (.if_icmp .ne 7, 3) := by decide +kernel
theorem dX10_tells_91 : decode cX10_tells 91 = .ok (.iconst 4, 1) := by decide +kernel
theorem dX10_tells_92 : decode cX10_tells 92 = .ok (.goto 14, 3) := by decide +kernel
theorem dX10_tells_95 : decode cX10_tells 95 = .ok (.iload_n 3, 1) := by decide +kernel
theorem dX10_tells_96 : decode cX10_tells 96 = .ok (.iconst 4, 1) := by decide +kernel
theorem dX10_tells_97 : decode cX10_tells 97 = .ok (.if_icmp .ne 7, 3) := by decide +kernel
theorem dX10_tells_100 : decode cX10_tells 100 = .ok (.iconst 5, 1) := by decide +kernel
theorem dX10_tells_101 : decode cX10_tells 101 = .ok (.goto 5, 3) := by decide +kernel
theorem dX10_tells_104 : decode cX10_tells 104 = .ok (.bipush 9, 2) := by decide +kernel
theorem dX10_tells_106 : decode cX10_tells 106 = .ok (.istore 4, 2) := by decide +kernel
theorem dX10_tells_108 : decode cX10_tells 108 = .ok (.iload 4, 2) := by decide +kernel
theorem dX10_tells_110 : decode cX10_tells 110 = .ok (.bipush 9, 2) := by decide +kernel
theorem dX10_tells_112 : decode cX10_tells 112 = .ok (.if_icmp .ne 10, 3) := by decide +kernel
theorem dX10_tells_115 : decode cX10_tells 115 = .ok (.aload_n 0, 1) := by decide +kernel
theorem dX10_tells_116 : decode cX10_tells 116 = .ok (.getfield 95, 3) := by decide +kernel
theorem dX10_tells_119 : decode cX10_tells 119 = .ok (.goto 10, 3) := by decide +kernel
theorem dX10_tells_122 : decode cX10_tells 122 = .ok (.aload_n 0, 1) := by decide +kernel
theorem dX10_tells_123 : decode cX10_tells 123 = .ok (.iload_n 2, 1) := by decide +kernel
theorem dX10_tells_124 : decode cX10_tells 124 = .ok (.iload 4, 2) := by decide +kernel
theorem dX10_tells_126 : decode cX10_tells 126 = .ok (.invokevirtual 87, 3) := by decide +kernel
theorem dX10_tells_129 : decode cX10_tells 129 = .ok (.istore 5, 2) := by decide +kernel
theorem dX10_tells_131 : decode cX10_tells 131 = .ok (.iload_n 3, 1) := by decide +kernel
theorem dX10_tells_132 : decode cX10_tells 132 = .ok (.iconst 1, 1) := by decide +kernel
theorem dX10_tells_133 : decode cX10_tells 133 = .ok (.if_icmp .ne 8, 3) := by decide +kernel
theorem dX10_tells_136 : decode cX10_tells 136 = .ok (.bipush 6, 2) := by decide +kernel
theorem dX10_tells_138 : decode cX10_tells 138 = .ok (.goto 36, 3) := by decide +kernel
theorem dX10_tells_141 : decode cX10_tells 141 = .ok (.iload_n 3, 1) := by decide +kernel
theorem dX10_tells_142 : decode cX10_tells 142 = .ok (.iconst 2, 1) := by decide +kernel
theorem dX10_tells_143 : decode cX10_tells 143 = .ok (.if_icmp .ne 8, 3) := by decide +kernel
theorem dX10_tells_146 : decode cX10_tells 146 = .ok (.bipush 10, 2) := by decide +kernel
theorem dX10_tells_148 : decode cX10_tells 148 = .ok (.goto 26, 3) := by decide +kernel
theorem dX10_tells_151 : decode cX10_tells 151 = .ok (.iload_n 3, 1) := by decide +kernel
theorem dX10_tells_152 : decode cX10_tells 152 = .ok (.iconst 3, 1) := by decide +kernel
theorem dX10_tells_153 : decode cX10_tells 153 = .ok (.if_icmp .ne 8, 3) := by decide +kernel
theorem dX10_tells_156 : decode cX10_tells 156 = .ok (.bipush 20, 2) := by decide +kernel
theorem dX10_tells_158 : decode cX10_tells 158 = .ok (.goto 16, 3) := by decide +kernel
theorem dX10_tells_161 : decode cX10_tells 161 = .ok (.iload_n 3, 1) := by decide +kernel
theorem dX10_tells_162 : decode cX10_tells 162 = .ok (.iconst 4, 1) := by decide +kernel
theorem dX10_tells_163 : decode cX10_tells 163 = .ok (.if_icmp .ne 7, 3) := by decide +kernel
theorem dX10_tells_166 : decode cX10_tells 166 = .ok (.iconst 5, 1) := by decide +kernel
theorem dX10_tells_167 : decode cX10_tells 167 = .ok (.goto 7, 3) := by decide +kernel
theorem dX10_tells_170 : decode cX10_tells 170 = .ok (.aload_n 0, 1) := by decide +kernel
theorem dX10_tells_171 : decode cX10_tells 171 = .ok (.getfield 67, 3) := by decide +kernel
theorem dX10_tells_174 : decode cX10_tells 174 = .ok (.istore 6, 2) := by decide +kernel
theorem dX10_tells_176 : decode cX10_tells 176 = .ok (.iconst 0, 1) := by decide +kernel
theorem dX10_tells_177 : decode cX10_tells 177 = .ok (.istore 7, 2) := by decide +kernel
theorem dX10_tells_179 : decode cX10_tells 179 = .ok (.iconst 0, 1) := by decide +kernel
theorem dX10_tells_180 : decode cX10_tells 180 = .ok (.istore 8, 2) := by decide +kernel
theorem dX10_tells_182 : decode cX10_tells 182 = .ok (.iload 8, 2) := by decide +kernel
theorem dX10_tells_184 : decode cX10_tells 184 = .ok (.iload 6, 2) := by decide +kernel
theorem dX10_tells_186 : decode cX10_tells 186 = .ok (.if_icmp .ge 41, 3) := by decide +kernel
theorem dX10_tells_189 : decode cX10_tells 189 = .ok (.aload_n 0, 1) := by decide +kernel
theorem dX10_tells_190 : decode cX10_tells 190 = .ok (.iload 4, 2) := by decide +kernel
theorem dX10_tells_192 : decode cX10_tells 192 = .ok (.iload_n 2, 1) := by decide +kernel
theorem dX10_tells_193 : decode cX10_tells 193 = .ok (.iload 8, 2) := by decide +kernel
theorem dX10_tells_195 : decode cX10_tells 195 = .ok (.invokevirtual 91, 3) := by decide +kernel
theorem dX10_tells_198 : decode cX10_tells 198 = .ok (.iload 7, 2) := by decide +kernel
theorem dX10_tells_200 : decode cX10_tells 200 = .ok (.aload_n 0, 1) := by decide +kernel
theorem dX10_tells_201 : decode cX10_tells 201 = .ok (.iload_n 1, 1) := by decide +kernel
theorem dX10_tells_202 : decode cX10_tells 202 = .ok (.iload_n 2, 1) := by decide +kernel
theorem dX10_tells_203 : decode cX10_tells 203 = .ok (.invokevirtual 368, 3) := by decide +kernel
theorem dX10_tells_206 : decode cX10_tells 206 = .ok (.iconst (-1), 1) := by decide +kernel
theorem dX10_tells_207 : decode cX10_tells 207 = .ok (.if_icmp .ne 7, 3) := by decide +kernel
theorem dX10_tells_210 : decode cX10_tells 210 = .ok (.iconst 1, 1) := by decide +kernel
theorem dX10_tells_211 : decode cX10_tells 211 = .ok (.goto 4, 3) := by decide +kernel
theorem dX10_tells_214 : decode cX10_tells 214 = .ok (.iconst 0, 1) := by decide +kernel
theorem dX10_tells_215 : decode cX10_tells 215 = .ok (.iload 8, 2) := by decide +kernel
theorem dX10_tells_217 : decode cX10_tells 217 = .ok (.ishl, 1) := by decide +kernel
theorem dX10_tells_218 : decode cX10_tells 218 = .ok (.ior, 1) := by decide +kernel
theorem dX10_tells_219 : decode cX10_tells 219 = .ok (.istore 7, 2) := by decide +kernel
theorem dX10_tells_221 : decode cX10_tells 221 = .ok (.iinc 8 1, 3) := by decide +kernel
theorem dX10_tells_224 : decode cX10_tells 224 = .ok (.goto (-42), 3) := by decide +kernel
theorem dX10_tells_227 : decode cX10_tells 227 = .ok (.aload_n 0, 1) := by decide +kernel
theorem dX10_tells_228 : decode cX10_tells 228 = .ok (.iload 4, 2) := by decide +kernel
theorem dX10_tells_230 : decode cX10_tells 230 = .ok (.iload_n 2, 1) := by decide +kernel
theorem dX10_tells_231 : decode cX10_tells 231 = .ok (.iload 5, 2) := by decide +kernel
theorem dX10_tells_233 : decode cX10_tells 233 = .ok (.invokevirtual 91, 3) := by decide +kernel
theorem dX10_tells_236 : decode cX10_tells 236 = .ok (.iload 7, 2) := by decide +kernel
theorem dX10_tells_238 : decode cX10_tells 238 = .ok (.ireturn, 1) := by decide +kernel
theorem dX10_film_0 : decode cX10_film 0 = .ok (.iload_n 1, 1) := by decide +kernel
theorem dX10_film_1 : decode cX10_film 1 = .ok (.invokestatic 365, 3) := by decide +kernel
theorem dX10_film_4 : decode cX10_film 4 = .ok (.ifCond .eq 23, 3) := by decide +kernel
theorem dX10_film_7 : decode cX10_film 7 = .ok (.aload_n 0, 1) := by decide +kernel
theorem dX10_film_8 : decode cX10_film 8 = .ok (.iload_n 2, 1) := by decide +kernel
theorem dX10_film_9 : decode cX10_film 9 = .ok (.invokevirtual 79, 3) := by decide +kernel
theorem dX10_film_12 : decode cX10_film 12 = .ok (.ifCond .eq 15, 3) := by decide +kernel
theorem dX10_film_15 : decode cX10_film 15 = .ok (.iload_n 3, 1) := by decide +kernel
theorem dX10_film_16 : decode cX10_film 16 = .ok (.i2l, 1) := by decide +kernel
theorem dX10_film_17 : decode cX10_film 17 = .ok (.lconst 0, 1) := by decide +kernel
theorem dX10_film_18 : decode cX10_film 18 = .ok (.ldc2_w 355, 3) := by decide +kernel
theorem dX10_film_21 : decode cX10_film 21 = .ok (.invokestatic 73, 3) := by decide +kernel
theorem dX10_film_24 : decode cX10_film 24 = .ok (.ifCond .ne 6, 3) := by decide +kernel
theorem dX10_film_27 : decode cX10_film 27 = .ok (.bipush (-2), 2) := by decide +kernel
theorem dX10_film_29 : decode cX10_film 29 = .ok (.ireturn, 1) := by decide +kernel
theorem dX10_film_30 : decode cX10_film 30 = .ok (.aload_n 0, 1) := by decide +kernel
theorem dX10_film_31 : decode cX10_film 31 = .ok (.iload_n 2, 1) := by decide +kernel
theorem dX10_film_32 : decode cX10_film 32 = .ok (.invokevirtual 342, 3) := by decide +kernel
theorem dX10_film_35 : decode cX10_film 35 = .ok (.aload_n 0, 1) := by decide +kernel
theorem dX10_film_36 : decode cX10_film 36 = .ok (.iload_n 1, 1) := by decide +kernel
theorem dX10_film_37 : decode cX10_film 37 = .ok (.iconst 0, 1) := by decide +kernel
theorem dX10_film_38 : decode cX10_film 38 = .ok (.iload_n 3, 1) := by decide +kernel
theorem dX10_film_39 : decode cX10_film 39 = .ok (.invokevirtual 371, 3) := by decide +kernel
theorem dX10_film_42 : decode cX10_film 42 = .ok (.pop, 1) := by decide +kernel
theorem dX10_film_43 : decode cX10_film 43 = .ok (.iconst 0, 1) := by decide +kernel
theorem dX10_film_44 : decode cX10_film 44 = .ok (.istore 4, 2) := by decide +kernel
theorem dX10_film_46 : decode cX10_film 46 = .ok (.iload 4, 2) := by decide +kernel
theorem dX10_film_48 : decode cX10_film 48 = .ok (.iload_n 3, 1) := by decide +kernel
theorem dX10_film_49 : decode cX10_film 49 = .ok (.if_icmp .ge 28, 3) := by decide +kernel
theorem dX10_film_52 : decode cX10_film 52 = .ok (.aload_n 0, 1) := by decide +kernel
theorem dX10_film_53 : decode cX10_film 53 = .ok (.getfield 60, 3) := by decide +kernel
theorem dX10_film_56 : decode cX10_film 56 = .ok (.bipush 40, 2) := by decide +kernel
theorem dX10_film_58 : decode cX10_film 58 = .ok (.iload_n 1, 1) := by decide +kernel
theorem dX10_film_59 : decode cX10_film 59 = .ok (.imul, 1) := by decide +kernel
theorem dX10_film_60 : decode cX10_film 60 = .ok (.iload 4, 2) := by decide +kernel
theorem dX10_film_62 : decode cX10_film 62 = .ok (.iadd, 1) := by decide +kernel
theorem dX10_film_63 : decode cX10_film 63 = .ok (.aload_n 0, 1) := by decide +kernel
theorem dX10_film_64 : decode cX10_film 64 = .ok (.getfield 32, 3) := by decide +kernel
theorem dX10_film_67 : decode cX10_film 67 = .ok (.iload 4, 2) := by decide +kernel
theorem dX10_film_69 : decode cX10_film 69 = .ok (.iaload, 1) := by decide +kernel
theorem dX10_film_70 : decode cX10_film 70 = .ok (.iastore, 1) := by decide +kernel
theorem dX10_film_71 : decode cX10_film 71 = .ok (.iinc 4 1, 3) := by decide +kernel
theorem dX10_film_74 : decode cX10_film 74 = .ok (.goto (-28), 3) := by decide +kernel
theorem dX10_film_77 : decode cX10_film 77 = .ok (.iload_n 3, 1) := by decide +kernel
theorem dX10_film_78 : decode cX10_film 78 = .ok (.ireturn, 1) := by decide +kernel
theorem dX10_seesOn_0 : decode cX10_seesOn 0 = .ok (.aload_n 0, 1) := by decide +kernel
theorem dX10_seesOn_1 : decode cX10_seesOn 1 = .ok (.iload_n 1, 1) := by decide +kernel
theorem dX10_seesOn_2 : decode cX10_seesOn 2 = .ok (.invokevirtual 342, 3) := by decide +kernel
theorem dX10_seesOn_5 : decode cX10_seesOn 5 = .ok (.iload_n 2, 1) := by decide +kernel
theorem dX10_seesOn_6 : decode cX10_seesOn 6 = .ok (.istore_n 3, 1) := by decide +kernel
theorem dX10_seesOn_7 : decode cX10_seesOn 7 = .ok (.iconst 0, 1) := by decide +kernel
theorem dX10_seesOn_8 : decode cX10_seesOn 8 = .ok (.istore 4, 2) := by decide +kernel
theorem dX10_seesOn_10 : decode cX10_seesOn 10 = .ok (.iload 4, 2) := by decide +kernel
theorem dX10_seesOn_12 : decode cX10_seesOn 12 = .ok (.bipush 30, 2) := by decide +kernel
theorem dX10_seesOn_14 : decode cX10_seesOn 14 = .ok (.if_icmp .ge 39, 3) := by decide +kernel
theorem dX10_seesOn_17 : decode cX10_seesOn 17 = .ok (.iload_n 3, 1) := by decide +kernel
theorem dX10_seesOn_18 : decode cX10_seesOn 18 = .ok (.ldc_w 374, 3) := by decide +kernel
theorem dX10_seesOn_21 : decode cX10_seesOn 21 = .ok (.imul, 1) := by decide +kernel
theorem dX10_seesOn_22 : decode cX10_seesOn 22 = .ok (.sipush 12345, 3) := by decide +kernel
theorem dX10_seesOn_25 : decode cX10_seesOn 25 = .ok (.iadd, 1) := by decide +kernel
theorem dX10_seesOn_26 : decode cX10_seesOn 26 = .ok (.istore_n 3, 1) := by decide +kernel
theorem dX10_seesOn_27 : decode cX10_seesOn 27 = .ok (.iload_n 3, 1) := by decide +kernel
theorem dX10_seesOn_28 : decode cX10_seesOn 28 = .ok (.bipush 9, 2) := by decide +kernel
theorem dX10_seesOn_30 : decode cX10_seesOn 30 = .ok (.iushr, 1) := by decide +kernel
theorem dX10_seesOn_31 : decode cX10_seesOn 31 = .ok (.bipush 100, 2) := by decide +kernel
theorem dX10_seesOn_33 : decode cX10_seesOn 33 = .ok (.irem, 1) := by decide +kernel
theorem dX10_seesOn_34 : decode cX10_seesOn 34 = .ok (.aload_n 0, 1) := by decide +kernel
theorem dX10_seesOn_35 : decode cX10_seesOn 35 = .ok (.getfield 35, 3) := by decide +kernel
theorem dX10_seesOn_38 : decode cX10_seesOn 38 = .ok (.iload 4, 2) := by decide +kernel
theorem dX10_seesOn_40 : decode cX10_seesOn 40 = .ok (.iaload, 1) := by decide +kernel
theorem dX10_seesOn_41 : decode cX10_seesOn 41 = .ok (.if_icmp .ge 6, 3) := by decide +kernel
theorem dX10_seesOn_44 : decode cX10_seesOn 44 = .ok (.iload 4, 2) := by decide +kernel
theorem dX10_seesOn_46 : decode cX10_seesOn 46 = .ok (.ireturn, 1) := by decide +kernel
theorem dX10_seesOn_47 : decode cX10_seesOn 47 = .ok (.iinc 4 1, 3) := by decide +kernel
theorem dX10_seesOn_50 : decode cX10_seesOn 50 = .ok (.goto (-40), 3) := by decide +kernel
theorem dX10_seesOn_53 : decode cX10_seesOn 53 = .ok (.iconst (-1), 1) := by decide +kernel
theorem dX10_seesOn_54 : decode cX10_seesOn 54 = .ok (.ireturn, 1) := by decide +kernel
theorem dX10_lot_0 : decode cX10_lot 0 = .ok (.aload_n 0, 1) := by decide +kernel
theorem dX10_lot_1 : decode cX10_lot 1 = .ok (.iload_n 1, 1) := by decide +kernel
theorem dX10_lot_2 : decode cX10_lot 2 = .ok (.invokevirtual 79, 3) := by decide +kernel
theorem dX10_lot_5 : decode cX10_lot 5 = .ok (.ifCond .eq 12, 3) := by decide +kernel
theorem dX10_lot_8 : decode cX10_lot 8 = .ok (.aload_n 0, 1) := by decide +kernel
theorem dX10_lot_9 : decode cX10_lot 9 = .ok (.iload_n 1, 1) := by decide +kernel
theorem dX10_lot_10 : decode cX10_lot 10 = .ok (.iload_n 2, 1) := by decide +kernel
theorem dX10_lot_11 : decode cX10_lot 11 = .ok (.invokevirtual 375, 3) := by decide +kernel
theorem dX10_lot_14 : decode cX10_lot 14 = .ok (.goto 5, 3) := by decide +kernel
theorem dX10_lot_17 : decode cX10_lot 17 = .ok (.bipush (-2), 2) := by decide +kernel
theorem dX10_lot_19 : decode cX10_lot 19 = .ok (.ireturn, 1) := by decide +kernel
theorem dX10_chance_0 : decode cX10_chance 0 = .ok (.aload_n 0, 1) := by decide +kernel
theorem dX10_chance_1 : decode cX10_chance 1 = .ok (.iload_n 1, 1) := by decide +kernel
theorem dX10_chance_2 : decode cX10_chance 2 = .ok (.invokevirtual 79, 3) := by decide +kernel
theorem dX10_chance_5 : decode cX10_chance 5 = .ok (.ifCond .eq 26, 3) := by decide +kernel
theorem dX10_chance_8 : decode cX10_chance 8 = .ok (.iload_n 3, 1) := by decide +kernel
theorem dX10_chance_9 : decode cX10_chance 9 = .ok (.i2l, 1) := by decide +kernel
theorem dX10_chance_10 : decode cX10_chance 10 = .ok (.lconst 1, 1) := by decide +kernel
theorem dX10_chance_11 : decode cX10_chance 11 = .ok (.ldc2_w 378, 3) := by decide +kernel
theorem dX10_chance_14 : decode cX10_chance 14 = .ok (.invokestatic 73, 3) := by decide +kernel
theorem dX10_chance_17 : decode cX10_chance 17 = .ok (.ifCond .eq 14, 3) := by decide +kernel
theorem dX10_chance_20 : decode cX10_chance 20 = .ok (.iload 4, 2) := by decide +kernel
theorem dX10_chance_22 : decode cX10_chance 22 = .ok (.i2l, 1) := by decide +kernel
theorem dX10_chance_23 : decode cX10_chance 23 = .ok (.lconst 0, 1) := by decide +kernel
theorem dX10_chance_24 : decode cX10_chance 24 = .ok (.lconst 1, 1) := by decide +kernel
theorem dX10_chance_25 : decode cX10_chance 25 = .ok (.invokestatic 73, 3) := by decide +kernel
theorem dX10_chance_28 : decode cX10_chance 28 = .ok (.ifCond .ne 7, 3) := by decide +kernel
theorem dX10_chance_31 : decode cX10_chance 31 = .ok (.ldc2_w 349, 3) := by decide +kernel
theorem dX10_chance_34 : decode cX10_chance 34 = .ok (.lreturn, 1) := by decide +kernel
theorem dX10_chance_35 : decode cX10_chance 35 = .ok (.lconst 0, 1) := by decide +kernel
theorem dX10_chance_36 : decode cX10_chance 36 = .ok (.lstore 5, 2) := by decide +kernel
theorem dX10_chance_38 : decode cX10_chance 38 = .ok (.iconst 0, 1) := by decide +kernel
theorem dX10_chance_39 : decode cX10_chance 39 = .ok (.istore 7, 2) := by decide +kernel
theorem dX10_chance_41 : decode cX10_chance 41 = .ok (.iload 7, 2) := by decide +kernel
theorem dX10_chance_43 : decode cX10_chance 43 = .ok (.iload_n 3, 1) := by decide +kernel
theorem dX10_chance_44 : decode cX10_chance 44 = .ok (.if_icmp .ge 32, 3) := by decide +kernel
theorem dX10_chance_47 : decode cX10_chance 47 = .ok (.lload 5, 2) := by decide +kernel
theorem dX10_chance_49 : decode cX10_chance 49 = .ok (.aload_n 0, 1) := by decide +kernel
theorem dX10_chance_50 : decode cX10_chance 50 = .ok (.iload_n 1, 1) := by decide +kernel
theorem dX10_chance_51 : decode cX10_chance 51 = .ok (.iload_n 2, 1) := by decide +kernel
theorem dX10_chance_52 : decode cX10_chance 52 = .ok (.iload 7, 2) := by decide +kernel
theorem dX10_chance_54 : decode cX10_chance 54 = .ok (.iadd, 1) := by decide +kernel
theorem dX10_chance_55 : decode cX10_chance 55 = .ok (.invokevirtual 375, 3) := by decide +kernel
theorem dX10_chance_58 : decode cX10_chance 58 = .ok (.iconst (-1), 1) := by decide +kernel
theorem dX10_chance_59 : decode cX10_chance 59 = .ok (.if_icmp .ne 7, 3) := by decide +kernel
theorem dX10_chance_62 : decode cX10_chance 62 = .ok (.lconst 0, 1) := by decide +kernel
theorem dX10_chance_63 : decode cX10_chance 63 = .ok (.goto 4, 3) := by decide +kernel
theorem dX10_chance_66 : decode cX10_chance 66 = .ok (.lconst 1, 1) := by decide +kernel
theorem dX10_chance_67 : decode cX10_chance 67 = .ok (.ladd, 1) := by decide +kernel
theorem dX10_chance_68 : decode cX10_chance 68 = .ok (.lstore 5, 2) := by decide +kernel
theorem dX10_chance_70 : decode cX10_chance 70 = .ok (.iinc 7 1, 3) := by decide +kernel
theorem dX10_chance_73 : decode cX10_chance 73 = .ok (.goto (-32), 3) := by decide +kernel
theorem dX10_chance_76 : decode cX10_chance 76 = .ok (.lload 5, 2) := by decide +kernel
theorem dX10_chance_78 : decode cX10_chance 78 = .ok (.lstore 7, 2) := by decide +kernel
theorem dX10_chance_80 : decode cX10_chance 80 = .ok (.iload_n 3, 1) := by decide +kernel
theorem dX10_chance_81 : decode cX10_chance 81 = .ok (.i2l, 1) := by decide +kernel
theorem dX10_chance_82 : decode cX10_chance 82 = .ok (.lstore 9, 2) := by decide +kernel
theorem dX10_chance_84 : decode cX10_chance 84 = .ok (.lload 9, 2) := by decide +kernel
theorem dX10_chance_86 : decode cX10_chance 86 = .ok (.lconst 0, 1) := by decide +kernel
theorem dX10_chance_87 : decode cX10_chance 87 = .ok (.lcmp, 1) := by decide +kernel
theorem dX10_chance_88 : decode cX10_chance 88 = .ok (.ifCond .eq 21, 3) := by decide +kernel
theorem dX10_chance_91 : decode cX10_chance 91 = .ok (.lload 7, 2) := by decide +kernel
theorem dX10_chance_93 : decode cX10_chance 93 = .ok (.lload 9, 2) := by decide +kernel
theorem dX10_chance_95 : decode cX10_chance 95 = .ok (.lrem, 1) := by decide +kernel
theorem dX10_chance_96 : decode cX10_chance 96 = .ok (.lstore 11, 2) := by decide +kernel
theorem dX10_chance_98 : decode cX10_chance 98 = .ok (.lload 9, 2) := by decide +kernel
theorem dX10_chance_100 : decode cX10_chance 100 = .ok (.lstore 7, 2) := by decide +kernel
theorem dX10_chance_102 : decode cX10_chance 102 = .ok (.lload 11, 2) := by decide +kernel
theorem dX10_chance_104 : decode cX10_chance 104 = .ok (.lstore 9, 2) := by decide +kernel
theorem dX10_chance_106 : decode cX10_chance 106 = .ok (.goto (-22), 3) := by decide +kernel
theorem dX10_chance_109 : decode cX10_chance 109 = .ok (.iload 4, 2) := by decide +kernel
theorem dX10_chance_111 : decode cX10_chance 111 = .ok (.ifCond .ne 11, 3) := by decide +kernel
theorem dX10_chance_114 : decode cX10_chance 114 = .ok (.lload 5, 2) := by decide +kernel
theorem dX10_chance_116 : decode cX10_chance 116 = .ok (.lload 7, 2) := by decide +kernel
theorem dX10_chance_118 : decode cX10_chance 118 = .ok (.ldiv, 1) := by decide +kernel
theorem dX10_chance_119 : decode cX10_chance 119 = .ok (.goto 8, 3) := by decide +kernel
theorem dX10_chance_122 : decode cX10_chance 122 = .ok (.iload_n 3, 1) := by decide +kernel
theorem dX10_chance_123 : decode cX10_chance 123 = .ok (.i2l, 1) := by decide +kernel
theorem dX10_chance_124 : decode cX10_chance 124 = .ok (.lload 7, 2) := by decide +kernel
theorem dX10_chance_126 : decode cX10_chance 126 = .ok (.ldiv, 1) := by decide +kernel
theorem dX10_chance_127 : decode cX10_chance 127 = .ok (.lreturn, 1) := by decide +kernel
theorem dX10_image_0 : decode cX10_image 0 = .ok (.iconst 0, 1) := by decide +kernel
theorem dX10_image_1 : decode cX10_image 1 = .ok (.istore_n 1, 1) := by decide +kernel
theorem dX10_image_2 : decode cX10_image 2 = .ok (.iload_n 1, 1) := by decide +kernel
theorem dX10_image_3 : decode cX10_image 3 = .ok (.iconst 3, 1) := by decide +kernel
theorem dX10_image_4 : decode cX10_image 4 = .ok (.if_icmp .ge 21, 3) := by decide +kernel
theorem dX10_image_7 : decode cX10_image 7 = .ok (.aload_n 0, 1) := by decide +kernel
theorem dX10_image_8 : decode cX10_image 8 = .ok (.getfield 41, 3) := by decide +kernel
theorem dX10_image_11 : decode cX10_image 11 = .ok (.iload_n 1, 1) := by decide +kernel
theorem dX10_image_12 : decode cX10_image 12 = .ok (.aload_n 0, 1) := by decide +kernel
theorem dX10_image_13 : decode cX10_image 13 = .ok (.getfield 23, 3) := by decide +kernel
theorem dX10_image_16 : decode cX10_image 16 = .ok (.iload_n 1, 1) := by decide +kernel
theorem dX10_image_17 : decode cX10_image 17 = .ok (.iaload, 1) := by decide +kernel
theorem dX10_image_18 : decode cX10_image 18 = .ok (.iastore, 1) := by decide +kernel
theorem dX10_image_19 : decode cX10_image 19 = .ok (.iinc 1 1, 3) := by decide +kernel
theorem dX10_image_22 : decode cX10_image 22 = .ok (.goto (-20), 3) := by decide +kernel
theorem dX10_image_25 : decode cX10_image 25 = .ok (.iconst 0, 1) := by decide +kernel
theorem dX10_image_26 : decode cX10_image 26 = .ok (.istore_n 1, 1) := by decide +kernel
theorem dX10_image_27 : decode cX10_image 27 = .ok (.iload_n 1, 1) := by decide +kernel
theorem dX10_image_28 : decode cX10_image 28 = .ok (.bipush 24, 2) := by decide +kernel
theorem dX10_image_30 : decode cX10_image 30 = .ok (.if_icmp .ge 21, 3) := by decide +kernel
theorem dX10_image_33 : decode cX10_image 33 = .ok (.aload_n 0, 1) := by decide +kernel
theorem dX10_image_34 : decode cX10_image 34 = .ok (.getfield 44, 3) := by decide +kernel
theorem dX10_image_37 : decode cX10_image 37 = .ok (.iload_n 1, 1) := by decide +kernel
theorem dX10_image_38 : decode cX10_image 38 = .ok (.aload_n 0, 1) := by decide +kernel
theorem dX10_image_39 : decode cX10_image 39 = .ok (.getfield 29, 3) := by decide +kernel
theorem dX10_image_42 : decode cX10_image 42 = .ok (.iload_n 1, 1) := by decide +kernel
theorem dX10_image_43 : decode cX10_image 43 = .ok (.iaload, 1) := by decide +kernel
theorem dX10_image_44 : decode cX10_image 44 = .ok (.iastore, 1) := by decide +kernel
theorem dX10_image_45 : decode cX10_image 45 = .ok (.iinc 1 1, 3) := by decide +kernel
theorem dX10_image_48 : decode cX10_image 48 = .ok (.goto (-21), 3) := by decide +kernel
theorem dX10_image_51 : decode cX10_image 51 = .ok (.aload_n 0, 1) := by decide +kernel
theorem dX10_image_52 : decode cX10_image 52 = .ok (.aload_n 0, 1) := by decide +kernel
theorem dX10_image_53 : decode cX10_image 53 = .ok (.getfield 70, 3) := by decide +kernel
theorem dX10_image_56 : decode cX10_image 56 = .ok (.putfield 47, 3) := by decide +kernel
theorem dX10_image_59 : decode cX10_image 59 = .ok (.aload_n 0, 1) := by decide +kernel
theorem dX10_image_60 : decode cX10_image 60 = .ok (.aload_n 0, 1) := by decide +kernel
theorem dX10_image_61 : decode cX10_image 61 = .ok (.getfield 95, 3) := by decide +kernel
theorem dX10_image_64 : decode cX10_image 64 = .ok (.putfield 380, 3) := by decide +kernel
theorem dX10_image_67 : decode cX10_image 67 = .ok (.aload_n 0, 1) := by decide +kernel
theorem dX10_image_68 : decode cX10_image 68 = .ok (.getfield 70, 3) := by decide +kernel
theorem dX10_image_71 : decode cX10_image 71 = .ok (.ireturn, 1) := by decide +kernel
theorem dX10_back_0 : decode cX10_back 0 = .ok (.aload_n 0, 1) := by decide +kernel
theorem dX10_back_1 : decode cX10_back 1 = .ok (.getfield 47, 3) := by decide +kernel
theorem dX10_back_4 : decode cX10_back 4 = .ok (.iconst (-1), 1) := by decide +kernel
theorem dX10_back_5 : decode cX10_back 5 = .ok (.if_icmp .ne 6, 3) := by decide +kernel
theorem dX10_back_8 : decode cX10_back 8 = .ok (.bipush (-3), 2) := by decide +kernel
theorem dX10_back_10 : decode cX10_back 10 = .ok (.ireturn, 1) := by decide +kernel
theorem dX10_back_11 : decode cX10_back 11 = .ok (.iconst 0, 1) := by decide +kernel
theorem dX10_back_12 : decode cX10_back 12 = .ok (.istore_n 1, 1) := by decide +kernel
theorem dX10_back_13 : decode cX10_back 13 = .ok (.iload_n 1, 1) := by decide +kernel
theorem dX10_back_14 : decode cX10_back 14 = .ok (.iconst 3, 1) := by decide +kernel
theorem dX10_back_15 : decode cX10_back 15 = .ok (.if_icmp .ge 21, 3) := by decide +kernel
theorem dX10_back_18 : decode cX10_back 18 = .ok (.aload_n 0, 1) := by decide +kernel
theorem dX10_back_19 : decode cX10_back 19 = .ok (.getfield 23, 3) := by decide +kernel
theorem dX10_back_22 : decode cX10_back 22 = .ok (.iload_n 1, 1) := by decide +kernel
theorem dX10_back_23 : decode cX10_back 23 = .ok (.aload_n 0, 1) := by decide +kernel
theorem dX10_back_24 : decode cX10_back 24 = .ok (.getfield 41, 3) := by decide +kernel
theorem dX10_back_27 : decode cX10_back 27 = .ok (.iload_n 1, 1) := by decide +kernel
theorem dX10_back_28 : decode cX10_back 28 = .ok (.iaload, 1) := by decide +kernel
theorem dX10_back_29 : decode cX10_back 29 = .ok (.iastore, 1) := by decide +kernel
theorem dX10_back_30 : decode cX10_back 30 = .ok (.iinc 1 1, 3) := by decide +kernel
theorem dX10_back_33 : decode cX10_back 33 = .ok (.goto (-20), 3) := by decide +kernel
theorem dX10_back_36 : decode cX10_back 36 = .ok (.iconst 0, 1) := by decide +kernel
theorem dX10_back_37 : decode cX10_back 37 = .ok (.istore_n 1, 1) := by decide +kernel
theorem dX10_back_38 : decode cX10_back 38 = .ok (.iload_n 1, 1) := by decide +kernel
theorem dX10_back_39 : decode cX10_back 39 = .ok (.bipush 24, 2) := by decide +kernel
theorem dX10_back_41 : decode cX10_back 41 = .ok (.if_icmp .ge 21, 3) := by decide +kernel
theorem dX10_back_44 : decode cX10_back 44 = .ok (.aload_n 0, 1) := by decide +kernel
theorem dX10_back_45 : decode cX10_back 45 = .ok (.getfield 29, 3) := by decide +kernel
theorem dX10_back_48 : decode cX10_back 48 = .ok (.iload_n 1, 1) := by decide +kernel
theorem dX10_back_49 : decode cX10_back 49 = .ok (.aload_n 0, 1) := by decide +kernel
theorem dX10_back_50 : decode cX10_back 50 = .ok (.getfield 44, 3) := by decide +kernel
theorem dX10_back_53 : decode cX10_back 53 = .ok (.iload_n 1, 1) := by decide +kernel
theorem dX10_back_54 : decode cX10_back 54 = .ok (.iaload, 1) := by decide +kernel
theorem dX10_back_55 : decode cX10_back 55 = .ok (.iastore, 1) := by decide +kernel
theorem dX10_back_56 : decode cX10_back 56 = .ok (.iinc 1 1, 3) := by decide +kernel
theorem dX10_back_59 : decode cX10_back 59 = .ok (.goto (-21), 3) := by decide +kernel
theorem dX10_back_62 : decode cX10_back 62 = .ok (.aload_n 0, 1) := by decide +kernel
theorem dX10_back_63 : decode cX10_back 63 = .ok (.aload_n 0, 1) := by decide +kernel
theorem dX10_back_64 : decode cX10_back 64 = .ok (.getfield 47, 3) := by decide +kernel
theorem dX10_back_67 : decode cX10_back 67 = .ok (.putfield 70, 3) := by decide +kernel
theorem dX10_back_70 : decode cX10_back 70 = .ok (.aload_n 0, 1) := by decide +kernel
theorem dX10_back_71 : decode cX10_back 71 = .ok (.aload_n 0, 1) := by decide +kernel
theorem dX10_back_72 : decode cX10_back 72 = .ok (.getfield 380, 3) := by decide +kernel
theorem dX10_back_75 : decode cX10_back 75 = .ok (.putfield 95, 3) := by decide +kernel
theorem dX10_back_78 : decode cX10_back 78 = .ok (.aload_n 0, 1) := by decide +kernel
theorem dX10_back_79 : decode cX10_back 79 = .ok (.getfield 70, 3) := by decide +kernel
theorem dX10_back_82 : decode cX10_back 82 = .ok (.ireturn, 1) := by decide +kernel
theorem dX10_count_0 : decode cX10_count 0 = .ok (.iload_n 1, 1) := by decide +kernel
theorem dX10_count_1 : decode cX10_count 1 = .ok (.ifCond .ne 10, 3) := by decide +kernel
theorem dX10_count_4 : decode cX10_count 4 = .ok (.aload_n 0, 1) := by decide +kernel
theorem dX10_count_5 : decode cX10_count 5 = .ok (.getfield 70, 3) := by decide +kernel
theorem dX10_count_8 : decode cX10_count 8 = .ok (.goto 66, 3) := by decide +kernel
theorem dX10_count_11 : decode cX10_count 11 = .ok (.iload_n 1, 1) := by decide +kernel
theorem dX10_count_12 : decode cX10_count 12 = .ok (.iconst 1, 1) := by decide +kernel
theorem dX10_count_13 : decode cX10_count 13 = .ok (.if_icmp .ne 23, 3) := by decide +kernel
theorem dX10_count_16 : decode cX10_count 16 = .ok (.aload_n 0, 1) := by decide +kernel
theorem dX10_count_17 : decode cX10_count 17 = .ok (.getfield 23, 3) := by decide +kernel
theorem dX10_count_20 : decode cX10_count 20 = .ok (.iconst 0, 1) := by decide +kernel
theorem dX10_count_21 : decode cX10_count 21 = .ok (.iaload, 1) := by decide +kernel
theorem dX10_count_22 : decode cX10_count 22 = .ok (.aload_n 0, 1) := by decide +kernel
theorem dX10_count_23 : decode cX10_count 23 = .ok (.getfield 23, 3) := by decide +kernel
theorem dX10_count_26 : decode cX10_count 26 = .ok (.iconst 1, 1) := by decide +kernel
theorem dX10_count_27 : decode cX10_count 27 = .ok (.iaload, 1) := by decide +kernel
theorem dX10_count_28 : decode cX10_count 28 = .ok (.invokestatic 318, 3) := by decide +kernel
theorem dX10_count_31 : decode cX10_count 31 = .ok (.iconst 1, 1) := by decide +kernel
theorem dX10_count_32 : decode cX10_count 32 = .ok (.iadd, 1) := by decide +kernel
theorem dX10_count_33 : decode cX10_count 33 = .ok (.goto 41, 3) := by decide +kernel
theorem dX10_count_36 : decode cX10_count 36 = .ok (.iload_n 1, 1) := by decide +kernel
theorem dX10_count_37 : decode cX10_count 37 = .ok (.iconst 2, 1) := by decide +kernel
theorem dX10_count_38 : decode cX10_count 38 = .ok (.if_icmp .ne 10, 3) := by decide +kernel
theorem dX10_count_41 : decode cX10_count 41 = .ok (.aload_n 0, 1) := by decide +kernel
theorem dX10_count_42 : decode cX10_count 42 = .ok (.getfield 67, 3) := by decide +kernel
theorem dX10_count_45 : decode cX10_count 45 = .ok (.goto 29, 3) := by decide +kernel
theorem dX10_count_48 : decode cX10_count 48 = .ok (.iload_n 1, 1) := by decide +kernel
theorem dX10_count_49 : decode cX10_count 49 = .ok (.iconst 3, 1) := by decide +kernel
theorem dX10_count_50 : decode cX10_count 50 = .ok (.if_icmp .ne 10, 3) := by decide +kernel
theorem dX10_count_53 : decode cX10_count 53 = .ok (.aload_n 0, 1) := by decide +kernel
theorem dX10_count_54 : decode cX10_count 54 = .ok (.getfield 111, 3) := by decide +kernel
theorem dX10_count_57 : decode cX10_count 57 = .ok (.goto 17, 3) := by decide +kernel
theorem dX10_count_60 : decode cX10_count 60 = .ok (.iload_n 1, 1) := by decide +kernel
theorem dX10_count_61 : decode cX10_count 61 = .ok (.iconst 4, 1) := by decide +kernel
theorem dX10_count_62 : decode cX10_count 62 = .ok (.if_icmp .ne 10, 3) := by decide +kernel
theorem dX10_count_65 : decode cX10_count 65 = .ok (.aload_n 0, 1) := by decide +kernel
theorem dX10_count_66 : decode cX10_count 66 = .ok (.getfield 95, 3) := by decide +kernel
theorem dX10_count_69 : decode cX10_count 69 = .ok (.goto 5, 3) := by decide +kernel
theorem dX10_count_72 : decode cX10_count 72 = .ok (.bipush (-2), 2) := by decide +kernel
theorem dX10_count_74 : decode cX10_count 74 = .ok (.ireturn, 1) := by decide +kernel
theorem dX10_isSheet_0 : decode cX10_isSheet 0 = .ok (.iload_n 0, 1) := by decide +kernel
theorem dX10_isSheet_1 : decode cX10_isSheet 1 = .ok (.i2l, 1) := by decide +kernel
theorem dX10_isSheet_2 : decode cX10_isSheet 2 = .ok (.lconst 0, 1) := by decide +kernel
theorem dX10_isSheet_3 : decode cX10_isSheet 3 = .ok (.ldc2_w 383, 3) := by decide +kernel
theorem dX10_isSheet_6 : decode cX10_isSheet 6 = .ok (.invokestatic 73, 3) := by decide +kernel
theorem dX10_isSheet_9 : decode cX10_isSheet 9 = .ok (.ireturn, 1) := by decide +kernel
theorem dX10_sheet_0 : decode cX10_sheet 0 = .ok (.iload_n 1, 1) := by decide +kernel
theorem dX10_sheet_1 : decode cX10_sheet 1 = .ok (.invokestatic 365, 3) := by decide +kernel
theorem dX10_sheet_4 : decode cX10_sheet 4 = .ok (.ifCond .eq 27, 3) := by decide +kernel
theorem dX10_sheet_7 : decode cX10_sheet 7 = .ok (.iload_n 2, 1) := by decide +kernel
theorem dX10_sheet_8 : decode cX10_sheet 8 = .ok (.i2l, 1) := by decide +kernel
theorem dX10_sheet_9 : decode cX10_sheet 9 = .ok (.ldc2_w 363, 3) := by decide +kernel
theorem dX10_sheet_12 : decode cX10_sheet 12 = .ok (.ldc2_w 340, 3) := by decide +kernel
theorem dX10_sheet_15 : decode cX10_sheet 15 = .ok (.invokestatic 73, 3) := by decide +kernel
theorem dX10_sheet_18 : decode cX10_sheet 18 = .ok (.ifCond .eq 13, 3) := by decide +kernel
theorem dX10_sheet_21 : decode cX10_sheet 21 = .ok (.iload_n 2, 1) := by decide +kernel
theorem dX10_sheet_22 : decode cX10_sheet 22 = .ok (.ifCond .lt 12, 3) := by decide +kernel
theorem dX10_sheet_25 : decode cX10_sheet 25 = .ok (.iload_n 3, 1) := by decide +kernel
theorem dX10_sheet_26 : decode cX10_sheet 26 = .ok (.bipush 40, 2) := by decide +kernel
theorem dX10_sheet_28 : decode cX10_sheet 28 = .ok (.if_icmp .le 6, 3) := by decide +kernel
theorem dX10_sheet_31 : decode cX10_sheet 31 = .ok (.bipush (-2), 2) := by decide +kernel
theorem dX10_sheet_33 : decode cX10_sheet 33 = .ok (.ireturn, 1) := by decide +kernel
theorem dX10_sheet_34 : decode cX10_sheet 34 = .ok (.iload_n 2, 1) := by decide +kernel
theorem dX10_sheet_35 : decode cX10_sheet 35 = .ok (.ifCond .lt 10, 3) := by decide +kernel
theorem dX10_sheet_38 : decode cX10_sheet 38 = .ok (.iload_n 3, 1) := by decide +kernel
theorem dX10_sheet_39 : decode cX10_sheet 39 = .ok (.ifCond .ge 6, 3) := by decide +kernel
theorem dX10_sheet_42 : decode cX10_sheet 42 = .ok (.bipush (-14), 2) := by decide +kernel
theorem dX10_sheet_44 : decode cX10_sheet 44 = .ok (.ireturn, 1) := by decide +kernel
theorem dX10_sheet_45 : decode cX10_sheet 45 = .ok (.aload_n 0, 1) := by decide +kernel
theorem dX10_sheet_46 : decode cX10_sheet 46 = .ok (.getfield 50, 3) := by decide +kernel
theorem dX10_sheet_49 : decode cX10_sheet 49 = .ok (.iload_n 1, 1) := by decide +kernel
theorem dX10_sheet_50 : decode cX10_sheet 50 = .ok (.iload_n 2, 1) := by decide +kernel
theorem dX10_sheet_51 : decode cX10_sheet 51 = .ok (.ifCond .lt 7, 3) := by decide +kernel
theorem dX10_sheet_54 : decode cX10_sheet 54 = .ok (.iconst 1, 1) := by decide +kernel
theorem dX10_sheet_55 : decode cX10_sheet 55 = .ok (.goto 4, 3) := by decide +kernel
theorem dX10_sheet_58 : decode cX10_sheet 58 = .ok (.iconst 0, 1) := by decide +kernel
theorem dX10_sheet_59 : decode cX10_sheet 59 = .ok (.bastore, 1) := by decide +kernel
theorem dX10_sheet_60 : decode cX10_sheet 60 = .ok (.aload_n 0, 1) := by decide +kernel
theorem dX10_sheet_61 : decode cX10_sheet 61 = .ok (.getfield 54, 3) := by decide +kernel
theorem dX10_sheet_64 : decode cX10_sheet 64 = .ok (.iload_n 1, 1) := by decide +kernel
theorem dX10_sheet_65 : decode cX10_sheet 65 = .ok (.iload_n 2, 1) := by decide +kernel
theorem dX10_sheet_66 : decode cX10_sheet 66 = .ok (.iastore, 1) := by decide +kernel
theorem dX10_sheet_67 : decode cX10_sheet 67 = .ok (.aload_n 0, 1) := by decide +kernel
theorem dX10_sheet_68 : decode cX10_sheet 68 = .ok (.getfield 57, 3) := by decide +kernel
theorem dX10_sheet_71 : decode cX10_sheet 71 = .ok (.iload_n 1, 1) := by decide +kernel
theorem dX10_sheet_72 : decode cX10_sheet 72 = .ok (.iload_n 3, 1) := by decide +kernel
theorem dX10_sheet_73 : decode cX10_sheet 73 = .ok (.iastore, 1) := by decide +kernel
theorem dX10_sheet_74 : decode cX10_sheet 74 = .ok (.iconst 0, 1) := by decide +kernel
theorem dX10_sheet_75 : decode cX10_sheet 75 = .ok (.istore 4, 2) := by decide +kernel
theorem dX10_sheet_77 : decode cX10_sheet 77 = .ok (.iload 4, 2) := by decide +kernel
theorem dX10_sheet_79 : decode cX10_sheet 79 = .ok (.iload_n 3, 1) := by decide +kernel
theorem dX10_sheet_80 : decode cX10_sheet 80 = .ok (.if_icmp .ge 26, 3) := by decide +kernel
theorem dX10_sheet_83 : decode cX10_sheet 83 = .ok (.iload_n 2, 1) := by decide +kernel
theorem dX10_sheet_84 : decode cX10_sheet 84 = .ok (.ifCond .lt 22, 3) := by decide +kernel
theorem dX10_sheet_87 : decode cX10_sheet 87 = .ok (.aload_n 0, 1) := by decide +kernel
theorem dX10_sheet_88 : decode cX10_sheet 88 = .ok (.getfield 60, 3) := by decide +kernel
theorem dX10_sheet_91 : decode cX10_sheet 91 = .ok (.bipush 40, 2) := by decide +kernel
theorem dX10_sheet_93 : decode cX10_sheet 93 = .ok (.iload_n 1, 1) := by decide +kernel
theorem dX10_sheet_94 : decode cX10_sheet 94 = .ok (.imul, 1) := by decide +kernel
theorem dX10_sheet_95 : decode cX10_sheet 95 = .ok (.iload 4, 2) := by decide +kernel
theorem dX10_sheet_97 : decode cX10_sheet 97 = .ok (.iadd, 1) := by decide +kernel
theorem dX10_sheet_98 : decode cX10_sheet 98 = .ok (.iconst 0, 1) := by decide +kernel
theorem dX10_sheet_99 : decode cX10_sheet 99 = .ok (.iastore, 1) := by decide +kernel
theorem dX10_sheet_100 : decode cX10_sheet 100 = .ok (.iinc 4 1, 3) := by decide +kernel
theorem dX10_sheet_103 : decode cX10_sheet 103 = .ok (.goto (-26), 3) := by decide +kernel
theorem dX10_sheet_106 : decode cX10_sheet 106 = .ok (.iconst 1, 1) := by decide +kernel
theorem dX10_sheet_107 : decode cX10_sheet 107 = .ok (.ireturn, 1) := by decide +kernel
theorem dX10_cell_0 : decode cX10_cell 0 = .ok (.iload_n 1, 1) := by decide +kernel
theorem dX10_cell_1 : decode cX10_cell 1 = .ok (.invokestatic 365, 3) := by decide +kernel
theorem dX10_cell_4 : decode cX10_cell 4 = .ok (.ifCond .ne 6, 3) := by decide +kernel
theorem dX10_cell_7 : decode cX10_cell 7 = .ok (.bipush (-2), 2) := by decide +kernel
theorem dX10_cell_9 : decode cX10_cell 9 = .ok (.ireturn, 1) := by decide +kernel
theorem dX10_cell_10 : decode cX10_cell 10 = .ok (.aload_n 0, 1) := by decide +kernel
theorem dX10_cell_11 : decode cX10_cell 11 = .ok (.getfield 50, 3) := by decide +kernel
theorem dX10_cell_14 : decode cX10_cell 14 = .ok (.iload_n 1, 1) := by decide +kernel
theorem dX10_cell_15 : decode cX10_cell 15 = .ok (.baload, 1) := by decide +kernel
theorem dX10_cell_16 : decode cX10_cell 16 = .ok (.ifCond .ne 6, 3) := by decide +kernel
theorem dX10_cell_19 : decode cX10_cell 19 = .ok (.bipush (-11), 2) := by decide +kernel
theorem dX10_cell_21 : decode cX10_cell 21 = .ok (.ireturn, 1) := by decide +kernel
theorem dX10_cell_22 : decode cX10_cell 22 = .ok (.iload_n 2, 1) := by decide +kernel
theorem dX10_cell_23 : decode cX10_cell 23 = .ok (.i2l, 1) := by decide +kernel
theorem dX10_cell_24 : decode cX10_cell 24 = .ok (.lconst 0, 1) := by decide +kernel
theorem dX10_cell_25 : decode cX10_cell 25 = .ok (.aload_n 0, 1) := by decide +kernel
theorem dX10_cell_26 : decode cX10_cell 26 = .ok (.getfield 57, 3) := by decide +kernel
theorem dX10_cell_29 : decode cX10_cell 29 = .ok (.iload_n 1, 1) := by decide +kernel
theorem dX10_cell_30 : decode cX10_cell 30 = .ok (.iaload, 1) := by decide +kernel
theorem dX10_cell_31 : decode cX10_cell 31 = .ok (.iconst 1, 1) := by decide +kernel
theorem dX10_cell_32 : decode cX10_cell 32 = .ok (.isub, 1) := by decide +kernel
theorem dX10_cell_33 : decode cX10_cell 33 = .ok (.i2l, 1) := by decide +kernel
theorem dX10_cell_34 : decode cX10_cell 34 = .ok (.invokestatic 73, 3) := by decide +kernel
theorem dX10_cell_37 : decode cX10_cell 37 = .ok (.ifCond .ne 6, 3) := by decide +kernel
theorem dX10_cell_40 : decode cX10_cell 40 = .ok (.bipush (-12), 2) := by decide +kernel
theorem dX10_cell_42 : decode cX10_cell 42 = .ok (.ireturn, 1) := by decide +kernel
theorem dX10_cell_43 : decode cX10_cell 43 = .ok (.aload_n 0, 1) := by decide +kernel
theorem dX10_cell_44 : decode cX10_cell 44 = .ok (.getfield 60, 3) := by decide +kernel
theorem dX10_cell_47 : decode cX10_cell 47 = .ok (.bipush 40, 2) := by decide +kernel
theorem dX10_cell_49 : decode cX10_cell 49 = .ok (.iload_n 1, 1) := by decide +kernel
theorem dX10_cell_50 : decode cX10_cell 50 = .ok (.imul, 1) := by decide +kernel
theorem dX10_cell_51 : decode cX10_cell 51 = .ok (.iload_n 2, 1) := by decide +kernel
theorem dX10_cell_52 : decode cX10_cell 52 = .ok (.iadd, 1) := by decide +kernel
theorem dX10_cell_53 : decode cX10_cell 53 = .ok (.aload_n 0, 1) := by decide +kernel
theorem dX10_cell_54 : decode cX10_cell 54 = .ok (.getfield 54, 3) := by decide +kernel
theorem dX10_cell_57 : decode cX10_cell 57 = .ok (.iload_n 1, 1) := by decide +kernel
theorem dX10_cell_58 : decode cX10_cell 58 = .ok (.iaload, 1) := by decide +kernel
theorem dX10_cell_59 : decode cX10_cell 59 = .ok (.ifCond .ne 8, 3) := by decide +kernel
theorem dX10_cell_62 : decode cX10_cell 62 = .ok (.iload_n 3, 1) := by decide +kernel
theorem dX10_cell_63 : decode cX10_cell 63 = .ok (.i2b, 1) := by decide +kernel
theorem dX10_cell_64 : decode cX10_cell 64 = .ok (.goto 19, 3) := by decide +kernel
theorem dX10_cell_67 : decode cX10_cell 67 = .ok (.aload_n 0, 1) := by decide +kernel
theorem dX10_cell_68 : decode cX10_cell 68 = .ok (.getfield 54, 3) := by decide +kernel
theorem dX10_cell_71 : decode cX10_cell 71 = .ok (.iload_n 1, 1) := by decide +kernel
theorem dX10_cell_72 : decode cX10_cell 72 = .ok (.iaload, 1) := by decide +kernel
theorem dX10_cell_73 : decode cX10_cell 73 = .ok (.iconst 1, 1) := by decide +kernel
theorem dX10_cell_74 : decode cX10_cell 74 = .ok (.if_icmp .ne 8, 3) := by decide +kernel
theorem dX10_cell_77 : decode cX10_cell 77 = .ok (.iload_n 3, 1) := by decide +kernel
theorem dX10_cell_78 : decode cX10_cell 78 = .ok (.i2s, 1) := by decide +kernel
theorem dX10_cell_79 : decode cX10_cell 79 = .ok (.goto 4, 3) := by decide +kernel
theorem dX10_cell_82 : decode cX10_cell 82 = .ok (.iload_n 3, 1) := by decide +kernel
theorem dX10_cell_83 : decode cX10_cell 83 = .ok (.iastore, 1) := by decide +kernel
theorem dX10_cell_84 : decode cX10_cell 84 = .ok (.iconst 1, 1) := by decide +kernel
theorem dX10_cell_85 : decode cX10_cell 85 = .ok (.ireturn, 1) := by decide +kernel
theorem dX10_copy_0 : decode cX10_copy 0 = .ok (.iload_n 1, 1) := by decide +kernel
theorem dX10_copy_1 : decode cX10_copy 1 = .ok (.invokestatic 365, 3) := by decide +kernel
theorem dX10_copy_4 : decode cX10_copy 4 = .ok (.ifCond .eq 10, 3) := by decide +kernel
theorem dX10_copy_7 : decode cX10_copy 7 = .ok (.iload_n 3, 1) := by decide +kernel
theorem dX10_copy_8 : decode cX10_copy 8 = .ok (.invokestatic 365, 3) := by decide +kernel
theorem dX10_copy_11 : decode cX10_copy 11 = .ok (.ifCond .ne 6, 3) := by decide +kernel
theorem dX10_copy_14 : decode cX10_copy 14 = .ok (.bipush (-2), 2) := by decide +kernel
theorem dX10_copy_16 : decode cX10_copy 16 = .ok (.ireturn, 1) := by decide +kernel
theorem dX10_copy_17 : decode cX10_copy 17 = .ok (.aload_n 0, 1) := by decide +kernel
theorem dX10_copy_18 : decode cX10_copy 18 = .ok (.getfield 50, 3) := by decide +kernel
theorem dX10_copy_21 : decode cX10_copy 21 = .ok (.iload_n 1, 1) := by decide +kernel
theorem dX10_copy_22 : decode cX10_copy 22 = .ok (.baload, 1) := by decide +kernel
theorem dX10_copy_23 : decode cX10_copy 23 = .ok (.ifCond .eq 12, 3) := by decide +kernel
theorem dX10_copy_26 : decode cX10_copy 26 = .ok (.aload_n 0, 1) := by decide +kernel
theorem dX10_copy_27 : decode cX10_copy 27 = .ok (.getfield 50, 3) := by decide +kernel
theorem dX10_copy_30 : decode cX10_copy 30 = .ok (.iload_n 3, 1) := by decide +kernel
theorem dX10_copy_31 : decode cX10_copy 31 = .ok (.baload, 1) := by decide +kernel
theorem dX10_copy_32 : decode cX10_copy 32 = .ok (.ifCond .ne 6, 3) := by decide +kernel
theorem dX10_copy_35 : decode cX10_copy 35 = .ok (.bipush (-11), 2) := by decide +kernel
theorem dX10_copy_37 : decode cX10_copy 37 = .ok (.ireturn, 1) := by decide +kernel
theorem dX10_copy_38 : decode cX10_copy 38 = .ok (.aload_n 0, 1) := by decide +kernel
theorem dX10_copy_39 : decode cX10_copy 39 = .ok (.getfield 54, 3) := by decide +kernel
theorem dX10_copy_42 : decode cX10_copy 42 = .ok (.iload_n 1, 1) := by decide +kernel
theorem dX10_copy_43 : decode cX10_copy 43 = .ok (.iaload, 1) := by decide +kernel
theorem dX10_copy_44 : decode cX10_copy 44 = .ok (.aload_n 0, 1) := by decide +kernel
theorem dX10_copy_45 : decode cX10_copy 45 = .ok (.getfield 54, 3) := by decide +kernel
theorem dX10_copy_48 : decode cX10_copy 48 = .ok (.iload_n 3, 1) := by decide +kernel
theorem dX10_copy_49 : decode cX10_copy 49 = .ok (.iaload, 1) := by decide +kernel
theorem dX10_copy_50 : decode cX10_copy 50 = .ok (.if_icmp .eq 6, 3) := by decide +kernel
theorem dX10_copy_53 : decode cX10_copy 53 = .ok (.bipush (-13), 2) := by decide +kernel
theorem dX10_copy_55 : decode cX10_copy 55 = .ok (.ireturn, 1) := by decide +kernel
theorem dX10_copy_56 : decode cX10_copy 56 = .ok (.iload 5, 2) := by decide +kernel
theorem dX10_copy_58 : decode cX10_copy 58 = .ok (.ifCond .lt 39, 3) := by decide +kernel
theorem dX10_copy_61 : decode cX10_copy 61 = .ok (.iload_n 2, 1) := by decide +kernel
theorem dX10_copy_62 : decode cX10_copy 62 = .ok (.ifCond .lt 35, 3) := by decide +kernel
theorem dX10_copy_65 : decode cX10_copy 65 = .ok (.iload 4, 2) := by decide +kernel
theorem dX10_copy_67 : decode cX10_copy 67 = .ok (.ifCond .lt 30, 3) := by decide +kernel
theorem dX10_copy_70 : decode cX10_copy 70 = .ok (.iload_n 2, 1) := by decide +kernel
theorem dX10_copy_71 : decode cX10_copy 71 = .ok (.aload_n 0, 1) := by decide +kernel
theorem dX10_copy_72 : decode cX10_copy 72 = .ok (.getfield 57, 3) := by decide +kernel
theorem dX10_copy_75 : decode cX10_copy 75 = .ok (.iload_n 1, 1) := by decide +kernel
theorem dX10_copy_76 : decode cX10_copy 76 = .ok (.iaload, 1) := by decide +kernel
theorem dX10_copy_77 : decode cX10_copy 77 = .ok (.iload 5, 2) := by decide +kernel
theorem dX10_copy_79 : decode cX10_copy 79 = .ok (.isub, 1) := by decide +kernel
theorem dX10_copy_80 : decode cX10_copy 80 = .ok (.if_icmp .gt 17, 3) := by decide +kernel
theorem dX10_copy_83 : decode cX10_copy 83 = .ok (.iload 4, 2) := by decide +kernel
theorem dX10_copy_85 : decode cX10_copy 85 = .ok (.aload_n 0, 1) := by decide +kernel
theorem dX10_copy_86 : decode cX10_copy 86 = .ok (.getfield 57, 3) := by decide +kernel
theorem dX10_copy_89 : decode cX10_copy 89 = .ok (.iload_n 3, 1) := by decide +kernel
theorem dX10_copy_90 : decode cX10_copy 90 = .ok (.iaload, 1) := by decide +kernel
theorem dX10_copy_91 : decode cX10_copy 91 = .ok (.iload 5, 2) := by decide +kernel
theorem dX10_copy_93 : decode cX10_copy 93 = .ok (.isub, 1) := by decide +kernel
theorem dX10_copy_94 : decode cX10_copy 94 = .ok (.if_icmp .le 6, 3) := by decide +kernel
theorem dX10_copy_97 : decode cX10_copy 97 = .ok (.bipush (-12), 2) := by decide +kernel
theorem dX10_copy_99 : decode cX10_copy 99 = .ok (.ireturn, 1) := by decide +kernel
theorem dX10_copy_100 : decode cX10_copy 100 = .ok (.iload_n 1, 1) := by decide +kernel
theorem dX10_copy_101 : decode cX10_copy 101 = .ok (.iload_n 3, 1) := by decide +kernel
theorem dX10_copy_102 : decode cX10_copy 102 = .ok (.if_icmp .ne 13, 3) := by decide +kernel
theorem dX10_copy_105 : decode cX10_copy 105 = .ok (.iload_n 2, 1) := by decide +kernel
theorem dX10_copy_106 : decode cX10_copy 106 = .ok (.iload 4, 2) := by decide +kernel
theorem dX10_copy_108 : decode cX10_copy 108 = .ok (.if_icmp .ge 7, 3) := by decide +kernel
theorem dX10_copy_111 : decode cX10_copy 111 = .ok (.iconst 1, 1) := by decide +kernel
theorem dX10_copy_112 : decode cX10_copy 112 = .ok (.goto 4, 3) := by decide +kernel
theorem dX10_copy_115 : decode cX10_copy 115 = .ok (.iconst 0, 1) := by decide +kernel
theorem dX10_copy_116 : decode cX10_copy 116 = .ok (.istore 6, 2) := by decide +kernel
theorem dX10_copy_118 : decode cX10_copy 118 = .ok (.iconst 0, 1) := by decide +kernel
theorem dX10_copy_119 : decode cX10_copy 119 = .ok (.istore 7, 2) := by decide +kernel
theorem dX10_copy_121 : decode cX10_copy 121 = .ok (.iload 7, 2) := by decide +kernel
theorem dX10_copy_123 : decode cX10_copy 123 = .ok (.iload 5, 2) := by decide +kernel
theorem dX10_copy_125 : decode cX10_copy 125 = .ok (.if_icmp .ge 57, 3) := by decide +kernel
theorem dX10_copy_128 : decode cX10_copy 128 = .ok (.iload 6, 2) := by decide +kernel
theorem dX10_copy_130 : decode cX10_copy 130 = .ok (.ifCond .eq 13, 3) := by decide +kernel
theorem dX10_copy_133 : decode cX10_copy 133 = .ok (.iload 5, 2) := by decide +kernel
theorem dX10_copy_135 : decode cX10_copy 135 = .ok (.iconst 1, 1) := by decide +kernel
theorem dX10_copy_136 : decode cX10_copy 136 = .ok (.isub, 1) := by decide +kernel
theorem dX10_copy_137 : decode cX10_copy 137 = .ok (.iload 7, 2) := by decide +kernel
theorem dX10_copy_139 : decode cX10_copy 139 = .ok (.isub, 1) := by decide +kernel
theorem dX10_copy_140 : decode cX10_copy 140 = .ok (.goto 5, 3) := by decide +kernel
theorem dX10_copy_143 : decode cX10_copy 143 = .ok (.iload 7, 2) := by decide +kernel
theorem dX10_copy_145 : decode cX10_copy 145 = .ok (.istore 8, 2) := by decide +kernel
theorem dX10_copy_147 : decode cX10_copy 147 = .ok (.aload_n 0, 1) := by decide +kernel
theorem dX10_copy_148 : decode cX10_copy 148 = .ok (.getfield 60, 3) := by decide +kernel
theorem dX10_copy_151 : decode cX10_copy 151 = .ok (.bipush 40, 2) := by decide +kernel
theorem dX10_copy_153 : decode cX10_copy 153 = .ok (.iload_n 3, 1) := by decide +kernel
theorem dX10_copy_154 : decode cX10_copy 154 = .ok (.imul, 1) := by decide +kernel
theorem dX10_copy_155 : decode cX10_copy 155 = .ok (.iload 4, 2) := by decide +kernel
theorem dX10_copy_157 : decode cX10_copy 157 = .ok (.iadd, 1) := by decide +kernel
theorem dX10_copy_158 : decode cX10_copy 158 = .ok (.iload 8, 2) := by decide +kernel
theorem dX10_copy_160 : decode cX10_copy 160 = .ok (.iadd, 1) := by decide +kernel
theorem dX10_copy_161 : decode cX10_copy 161 = .ok (.aload_n 0, 1) := by decide +kernel
theorem dX10_copy_162 : decode cX10_copy 162 = .ok (.getfield 60, 3) := by decide +kernel
theorem dX10_copy_165 : decode cX10_copy 165 = .ok (.bipush 40, 2) := by decide +kernel
theorem dX10_copy_167 : decode cX10_copy 167 = .ok (.iload_n 1, 1) := by decide +kernel
theorem dX10_copy_168 : decode cX10_copy 168 = .ok (.imul, 1) := by decide +kernel
theorem dX10_copy_169 : decode cX10_copy 169 = .ok (.iload_n 2, 1) := by decide +kernel
theorem dX10_copy_170 : decode cX10_copy 170 = .ok (.iadd, 1) := by decide +kernel
theorem dX10_copy_171 : decode cX10_copy 171 = .ok (.iload 8, 2) := by decide +kernel
theorem dX10_copy_173 : decode cX10_copy 173 = .ok (.iadd, 1) := by decide +kernel
theorem dX10_copy_174 : decode cX10_copy 174 = .ok (.iaload, 1) := by decide +kernel
theorem dX10_copy_175 : decode cX10_copy 175 = .ok (.iastore, 1) := by decide +kernel
theorem dX10_copy_176 : decode cX10_copy 176 = .ok (.iinc 7 1, 3) := by decide +kernel
theorem dX10_copy_179 : decode cX10_copy 179 = .ok (.goto (-58), 3) := by decide +kernel
theorem dX10_copy_182 : decode cX10_copy 182 = .ok (.iload 5, 2) := by decide +kernel
theorem dX10_copy_184 : decode cX10_copy 184 = .ok (.ireturn, 1) := by decide +kernel
theorem dX10_gloves_0 : decode cX10_gloves 0 = .ok (.iload_n 1, 1) := by decide +kernel
theorem dX10_gloves_1 : decode cX10_gloves 1 = .ok (.invokestatic 365, 3) := by decide +kernel
theorem dX10_gloves_4 : decode cX10_gloves 4 = .ok (.ifCond .eq 28, 3) := by decide +kernel
theorem dX10_gloves_7 : decode cX10_gloves 7 = .ok (.iload_n 2, 1) := by decide +kernel
theorem dX10_gloves_8 : decode cX10_gloves 8 = .ok (.i2l, 1) := by decide +kernel
theorem dX10_gloves_9 : decode cX10_gloves 9 = .ok (.lconst 0, 1) := by decide +kernel
theorem dX10_gloves_10 : decode cX10_gloves 10 = .ok (.ldc2_w 340, 3) := by decide +kernel
theorem dX10_gloves_13 : decode cX10_gloves 13 = .ok (.invokestatic 73, 3) := by decide +kernel
theorem dX10_gloves_16 : decode cX10_gloves 16 = .ok (.ifCond .eq 16, 3) := by decide +kernel
theorem dX10_gloves_19 : decode cX10_gloves 19 = .ok (.iload 4, 2) := by decide +kernel
theorem dX10_gloves_21 : decode cX10_gloves 21 = .ok (.i2l, 1) := by decide +kernel
theorem dX10_gloves_22 : decode cX10_gloves 22 = .ok (.lconst 0, 1) := by decide +kernel
theorem dX10_gloves_23 : decode cX10_gloves 23 = .ok (.ldc2_w 77, 3) := by decide +kernel
theorem dX10_gloves_26 : decode cX10_gloves 26 = .ok (.invokestatic 73, 3) := by decide +kernel
theorem dX10_gloves_29 : decode cX10_gloves 29 = .ok (.ifCond .ne 6, 3) := by decide +kernel
theorem dX10_gloves_32 : decode cX10_gloves 32 = .ok (.bipush (-2), 2) := by decide +kernel
theorem dX10_gloves_34 : decode cX10_gloves 34 = .ok (.ireturn, 1) := by decide +kernel
theorem dX10_gloves_35 : decode cX10_gloves 35 = .ok (.aload_n 0, 1) := by decide +kernel
theorem dX10_gloves_36 : decode cX10_gloves 36 = .ok (.getfield 50, 3) := by decide +kernel
theorem dX10_gloves_39 : decode cX10_gloves 39 = .ok (.iload_n 1, 1) := by decide +kernel
theorem dX10_gloves_40 : decode cX10_gloves 40 = .ok (.baload, 1) := by decide +kernel
theorem dX10_gloves_41 : decode cX10_gloves 41 = .ok (.ifCond .eq 16, 3) := by decide +kernel
theorem dX10_gloves_44 : decode cX10_gloves 44 = .ok (.aload_n 0, 1) := by decide +kernel
theorem dX10_gloves_45 : decode cX10_gloves 45 = .ok (.getfield 54, 3) := by decide +kernel
theorem dX10_gloves_48 : decode cX10_gloves 48 = .ok (.iload_n 1, 1) := by decide +kernel
theorem dX10_gloves_49 : decode cX10_gloves 49 = .ok (.iaload, 1) := by decide +kernel
theorem dX10_gloves_50 : decode cX10_gloves 50 = .ok (.iload_n 2, 1) := by decide +kernel
theorem dX10_gloves_51 : decode cX10_gloves 51 = .ok (.if_icmp .eq 6, 3) := by decide +kernel
theorem dX10_gloves_54 : decode cX10_gloves 54 = .ok (.bipush (-13), 2) := by decide +kernel
theorem dX10_gloves_56 : decode cX10_gloves 56 = .ok (.ireturn, 1) := by decide +kernel
theorem dX10_gloves_57 : decode cX10_gloves 57 = .ok (.aload_n 0, 1) := by decide +kernel
theorem dX10_gloves_58 : decode cX10_gloves 58 = .ok (.getfield 50, 3) := by decide +kernel
theorem dX10_gloves_61 : decode cX10_gloves 61 = .ok (.iload_n 1, 1) := by decide +kernel
theorem dX10_gloves_62 : decode cX10_gloves 62 = .ok (.baload, 1) := by decide +kernel
theorem dX10_gloves_63 : decode cX10_gloves 63 = .ok (.ifCond .ne 6, 3) := by decide +kernel
theorem dX10_gloves_66 : decode cX10_gloves 66 = .ok (.bipush (-11), 2) := by decide +kernel
theorem dX10_gloves_68 : decode cX10_gloves 68 = .ok (.ireturn, 1) := by decide +kernel
theorem dX10_gloves_69 : decode cX10_gloves 69 = .ok (.iconst 0, 1) := by decide +kernel
theorem dX10_gloves_70 : decode cX10_gloves 70 = .ok (.istore 5, 2) := by decide +kernel
theorem dX10_gloves_72 : decode cX10_gloves 72 = .ok (.iconst 0, 1) := by decide +kernel
theorem dX10_gloves_73 : decode cX10_gloves 73 = .ok (.istore 6, 2) := by decide +kernel
theorem dX10_gloves_75 : decode cX10_gloves 75 = .ok (.iload 6, 2) := by decide +kernel
theorem dX10_gloves_77 : decode cX10_gloves 77 = .ok (.iload 4, 2) := by decide +kernel
theorem dX10_gloves_79 : decode cX10_gloves 79 = .ok (.if_icmp .ge 88, 3) := by decide +kernel
theorem dX10_gloves_82 : decode cX10_gloves 82 = .ok (.iload_n 3, 1) := by decide +kernel
theorem dX10_gloves_83 : decode cX10_gloves 83 = .ok (.ifCond .lt 20, 3) := by decide +kernel
theorem dX10_gloves_86 : decode cX10_gloves 86 = .ok (.iload_n 3, 1) := by decide +kernel
theorem dX10_gloves_87 : decode cX10_gloves 87 = .ok (.aload_n 0, 1) := by decide +kernel
theorem dX10_gloves_88 : decode cX10_gloves 88 = .ok (.getfield 57, 3) := by decide +kernel
theorem dX10_gloves_91 : decode cX10_gloves 91 = .ok (.iload_n 1, 1) := by decide +kernel
theorem dX10_gloves_92 : decode cX10_gloves 92 = .ok (.iaload, 1) := by decide +kernel
theorem dX10_gloves_93 : decode cX10_gloves 93 = .ok (.iconst 3, 1) := by decide +kernel
theorem dX10_gloves_94 : decode cX10_gloves 94 = .ok (.iload 6, 2) := by decide +kernel
theorem dX10_gloves_96 : decode cX10_gloves 96 = .ok (.imul, 1) := by decide +kernel
theorem dX10_gloves_97 : decode cX10_gloves 97 = .ok (.isub, 1) := by decide +kernel
theorem dX10_gloves_98 : decode cX10_gloves 98 = .ok (.iconst 3, 1) := by decide +kernel
theorem dX10_gloves_99 : decode cX10_gloves 99 = .ok (.isub, 1) := by decide +kernel
theorem dX10_gloves_100 : decode cX10_gloves 100 = .ok (.if_icmp .le 6, 3) := by decide +kernel
theorem dX10_gloves_103 : decode cX10_gloves 103 = .ok (.bipush (-12), 2) := by decide +kernel
theorem dX10_gloves_105 : decode cX10_gloves 105 = .ok (.ireturn, 1) := by decide +kernel
theorem dX10_gloves_106 : decode cX10_gloves 106 = .ok (.bipush 40, 2) := by decide +kernel
theorem dX10_gloves_108 : decode cX10_gloves 108 = .ok (.iload_n 1, 1) := by decide +kernel
theorem dX10_gloves_109 : decode cX10_gloves 109 = .ok (.imul, 1) := by decide +kernel
theorem dX10_gloves_110 : decode cX10_gloves 110 = .ok (.iload_n 3, 1) := by decide +kernel
theorem dX10_gloves_111 : decode cX10_gloves 111 = .ok (.iadd, 1) := by decide +kernel
theorem dX10_gloves_112 : decode cX10_gloves 112 = .ok (.iconst 3, 1) := by decide +kernel
theorem dX10_gloves_113 : decode cX10_gloves 113 = .ok (.iload 6, 2) := by decide +kernel
theorem dX10_gloves_115 : decode cX10_gloves 115 = .ok (.imul, 1) := by decide +kernel
theorem dX10_gloves_116 : decode cX10_gloves 116 = .ok (.iadd, 1) := by decide +kernel
theorem dX10_gloves_117 : decode cX10_gloves 117 = .ok (.istore 7, 2) := by decide +kernel
theorem dX10_gloves_119 : decode cX10_gloves 119 = .ok (.iload 5, 2) := by decide +kernel
theorem dX10_gloves_121 : decode cX10_gloves 121 = .ok (.aload_n 0, 1) := by decide +kernel
theorem dX10_gloves_122 : decode cX10_gloves 122 = .ok (.aload_n 0, 1) := by decide +kernel
theorem dX10_gloves_123 : decode cX10_gloves 123 = .ok (.getfield 60, 3) := by decide +kernel
theorem dX10_gloves_126 : decode cX10_gloves 126 = .ok (.iload 7, 2) := by decide +kernel
theorem dX10_gloves_128 : decode cX10_gloves 128 = .ok (.iaload, 1) := by decide +kernel
theorem dX10_gloves_129 : decode cX10_gloves 129 = .ok (.aload_n 0, 1) := by decide +kernel
theorem dX10_gloves_130 : decode cX10_gloves 130 = .ok (.getfield 60, 3) := by decide +kernel
theorem dX10_gloves_133 : decode cX10_gloves 133 = .ok (.iload 7, 2) := by decide +kernel
theorem dX10_gloves_135 : decode cX10_gloves 135 = .ok (.iconst 1, 1) := by decide +kernel
theorem dX10_gloves_136 : decode cX10_gloves 136 = .ok (.iadd, 1) := by decide +kernel
theorem dX10_gloves_137 : decode cX10_gloves 137 = .ok (.iaload, 1) := by decide +kernel
theorem dX10_gloves_138 : decode cX10_gloves 138 = .ok (.aload_n 0, 1) := by decide +kernel
theorem dX10_gloves_139 : decode cX10_gloves 139 = .ok (.getfield 60, 3) := by decide +kernel
theorem dX10_gloves_142 : decode cX10_gloves 142 = .ok (.iload 7, 2) := by decide +kernel
theorem dX10_gloves_144 : decode cX10_gloves 144 = .ok (.iconst 2, 1) := by decide +kernel
theorem dX10_gloves_145 : decode cX10_gloves 145 = .ok (.iadd, 1) := by decide +kernel
theorem dX10_gloves_146 : decode cX10_gloves 146 = .ok (.iaload, 1) := by decide +kernel
theorem dX10_gloves_147 : decode cX10_gloves 147 = .ok (.invokevirtual 385, 3) := by decide +kernel
theorem dX10_gloves_150 : decode cX10_gloves 150 = .ok (.ifCond .lt 7, 3) := by decide +kernel
theorem dX10_gloves_153 : decode cX10_gloves 153 = .ok (.iconst 1, 1) := by decide +kernel
theorem dX10_gloves_154 : decode cX10_gloves 154 = .ok (.goto 4, 3) := by decide +kernel
theorem dX10_gloves_157 : decode cX10_gloves 157 = .ok (.iconst 0, 1) := by decide +kernel
theorem dX10_gloves_158 : decode cX10_gloves 158 = .ok (.iadd, 1) := by decide +kernel
theorem dX10_gloves_159 : decode cX10_gloves 159 = .ok (.istore 5, 2) := by decide +kernel
theorem dX10_gloves_161 : decode cX10_gloves 161 = .ok (.iinc 6 1, 3) := by decide +kernel
theorem dX10_gloves_164 : decode cX10_gloves 164 = .ok (.goto (-89), 3) := by decide +kernel
theorem dX10_gloves_167 : decode cX10_gloves 167 = .ok (.iload 5, 2) := by decide +kernel
theorem dX10_gloves_169 : decode cX10_gloves 169 = .ok (.ireturn, 1) := by decide +kernel
theorem dX10_over_0 : decode cX10_over 0 = .ok (.iload_n 0, 1) := by decide +kernel
theorem dX10_over_1 : decode cX10_over 1 = .ok (.ifCond .ne 7, 3) := by decide +kernel
theorem dX10_over_4 : decode cX10_over 4 = .ok (.iconst (-1), 1) := by decide +kernel
theorem dX10_over_5 : decode cX10_over 5 = .ok (.goto 22, 3) := by decide +kernel
theorem dX10_over_8 : decode cX10_over 8 = .ok (.iload_n 0, 1) := by decide +kernel
theorem dX10_over_9 : decode cX10_over 9 = .ok (.iconst 3, 1) := by decide +kernel
theorem dX10_over_10 : decode cX10_over 10 = .ok (.if_icmp .ne 7, 3) := by decide +kernel
theorem dX10_over_13 : decode cX10_over 13 = .ok (.iconst 1, 1) := by decide +kernel
theorem dX10_over_14 : decode cX10_over 14 = .ok (.goto 13, 3) := by decide +kernel
theorem dX10_over_17 : decode cX10_over 17 = .ok (.iload_n 0, 1) := by decide +kernel
theorem dX10_over_18 : decode cX10_over 18 = .ok (.iconst 4, 1) := by decide +kernel
theorem dX10_over_19 : decode cX10_over 19 = .ok (.if_icmp .ne 7, 3) := by decide +kernel
theorem dX10_over_22 : decode cX10_over 22 = .ok (.iconst 2, 1) := by decide +kernel
theorem dX10_over_23 : decode cX10_over 23 = .ok (.goto 4, 3) := by decide +kernel
theorem dX10_over_26 : decode cX10_over 26 = .ok (.iconst 0, 1) := by decide +kernel
theorem dX10_over_27 : decode cX10_over 27 = .ok (.ireturn, 1) := by decide +kernel
theorem dX10_taken_0 : decode cX10_taken 0 = .ok (.iload_n 2, 1) := by decide +kernel
theorem dX10_taken_1 : decode cX10_taken 1 = .ok (.i2l, 1) := by decide +kernel
theorem dX10_taken_2 : decode cX10_taken 2 = .ok (.lconst 0, 1) := by decide +kernel
theorem dX10_taken_3 : decode cX10_taken 3 = .ok (.ldc2_w 98, 3) := by decide +kernel
theorem dX10_taken_6 : decode cX10_taken 6 = .ok (.invokestatic 73, 3) := by decide +kernel
theorem dX10_taken_9 : decode cX10_taken 9 = .ok (.ifCond .ne 6, 3) := by decide +kernel
theorem dX10_taken_12 : decode cX10_taken 12 = .ok (.bipush (-2), 2) := by decide +kernel
theorem dX10_taken_14 : decode cX10_taken 14 = .ok (.ireturn, 1) := by decide +kernel
theorem dX10_taken_15 : decode cX10_taken 15 = .ok (.aload_n 0, 1) := by decide +kernel
theorem dX10_taken_16 : decode cX10_taken 16 = .ok (.iload_n 1, 1) := by decide +kernel
theorem dX10_taken_17 : decode cX10_taken 17 = .ok (.invokevirtual 79, 3) := by decide +kernel
theorem dX10_taken_20 : decode cX10_taken 20 = .ok (.ifCond .ne 6, 3) := by decide +kernel
theorem dX10_taken_23 : decode cX10_taken 23 = .ok (.bipush (-11), 2) := by decide +kernel
theorem dX10_taken_25 : decode cX10_taken 25 = .ok (.ireturn, 1) := by decide +kernel
theorem dX10_taken_26 : decode cX10_taken 26 = .ok (.aload_n 0, 1) := by decide +kernel
theorem dX10_taken_27 : decode cX10_taken 27 = .ok (.getfield 26, 3) := by decide +kernel
theorem dX10_taken_30 : decode cX10_taken 30 = .ok (.iload_n 1, 1) := by decide +kernel
theorem dX10_taken_31 : decode cX10_taken 31 = .ok (.iaload, 1) := by decide +kernel
theorem dX10_taken_32 : decode cX10_taken 32 = .ok (.istore_n 3, 1) := by decide +kernel
theorem dX10_taken_33 : decode cX10_taken 33 = .ok (.iload_n 3, 1) := by decide +kernel
theorem dX10_taken_34 : decode cX10_taken 34 = .ok (.iconst (-1), 1) := by decide +kernel
theorem dX10_taken_35 : decode cX10_taken 35 = .ok (.if_icmp .eq 16, 3) := by decide +kernel
theorem dX10_taken_38 : decode cX10_taken 38 = .ok (.iload_n 3, 1) := by decide +kernel
theorem dX10_taken_39 : decode cX10_taken 39 = .ok (.iload_n 2, 1) := by decide +kernel
theorem dX10_taken_40 : decode cX10_taken 40 = .ok (.if_icmp .eq 11, 3) := by decide +kernel
theorem dX10_taken_43 : decode cX10_taken 43 = .ok (.iload_n 3, 1) := by decide +kernel
theorem dX10_taken_44 : decode cX10_taken 44 = .ok (.invokestatic 388, 3) := by decide +kernel
theorem dX10_taken_47 : decode cX10_taken 47 = .ok (.istore_n 3, 1) := by decide +kernel
theorem dX10_taken_48 : decode cX10_taken 48 = .ok (.goto (-15), 3) := by decide +kernel
theorem dX10_taken_51 : decode cX10_taken 51 = .ok (.iload_n 3, 1) := by decide +kernel
theorem dX10_taken_52 : decode cX10_taken 52 = .ok (.iload_n 2, 1) := by decide +kernel
theorem dX10_taken_53 : decode cX10_taken 53 = .ok (.if_icmp .ne 14, 3) := by decide +kernel
theorem dX10_taken_56 : decode cX10_taken 56 = .ok (.aload_n 0, 1) := by decide +kernel
theorem dX10_taken_57 : decode cX10_taken 57 = .ok (.getfield 29, 3) := by decide +kernel
theorem dX10_taken_60 : decode cX10_taken 60 = .ok (.iconst 4, 1) := by decide +kernel
theorem dX10_taken_61 : decode cX10_taken 61 = .ok (.iload_n 1, 1) := by decide +kernel
theorem dX10_taken_62 : decode cX10_taken 62 = .ok (.imul, 1) := by decide +kernel
theorem dX10_taken_63 : decode cX10_taken 63 = .ok (.iaload, 1) := by decide +kernel
theorem dX10_taken_64 : decode cX10_taken 64 = .ok (.goto 5, 3) := by decide +kernel
theorem dX10_taken_67 : decode cX10_taken 67 = .ok (.bipush (-13), 2) := by decide +kernel
theorem dX10_taken_69 : decode cX10_taken 69 = .ok (.ireturn, 1) := by decide +kernel
