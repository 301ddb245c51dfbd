theorem dX0_init_0 : decode cX0_init 0 = .ok (.aload_n 0, 1) := by decide +kernel
theorem dX0_init_1 : decode cX0_init 1 = .ok (.invokespecial 3, 3) := by decide +kernel
theorem dX0_init_4 : decode cX0_init 4 = .ok (.aload_n 0, 1) := by decide +kernel
theorem dX0_init_5 : decode cX0_init 5 = .ok (.bipush 30, 2) := by decide +kernel
theorem dX0_init_7 : decode cX0_init 7 = .ok (.newarray .int, 2) := by decide +kernel
theorem dX0_init_9 : decode cX0_init 9 = .ok (.putfield 9, 3) := by decide +kernel
theorem dX0_init_12 : decode cX0_init 12 = .ok (.aload_n 0, 1) := by decide +kernel
theorem dX0_init_13 : decode cX0_init 13 = .ok (.bipush 30, 2) := by decide +kernel
theorem dX0_init_15 : decode cX0_init 15 = .ok (.newarray .int, 2) := by decide +kernel
theorem dX0_init_17 : decode cX0_init 17 = .ok (.putfield 15, 3) := by decide +kernel
theorem dX0_init_20 : decode cX0_init 20 = .ok (.aload_n 0, 1) := by decide +kernel
theorem dX0_init_21 : decode cX0_init 21 = .ok (.bipush 30, 2) := by decide +kernel
theorem dX0_init_23 : decode cX0_init 23 = .ok (.newarray .int, 2) := by decide +kernel
theorem dX0_init_25 : decode cX0_init 25 = .ok (.putfield 18, 3) := by decide +kernel
theorem dX0_init_28 : decode cX0_init 28 = .ok (.aload_n 0, 1) := by decide +kernel
theorem dX0_init_29 : decode cX0_init 29 = .ok (.new 21, 3) := by decide +kernel
theorem dX0_init_32 : decode cX0_init 32 = .ok (.dup, 1) := by decide +kernel
theorem dX0_init_33 : decode cX0_init 33 = .ok (.invokespecial 23, 3) := by decide +kernel
theorem dX0_init_36 : decode cX0_init 36 = .ok (.putfield 24, 3) := by decide +kernel
theorem dX0_init_39 : decode cX0_init 39 = .ok (.return_, 1) := by decide +kernel
theorem dX0_follow_0 : decode cX0_follow 0 = .ok (.aload_n 2, 1) := by decide +kernel
theorem dX0_follow_1 : decode cX0_follow 1 = .ok (.invokevirtual 28, 3) := by decide +kernel
theorem dX0_follow_4 : decode cX0_follow 4 = .ok (.istore 4, 2) := by decide +kernel
theorem dX0_follow_6 : decode cX0_follow 6 = .ok (.aload_n 2, 1) := by decide +kernel
theorem dX0_follow_7 : decode cX0_follow 7 = .ok (.getfield 34, 3) := by decide +kernel
theorem dX0_follow_10 : decode cX0_follow 10 = .ok (.istore 5, 2) := by decide +kernel
theorem dX0_follow_12 : decode cX0_follow 12 = .ok (.iconst 0, 1) := by decide +kernel
theorem dX0_follow_13 : decode cX0_follow 13 = .ok (.istore 6, 2) := by decide +kernel
theorem dX0_follow_15 : decode cX0_follow 15 = .ok (.iload 6, 2) := by decide +kernel
theorem dX0_follow_17 : decode cX0_follow 17 = .ok (.aload_n 0, 1) := by decide +kernel
theorem dX0_follow_18 : decode cX0_follow 18 = .ok (.getfield 9, 3) := by decide +kernel
theorem dX0_follow_21 : decode cX0_follow 21 = .ok (.arraylength, 1) := by decide +kernel
theorem dX0_follow_22 : decode cX0_follow 22 = .ok (.if_icmp .ge 84, 3) := by decide +kernel
theorem dX0_follow_25 : decode cX0_follow 25 = .ok (.iload 6, 2) := by decide +kernel
theorem dX0_follow_27 : decode cX0_follow 27 = .ok (.iload 4, 2) := by decide +kernel
theorem dX0_follow_29 : decode cX0_follow 29 = .ok (.if_icmp .lt 14, 3) := by decide +kernel
theorem dX0_follow_32 : decode cX0_follow 32 = .ok (.aload_n 0, 1) := by decide +kernel
theorem dX0_follow_33 : decode cX0_follow 33 = .ok (.getfield 9, 3) := by decide +kernel
theorem dX0_follow_36 : decode cX0_follow 36 = .ok (.iload 6, 2) := by decide +kernel
theorem dX0_follow_38 : decode cX0_follow 38 = .ok (.iconst (-1), 1) := by decide +kernel
theorem dX0_follow_39 : decode cX0_follow 39 = .ok (.iastore, 1) := by decide +kernel
theorem dX0_follow_40 : decode cX0_follow 40 = .ok (.goto 60, 3) := by decide +kernel
theorem dX0_follow_43 : decode cX0_follow 43 = .ok (.aload_n 0, 1) := by decide +kernel
theorem dX0_follow_44 : decode cX0_follow 44 = .ok (.getfield 9, 3) := by decide +kernel
theorem dX0_follow_47 : decode cX0_follow 47 = .ok (.iload 6, 2) := by decide +kernel
theorem dX0_follow_49 : decode cX0_follow 49 = .ok (.iload 5, 2) := by decide +kernel
theorem dX0_follow_51 : decode cX0_follow 51 = .ok (.iastore, 1) := by decide +kernel
theorem dX0_follow_52 : decode cX0_follow 52 = .ok (.aload_n 0, 1) := by decide +kernel
theorem dX0_follow_53 : decode cX0_follow 53 = .ok (.getfield 24, 3) := by decide +kernel
theorem dX0_follow_56 : decode cX0_follow 56 = .ok (.aload_n 2, 1) := by decide +kernel
theorem dX0_follow_57 : decode cX0_follow 57 = .ok (.iload 5, 2) := by decide +kernel
theorem dX0_follow_59 : decode cX0_follow 59 = .ok (.iload 6, 2) := by decide +kernel
theorem dX0_follow_61 : decode cX0_follow 61 = .ok (.iload_n 3, 1) := by decide +kernel
theorem dX0_follow_62 : decode cX0_follow 62 = .ok (.invokevirtual 38, 3) := by decide +kernel
theorem dX0_follow_65 : decode cX0_follow 65 = .ok (.aload_n 0, 1) := by decide +kernel
theorem dX0_follow_66 : decode cX0_follow 66 = .ok (.getfield 24, 3) := by decide +kernel
theorem dX0_follow_69 : decode cX0_follow 69 = .ok (.aload_n 1, 1) := by decide +kernel
theorem dX0_follow_70 : decode cX0_follow 70 = .ok (.iconst 1, 1) := by decide +kernel
theorem dX0_follow_71 : decode cX0_follow 71 = .ok (.invokevirtual 42, 3) := by decide +kernel
theorem dX0_follow_74 : decode cX0_follow 74 = .ok (.bipush (-19), 2) := by decide +kernel
theorem dX0_follow_76 : decode cX0_follow 76 = .ok (.bipush 19, 2) := by decide +kernel
theorem dX0_follow_78 : decode cX0_follow 78 = .ok (.invokestatic 46, 3) := by decide +kernel
theorem dX0_follow_81 : decode cX0_follow 81 = .ok (.istore 7, 2) := by decide +kernel
theorem dX0_follow_83 : decode cX0_follow 83 = .ok (.iload 5, 2) := by decide +kernel
theorem dX0_follow_85 : decode cX0_follow 85 = .ok (.aload_n 2, 1) := by decide +kernel
theorem dX0_follow_86 : decode cX0_follow 86 = .ok (.iload 7, 2) := by decide +kernel
theorem dX0_follow_88 : decode cX0_follow 88 = .ok (.invokevirtual 50, 3) := by decide +kernel
theorem dX0_follow_91 : decode cX0_follow 91 = .ok (.iadd, 1) := by decide +kernel
theorem dX0_follow_92 : decode cX0_follow 92 = .ok (.iconst 0, 1) := by decide +kernel
theorem dX0_follow_93 : decode cX0_follow 93 = .ok (.bipush 19, 2) := by decide +kernel
theorem dX0_follow_95 : decode cX0_follow 95 = .ok (.invokestatic 46, 3) := by decide +kernel
theorem dX0_follow_98 : decode cX0_follow 98 = .ok (.istore 5, 2) := by decide +kernel
theorem dX0_follow_100 : decode cX0_follow 100 = .ok (.iinc 6 1, 3) := by decide +kernel
theorem dX0_follow_103 : decode cX0_follow 103 = .ok (.goto (-88), 3) := by decide +kernel
theorem dX0_follow_106 : decode cX0_follow 106 = .ok (.return_, 1) := by decide +kernel
theorem dX0_ask_0 : decode cX0_ask 0 = .ok (.iconst 0, 1) := by decide +kernel
theorem dX0_ask_1 : decode cX0_ask 1 = .ok (.istore 4, 2) := by decide +kernel
theorem dX0_ask_3 : decode cX0_ask 3 = .ok (.iload 4, 2) := by decide +kernel
theorem dX0_ask_5 : decode cX0_ask 5 = .ok (.aload_n 0, 1) := by decide +kernel
theorem dX0_ask_6 : decode cX0_ask 6 = .ok (.getfield 15, 3) := by decide +kernel
theorem dX0_ask_9 : decode cX0_ask 9 = .ok (.arraylength, 1) := by decide +kernel
theorem dX0_ask_10 : decode cX0_ask 10 = .ok (.if_icmp .ge 69, 3) := by decide +kernel
theorem dX0_ask_13 : decode cX0_ask 13 = .ok (.aload_n 0, 1) := by decide +kernel
theorem dX0_ask_14 : decode cX0_ask 14 = .ok (.iload 4, 2) := by decide +kernel
theorem dX0_ask_16 : decode cX0_ask 16 = .ok (.invokevirtual 54, 3) := by decide +kernel
theorem dX0_ask_19 : decode cX0_ask 19 = .ok (.istore 5, 2) := by decide +kernel
theorem dX0_ask_21 : decode cX0_ask 21 = .ok (.iload 5, 2) := by decide +kernel
theorem dX0_ask_23 : decode cX0_ask 23 = .ok (.iconst (-1), 1) := by decide +kernel
theorem dX0_ask_24 : decode cX0_ask 24 = .ok (.if_icmp .ne 14, 3) := by decide +kernel
theorem dX0_ask_27 : decode cX0_ask 27 = .ok (.aload_n 0, 1) := by decide +kernel
theorem dX0_ask_28 : decode cX0_ask 28 = .ok (.getfield 15, 3) := by decide +kernel
theorem dX0_ask_31 : decode cX0_ask 31 = .ok (.iload 4, 2) := by decide +kernel
theorem dX0_ask_33 : decode cX0_ask 33 = .ok (.iconst 0, 1) := by decide +kernel
theorem dX0_ask_34 : decode cX0_ask 34 = .ok (.iastore, 1) := by decide +kernel
theorem dX0_ask_35 : decode cX0_ask 35 = .ok (.goto 38, 3) := by decide +kernel
theorem dX0_ask_38 : decode cX0_ask 38 = .ok (.aload_n 0, 1) := by decide +kernel
theorem dX0_ask_39 : decode cX0_ask 39 = .ok (.getfield 24, 3) := by decide +kernel
theorem dX0_ask_42 : decode cX0_ask 42 = .ok (.aload_n 2, 1) := by decide +kernel
theorem dX0_ask_43 : decode cX0_ask 43 = .ok (.iload 5, 2) := by decide +kernel
theorem dX0_ask_45 : decode cX0_ask 45 = .ok (.iload 4, 2) := by decide +kernel
theorem dX0_ask_47 : decode cX0_ask 47 = .ok (.iload_n 3, 1) := by decide +kernel
theorem dX0_ask_48 : decode cX0_ask 48 = .ok (.invokevirtual 38, 3) := by decide +kernel
theorem dX0_ask_51 : decode cX0_ask 51 = .ok (.aload_n 0, 1) := by decide +kernel
theorem dX0_ask_52 : decode cX0_ask 52 = .ok (.getfield 15, 3) := by decide +kernel
theorem dX0_ask_55 : decode cX0_ask 55 = .ok (.iload 4, 2) := by decide +kernel
theorem dX0_ask_57 : decode cX0_ask 57 = .ok (.aload_n 0, 1) := by decide +kernel
theorem dX0_ask_58 : decode cX0_ask 58 = .ok (.getfield 24, 3) := by decide +kernel
theorem dX0_ask_61 : decode cX0_ask 61 = .ok (.aload_n 1, 1) := by decide +kernel
theorem dX0_ask_62 : decode cX0_ask 62 = .ok (.iconst 0, 1) := by decide +kernel
theorem dX0_ask_63 : decode cX0_ask 63 = .ok (.invokevirtual 42, 3) := by decide +kernel
theorem dX0_ask_66 : decode cX0_ask 66 = .ok (.iconst 0, 1) := by decide +kernel
theorem dX0_ask_67 : decode cX0_ask 67 = .ok (.bipush 100, 2) := by decide +kernel
theorem dX0_ask_69 : decode cX0_ask 69 = .ok (.invokestatic 46, 3) := by decide +kernel
theorem dX0_ask_72 : decode cX0_ask 72 = .ok (.iastore, 1) := by decide +kernel
theorem dX0_ask_73 : decode cX0_ask 73 = .ok (.iinc 4 1, 3) := by decide +kernel
theorem dX0_ask_76 : decode cX0_ask 76 = .ok (.goto (-73), 3) := by decide +kernel
theorem dX0_ask_79 : decode cX0_ask 79 = .ok (.return_, 1) := by decide +kernel
theorem dX0_pass_0 : decode cX0_pass 0 = .ok (.iconst 0, 1) := by decide +kernel
theorem dX0_pass_1 : decode cX0_pass 1 = .ok (.istore_n 3, 1) := by decide +kernel
theorem dX0_pass_2 : decode cX0_pass 2 = .ok (.iload_n 3, 1) := by decide +kernel
theorem dX0_pass_3 : decode cX0_pass 3 = .ok (.aload_n 0, 1) := by decide +kernel
theorem dX0_pass_4 : decode cX0_pass 4 = .ok (.getfield 18, 3) := by decide +kernel
theorem dX0_pass_7 : decode cX0_pass 7 = .ok (.arraylength, 1) := by decide +kernel
theorem dX0_pass_8 : decode cX0_pass 8 = .ok (.if_icmp .ge 54, 3) := by decide +kernel
theorem dX0_pass_11 : decode cX0_pass 11 = .ok (.iload_n 3, 1) := by decide +kernel
theorem dX0_pass_12 : decode cX0_pass 12 = .ok (.aload_n 0, 1) := by decide +kernel
theorem dX0_pass_13 : decode cX0_pass 13 = .ok (.getfield 15, 3) := by decide +kernel
theorem dX0_pass_16 : decode cX0_pass 16 = .ok (.arraylength, 1) := by decide +kernel
theorem dX0_pass_17 : decode cX0_pass 17 = .ok (.if_icmp .ge 45, 3) := by decide +kernel
theorem dX0_pass_20 : decode cX0_pass 20 = .ok (.aload_n 0, 1) := by decide +kernel
theorem dX0_pass_21 : decode cX0_pass 21 = .ok (.getfield 18, 3) := by decide +kernel
theorem dX0_pass_24 : decode cX0_pass 24 = .ok (.iload_n 3, 1) := by decide +kernel
theorem dX0_pass_25 : decode cX0_pass 25 = .ok (.aload_n 2, 1) := by decide +kernel
theorem dX0_pass_26 : decode cX0_pass 26 = .ok (.aload_n 0, 1) := by decide +kernel
theorem dX0_pass_27 : decode cX0_pass 27 = .ok (.iload_n 3, 1) := by decide +kernel
theorem dX0_pass_28 : decode cX0_pass 28 = .ok (.invokevirtual 54, 3) := by decide +kernel
theorem dX0_pass_31 : decode cX0_pass 31 = .ok (.invokevirtual 57, 3) := by decide +kernel
theorem dX0_pass_34 : decode cX0_pass 34 = .ok (.ifCond .eq 20, 3) := by decide +kernel
theorem dX0_pass_37 : decode cX0_pass 37 = .ok (.aload_n 1, 1) := by decide +kernel
theorem dX0_pass_38 : decode cX0_pass 38 = .ok (.aload_n 0, 1) := by decide +kernel
theorem dX0_pass_39 : decode cX0_pass 39 = .ok (.getfield 15, 3) := by decide +kernel
theorem dX0_pass_42 : decode cX0_pass 42 = .ok (.iload_n 3, 1) := by decide +kernel
theorem dX0_pass_43 : decode cX0_pass 43 = .ok (.iaload, 1) := by decide +kernel
theorem dX0_pass_44 : decode cX0_pass 44 = .ok (.aload_n 2, 1) := by decide +kernel
theorem dX0_pass_45 : decode cX0_pass 45 = .ok (.getfield 63, 3) := by decide +kernel
theorem dX0_pass_48 : decode cX0_pass 48 = .ok (.invokevirtual 66, 3) := by decide +kernel
theorem dX0_pass_51 : decode cX0_pass 51 = .ok (.goto 4, 3) := by decide +kernel
theorem dX0_pass_54 : decode cX0_pass 54 = .ok (.iconst 0, 1) := by decide +kernel
theorem dX0_pass_55 : decode cX0_pass 55 = .ok (.iastore, 1) := by decide +kernel
theorem dX0_pass_56 : decode cX0_pass 56 = .ok (.iinc 3 1, 3) := by decide +kernel
theorem dX0_pass_59 : decode cX0_pass 59 = .ok (.goto (-57), 3) := by decide +kernel
theorem dX0_pass_62 : decode cX0_pass 62 = .ok (.return_, 1) := by decide +kernel
theorem dX0_whereOn_0 : decode cX0_whereOn 0 = .ok (.iload_n 1, 1) := by decide +kernel
theorem dX0_whereOn_1 : decode cX0_whereOn 1 = .ok (.ifCond .lt 21, 3) := by decide +kernel
theorem dX0_whereOn_4 : decode cX0_whereOn 4 = .ok (.iload_n 1, 1) := by decide +kernel
theorem dX0_whereOn_5 : decode cX0_whereOn 5 = .ok (.aload_n 0, 1) := by decide +kernel
theorem dX0_whereOn_6 : decode cX0_whereOn 6 = .ok (.getfield 9, 3) := by decide +kernel
theorem dX0_whereOn_9 : decode cX0_whereOn 9 = .ok (.arraylength, 1) := by decide +kernel
theorem dX0_whereOn_10 : decode cX0_whereOn 10 = .ok (.if_icmp .ge 12, 3) := by decide +kernel
theorem dX0_whereOn_13 : decode cX0_whereOn 13 = .ok (.aload_n 0, 1) := by decide +kernel
theorem dX0_whereOn_14 : decode cX0_whereOn 14 = .ok (.getfield 9, 3) := by decide +kernel
theorem dX0_whereOn_17 : decode cX0_whereOn 17 = .ok (.iload_n 1, 1) := by decide +kernel
theorem dX0_whereOn_18 : decode cX0_whereOn 18 = .ok (.iaload, 1) := by decide +kernel
theorem dX0_whereOn_19 : decode cX0_whereOn 19 = .ok (.goto 4, 3) := by decide +kernel
theorem dX0_whereOn_22 : decode cX0_whereOn 22 = .ok (.iconst (-1), 1) := by decide +kernel
theorem dX0_whereOn_23 : decode cX0_whereOn 23 = .ok (.ireturn, 1) := by decide +kernel
theorem dX0_likelyOn_0 : decode cX0_likelyOn 0 = .ok (.iload_n 1, 1) := by decide +kernel
theorem dX0_likelyOn_1 : decode cX0_likelyOn 1 = .ok (.ifCond .lt 21, 3) := by decide +kernel
theorem dX0_likelyOn_4 : decode cX0_likelyOn 4 = .ok (.iload_n 1, 1) := by decide +kernel
theorem dX0_likelyOn_5 : decode cX0_likelyOn 5 = .ok (.aload_n 0, 1) := by decide +kernel
theorem dX0_likelyOn_6 : decode cX0_likelyOn 6 = .ok (.getfield 18, 3) := by decide +kernel
theorem dX0_likelyOn_9 : decode cX0_likelyOn 9 = .ok (.arraylength, 1) := by decide +kernel
theorem dX0_likelyOn_10 : decode cX0_likelyOn 10 = .ok (.if_icmp .ge 12, 3) := by decide +kernel
theorem dX0_likelyOn_13 : decode cX0_likelyOn 13 = .ok (.aload_n 0, 1) := by decide +kernel
theorem dX0_likelyOn_14 : decode cX0_likelyOn 14 = .ok (.getfield 18, 3) := by decide +kernel
theorem dX0_likelyOn_17 : decode cX0_likelyOn 17 = .ok (.iload_n 1, 1) := by decide +kernel
theorem dX0_likelyOn_18 : decode cX0_likelyOn 18 = .ok (.iaload, 1) := by decide +kernel
theorem dX0_likelyOn_19 : decode cX0_likelyOn 19 = .ok (.goto 4, 3) := by decide +kernel
theorem dX0_likelyOn_22 : decode cX0_likelyOn 22 = .ok (.iconst 0, 1) := by decide +kernel
theorem dX0_likelyOn_23 : decode cX0_likelyOn 23 = .ok (.ireturn, 1) := by decide +kernel
theorem dX0_mindsOn_0 : decode cX0_mindsOn 0 = .ok (.aload_n 0, 1) := by decide +kernel
theorem dX0_mindsOn_1 : decode cX0_mindsOn 1 = .ok (.iload_n 1, 1) := by decide +kernel
theorem dX0_mindsOn_2 : decode cX0_mindsOn 2 = .ok (.invokevirtual 54, 3) := by decide +kernel
theorem dX0_mindsOn_5 : decode cX0_mindsOn 5 = .ok (.istore 5, 2) := by decide +kernel
theorem dX0_mindsOn_7 : decode cX0_mindsOn 7 = .ok (.iload 5, 2) := by decide +kernel
theorem dX0_mindsOn_9 : decode cX0_mindsOn 9 = .ok (.iconst (-1), 1) := by decide +kernel
theorem dX0_mindsOn_10 : decode cX0_mindsOn 10 = .ok (.if_icmp .ne 5, 3) := by decide +kernel
theorem dX0_mindsOn_13 : decode cX0_mindsOn 13 = .ok (.iconst 0, 1) := by decide +kernel
theorem dX0_mindsOn_14 : decode cX0_mindsOn 14 = .ok (.ireturn, 1) := by decide +kernel
theorem dX0_mindsOn_15 : decode cX0_mindsOn 15 = .ok (.aload_n 0, 1) := by decide +kernel
theorem dX0_mindsOn_16 : decode cX0_mindsOn 16 = .ok (.getfield 24, 3) := by decide +kernel
theorem dX0_mindsOn_19 : decode cX0_mindsOn 19 = .ok (.aload_n 3, 1) := by decide +kernel
theorem dX0_mindsOn_20 : decode cX0_mindsOn 20 = .ok (.iload 5, 2) := by decide +kernel
theorem dX0_mindsOn_22 : decode cX0_mindsOn 22 = .ok (.iload_n 1, 1) := by decide +kernel
theorem dX0_mindsOn_23 : decode cX0_mindsOn 23 = .ok (.iload 4, 2) := by decide +kernel
theorem dX0_mindsOn_25 : decode cX0_mindsOn 25 = .ok (.invokevirtual 38, 3) := by decide +kernel
theorem dX0_mindsOn_28 : decode cX0_mindsOn 28 = .ok (.aload_n 0, 1) := by decide +kernel
theorem dX0_mindsOn_29 : decode cX0_mindsOn 29 = .ok (.getfield 24, 3) := by decide +kernel
theorem dX0_mindsOn_32 : decode cX0_mindsOn 32 = .ok (.aload_n 2, 1) := by decide +kernel
theorem dX0_mindsOn_33 : decode cX0_mindsOn 33 = .ok (.iconst 2, 1) := by decide +kernel
theorem dX0_mindsOn_34 : decode cX0_mindsOn 34 = .ok (.invokevirtual 42, 3) := by decide +kernel
theorem dX0_mindsOn_37 : decode cX0_mindsOn 37 = .ok (.iconst 0, 1) := by decide +kernel
theorem dX0_mindsOn_38 : decode cX0_mindsOn 38 = .ok (.bipush 99, 2) := by decide +kernel
theorem dX0_mindsOn_40 : decode cX0_mindsOn 40 = .ok (.invokestatic 46, 3) := by decide +kernel
theorem dX0_mindsOn_43 : decode cX0_mindsOn 43 = .ok (.ireturn, 1) := by decide +kernel
theorem dX0_partsBy_0 : decode cX0_partsBy 0 = .ok (.ldc2_w 70, 3) := by decide +kernel
theorem dX0_partsBy_3 : decode cX0_partsBy 3 = .ok (.lstore_n 2, 1) := by decide +kernel
theorem dX0_partsBy_4 : decode cX0_partsBy 4 = .ok (.iconst 0, 1) := by decide +kernel
theorem dX0_partsBy_5 : decode cX0_partsBy 5 = .ok (.istore 4, 2) := by decide +kernel
theorem dX0_partsBy_7 : decode cX0_partsBy 7 = .ok (.iload 4, 2) := by decide +kernel
theorem dX0_partsBy_9 : decode cX0_partsBy 9 = .ok (.iload_n 1, 1) := by decide +kernel
theorem dX0_partsBy_10 : decode cX0_partsBy 10 = .ok (.if_icmp .ge 33, 3) := by decide +kernel
theorem dX0_partsBy_13 : decode cX0_partsBy 13 = .ok (.iload 4, 2) := by decide +kernel
theorem dX0_partsBy_15 : decode cX0_partsBy 15 = .ok (.bipush 30, 2) := by decide +kernel
theorem dX0_partsBy_17 : decode cX0_partsBy 17 = .ok (.if_icmp .ge 26, 3) := by decide +kernel
theorem dX0_partsBy_20 : decode cX0_partsBy 20 = .ok (.lload_n 2, 1) := by decide +kernel
theorem dX0_partsBy_21 : decode cX0_partsBy 21 = .ok (.bipush 100, 2) := by decide +kernel
theorem dX0_partsBy_23 : decode cX0_partsBy 23 = .ok (.aload_n 0, 1) := by decide +kernel
theorem dX0_partsBy_24 : decode cX0_partsBy 24 = .ok (.iload 4, 2) := by decide +kernel
theorem dX0_partsBy_26 : decode cX0_partsBy 26 = .ok (.invokevirtual 72, 3) := by decide +kernel
theorem dX0_partsBy_29 : decode cX0_partsBy 29 = .ok (.isub, 1) := by decide +kernel
theorem dX0_partsBy_30 : decode cX0_partsBy 30 = .ok (.i2l, 1) := by decide +kernel
theorem dX0_partsBy_31 : decode cX0_partsBy 31 = .ok (.lmul, 1) := by decide +kernel
theorem dX0_partsBy_32 : decode cX0_partsBy 32 = .ok (.ldc2_w 75, 3) := by decide +kernel
theorem dX0_partsBy_35 : decode cX0_partsBy 35 = .ok (.ldiv, 1) := by decide +kernel
theorem dX0_partsBy_36 : decode cX0_partsBy 36 = .ok (.lstore_n 2, 1) := by decide +kernel
theorem dX0_partsBy_37 : decode cX0_partsBy 37 = .ok (.iinc 4 1, 3) := by decide +kernel
theorem dX0_partsBy_40 : decode cX0_partsBy 40 = .ok (.goto (-33), 3) := by decide +kernel
theorem dX0_partsBy_43 : decode cX0_partsBy 43 = .ok (.ldc2_w 70, 3) := by decide +kernel
theorem dX0_partsBy_46 : decode cX0_partsBy 46 = .ok (.lload_n 2, 1) := by decide +kernel
theorem dX0_partsBy_47 : decode cX0_partsBy 47 = .ok (.lsub, 1) := by decide +kernel
theorem dX0_partsBy_48 : decode cX0_partsBy 48 = .ok (.lreturn, 1) := by decide +kernel
theorem dX0_seenBy_0 : decode cX0_seenBy 0 = .ok (.iload_n 1, 1) := by decide +kernel
theorem dX0_seenBy_1 : decode cX0_seenBy 1 = .ok (.istore_n 2, 1) := by decide +kernel
theorem dX0_seenBy_2 : decode cX0_seenBy 2 = .ok (.iconst 0, 1) := by decide +kernel
theorem dX0_seenBy_3 : decode cX0_seenBy 3 = .ok (.istore_n 3, 1) := by decide +kernel
theorem dX0_seenBy_4 : decode cX0_seenBy 4 = .ok (.iload_n 3, 1) := by decide +kernel
theorem dX0_seenBy_5 : decode cX0_seenBy 5 = .ok (.bipush 30, 2) := by decide +kernel
theorem dX0_seenBy_7 : decode cX0_seenBy 7 = .ok (.if_icmp .ge 35, 3) := by decide +kernel
theorem dX0_seenBy_10 : decode cX0_seenBy 10 = .ok (.iload_n 2, 1) := by decide +kernel
theorem dX0_seenBy_11 : decode cX0_seenBy 11 = .ok (.ldc 77, 2) := by decide +kernel
theorem dX0_seenBy_13 : decode cX0_seenBy 13 = .ok (.imul, 1) := by decide +kernel
theorem dX0_seenBy_14 : decode cX0_seenBy 14 = .ok (.sipush 12345, 3) := by decide +kernel
theorem dX0_seenBy_17 : decode cX0_seenBy 17 = .ok (.iadd, 1) := by decide +kernel
theorem dX0_seenBy_18 : decode cX0_seenBy 18 = .ok (.istore_n 2, 1) := by decide +kernel
theorem dX0_seenBy_19 : decode cX0_seenBy 19 = .ok (.iload_n 2, 1) := by decide +kernel
theorem dX0_seenBy_20 : decode cX0_seenBy 20 = .ok (.bipush 9, 2) := by decide +kernel
theorem dX0_seenBy_22 : decode cX0_seenBy 22 = .ok (.iushr, 1) := by decide +kernel
theorem dX0_seenBy_23 : decode cX0_seenBy 23 = .ok (.bipush 100, 2) := by decide +kernel
theorem dX0_seenBy_25 : decode cX0_seenBy 25 = .ok (.irem, 1) := by decide +kernel
theorem dX0_seenBy_26 : decode cX0_seenBy 26 = .ok (.aload_n 0, 1) := by decide +kernel
theorem dX0_seenBy_27 : decode cX0_seenBy 27 = .ok (.iload_n 3, 1) := by decide +kernel
theorem dX0_seenBy_28 : decode cX0_seenBy 28 = .ok (.invokevirtual 72, 3) := by decide +kernel
theorem dX0_seenBy_31 : decode cX0_seenBy 31 = .ok (.if_icmp .ge 5, 3) := by decide +kernel
theorem dX0_seenBy_34 : decode cX0_seenBy 34 = .ok (.iload_n 3, 1) := by decide +kernel
theorem dX0_seenBy_35 : decode cX0_seenBy 35 = .ok (.ireturn, 1) := by decide +kernel
theorem dX0_seenBy_36 : decode cX0_seenBy 36 = .ok (.iinc 3 1, 3) := by decide +kernel
theorem dX0_seenBy_39 : decode cX0_seenBy 39 = .ok (.goto (-35), 3) := by decide +kernel
theorem dX0_seenBy_42 : decode cX0_seenBy 42 = .ok (.iconst (-1), 1) := by decide +kernel
theorem dX0_seenBy_43 : decode cX0_seenBy 43 = .ok (.ireturn, 1) := by decide +kernel
theorem dX1_init_0 : decode cX1_init 0 = .ok (.aload_n 0, 1) := by decide +kernel
theorem dX1_init_1 : decode cX1_init 1 = .ok (.invokespecial 3, 3) := by decide +kernel
theorem dX1_init_4 : decode cX1_init 4 = .ok (.return_, 1) := by decide +kernel
theorem dX1_come_0 : decode cX1_come 0 = .ok (.aload_n 0, 1) := by decide +kernel
theorem dX1_come_1 : decode cX1_come 1 = .ok (.iload_n 1, 1) := by decide +kernel
theorem dX1_come_2 : decode cX1_come 2 = .ok (.putfield 9, 3) := by decide +kernel
theorem dX1_come_5 : decode cX1_come 5 = .ok (.aload_n 0, 1) := by decide +kernel
theorem dX1_come_6 : decode cX1_come 6 = .ok (.iload_n 2, 1) := by decide +kernel
theorem dX1_come_7 : decode cX1_come 7 = .ok (.putfield 15, 3) := by decide +kernel
theorem dX1_come_10 : decode cX1_come 10 = .ok (.aload_n 0, 1) := by decide +kernel
theorem dX1_come_11 : decode cX1_come 11 = .ok (.iload_n 3, 1) := by decide +kernel
theorem dX1_come_12 : decode cX1_come 12 = .ok (.putfield 18, 3) := by decide +kernel
theorem dX1_come_15 : decode cX1_come 15 = .ok (.aload_n 0, 1) := by decide +kernel
theorem dX1_come_16 : decode cX1_come 16 = .ok (.iconst 2, 1) := by decide +kernel
theorem dX1_come_17 : decode cX1_come 17 = .ok (.putfield 21, 3) := by decide +kernel
theorem dX1_come_20 : decode cX1_come 20 = .ok (.aload_n 0, 1) := by decide +kernel
theorem dX1_come_21 : decode cX1_come 21 = .ok (.iconst 0, 1) := by decide +kernel
theorem dX1_come_22 : decode cX1_come 22 = .ok (.putfield 24, 3) := by decide +kernel
theorem dX1_come_25 : decode cX1_come 25 = .ok (.return_, 1) := by decide +kernel
theorem dX1_become_0 : decode cX1_become 0 = .ok (.aload_n 0, 1) := by decide +kernel
theorem dX1_become_1 : decode cX1_become 1 = .ok (.aload_n 1, 1) := by decide +kernel
theorem dX1_become_2 : decode cX1_become 2 = .ok (.getfield 9, 3) := by decide +kernel
theorem dX1_become_5 : decode cX1_become 5 = .ok (.putfield 9, 3) := by decide +kernel
theorem dX1_become_8 : decode cX1_become 8 = .ok (.aload_n 0, 1) := by decide +kernel
theorem dX1_become_9 : decode cX1_become 9 = .ok (.aload_n 1, 1) := by decide +kernel
theorem dX1_become_10 : decode cX1_become 10 = .ok (.getfield 15, 3) := by decide +kernel
theorem dX1_become_13 : decode cX1_become 13 = .ok (.putfield 15, 3) := by decide +kernel
theorem dX1_become_16 : decode cX1_become 16 = .ok (.aload_n 0, 1) := by decide +kernel
theorem dX1_become_17 : decode cX1_become 17 = .ok (.aload_n 1, 1) := by decide +kernel
theorem dX1_become_18 : decode cX1_become 18 = .ok (.getfield 18, 3) := by decide +kernel
theorem dX1_become_21 : decode cX1_become 21 = .ok (.putfield 18, 3) := by decide +kernel
theorem dX1_become_24 : decode cX1_become 24 = .ok (.aload_n 0, 1) := by decide +kernel
theorem dX1_become_25 : decode cX1_become 25 = .ok (.aload_n 1, 1) := by decide +kernel
theorem dX1_become_26 : decode cX1_become 26 = .ok (.getfield 21, 3) := by decide +kernel
theorem dX1_become_29 : decode cX1_become 29 = .ok (.putfield 21, 3) := by decide +kernel
theorem dX1_become_32 : decode cX1_become 32 = .ok (.aload_n 0, 1) := by decide +kernel
theorem dX1_become_33 : decode cX1_become 33 = .ok (.aload_n 1, 1) := by decide +kernel
theorem dX1_become_34 : decode cX1_become 34 = .ok (.getfield 24, 3) := by decide +kernel
theorem dX1_become_37 : decode cX1_become 37 = .ok (.putfield 24, 3) := by decide +kernel
theorem dX1_become_40 : decode cX1_become 40 = .ok (.return_, 1) := by decide +kernel
theorem dX1_lasts_0 : decode cX1_lasts 0 = .ok (.aload_n 0, 1) := by decide +kernel
theorem dX1_lasts_1 : decode cX1_lasts 1 = .ok (.getfield 9, 3) := by decide +kernel
theorem dX1_lasts_4 : decode cX1_lasts 4 = .ok (.tableswitch 50 1 5 #[36, 50, 36, 44, 47], 36) := by decide +kernel
theorem dX1_lasts_40 : decode cX1_lasts 40 = .ok (.bipush 20, 2) := by decide +kernel
theorem dX1_lasts_42 : decode cX1_lasts 42 = .ok (.aload_n 0, 1) := by decide +kernel
theorem dX1_lasts_43 : decode cX1_lasts 43 = .ok (.getfield 15, 3) := by decide +kernel
theorem dX1_lasts_46 : decode cX1_lasts 46 = .ok (.iadd, 1) := by decide +kernel
theorem dX1_lasts_47 : decode cX1_lasts 47 = .ok (.ireturn, 1) := by decide +kernel
theorem dX1_lasts_48 : decode cX1_lasts 48 = .ok (.bipush 10, 2) := by decide +kernel
theorem dX1_lasts_50 : decode cX1_lasts 50 = .ok (.ireturn, 1) := by decide +kernel
theorem dX1_lasts_51 : decode cX1_lasts 51 = .ok (.bipush 30, 2) := by decide +kernel
theorem dX1_lasts_53 : decode cX1_lasts 53 = .ok (.ireturn, 1) := by decide +kernel
theorem dX1_lasts_54 : decode cX1_lasts 54 = .ok (.bipush 20, 2) := by decide +kernel
theorem dX1_lasts_56 : decode cX1_lasts 56 = .ok (.ireturn, 1) := by decide +kernel
theorem dX1_showing_0 : decode cX1_showing 0 = .ok (.aload_n 0, 1) := by decide +kernel
theorem dX1_showing_1 : decode cX1_showing 1 = .ok (.getfield 24, 3) := by decide +kernel
theorem dX1_showing_4 : decode cX1_showing 4 = .ok (.iload_n 2, 1) := by decide +kernel
theorem dX1_showing_5 : decode cX1_showing 5 = .ok (.if_icmp .ne 7, 3) := by decide +kernel
theorem dX1_showing_8 : decode cX1_showing 8 = .ok (.iload_n 1, 1) := by decide +kernel
theorem dX1_showing_9 : decode cX1_showing 9 = .ok (.goto 6, 3) := by decide +kernel
theorem dX1_showing_12 : decode cX1_showing 12 = .ok (.iload_n 1, 1) := by decide +kernel
theorem dX1_showing_13 : decode cX1_showing 13 = .ok (.iconst 2, 1) := by decide +kernel
theorem dX1_showing_14 : decode cX1_showing 14 = .ok (.idiv, 1) := by decide +kernel
theorem dX1_showing_15 : decode cX1_showing 15 = .ok (.istore_n 3, 1) := by decide +kernel
theorem dX1_showing_16 : decode cX1_showing 16 = .ok (.aload_n 0, 1) := by decide +kernel
theorem dX1_showing_17 : decode cX1_showing 17 = .ok (.getfield 9, 3) := by decide +kernel
theorem dX1_showing_20 : decode cX1_showing 20 = .ok (.tableswitch 85 1 5 #[36, 61, 46, 61, 72], 36) := by decide +kernel
theorem dX1_showing_56 : decode cX1_showing 56 = .ok (.iload_n 3, 1) := by decide +kernel
theorem dX1_showing_57 : decode cX1_showing 57 = .ok (.iconst 2, 1) := by decide +kernel
theorem dX1_showing_58 : decode cX1_showing 58 = .ok (.idiv, 1) := by decide +kernel
theorem dX1_showing_59 : decode cX1_showing 59 = .ok (.iconst 0, 1) := by decide +kernel
theorem dX1_showing_60 : decode cX1_showing 60 = .ok (.bipush 100, 2) := by decide +kernel
theorem dX1_showing_62 : decode cX1_showing 62 = .ok (.invokestatic 27, 3) := by decide +kernel
theorem dX1_showing_65 : decode cX1_showing 65 = .ok (.ireturn, 1) := by decide +kernel
theorem dX1_showing_66 : decode cX1_showing 66 = .ok (.iload_n 3, 1) := by decide +kernel
theorem dX1_showing_67 : decode cX1_showing 67 = .ok (.iconst 2, 1) := by decide +kernel
theorem dX1_showing_68 : decode cX1_showing 68 = .ok (.idiv, 1) := by decide +kernel
theorem dX1_showing_69 : decode cX1_showing 69 = .ok (.aload_n 0, 1) := by decide +kernel
theorem dX1_showing_70 : decode cX1_showing 70 = .ok (.getfield 15, 3) := by decide +kernel
theorem dX1_showing_73 : decode cX1_showing 73 = .ok (.isub, 1) := by decide +kernel
theorem dX1_showing_74 : decode cX1_showing 74 = .ok (.iconst 0, 1) := by decide +kernel
theorem dX1_showing_75 : decode cX1_showing 75 = .ok (.bipush 100, 2) := by decide +kernel
theorem dX1_showing_77 : decode cX1_showing 77 = .ok (.invokestatic 27, 3) := by decide +kernel
theorem dX1_showing_80 : decode cX1_showing 80 = .ok (.ireturn, 1) := by decide +kernel
theorem dX1_showing_81 : decode cX1_showing 81 = .ok (.iload_n 3, 1) := by decide +kernel
theorem dX1_showing_82 : decode cX1_showing 82 = .ok (.bipush 20, 2) := by decide +kernel
theorem dX1_showing_84 : decode cX1_showing 84 = .ok (.iadd, 1) := by decide +kernel
theorem dX1_showing_85 : decode cX1_showing 85 = .ok (.iconst 0, 1) := by decide +kernel
theorem dX1_showing_86 : decode cX1_showing 86 = .ok (.bipush 100, 2) := by decide +kernel
theorem dX1_showing_88 : decode cX1_showing 88 = .ok (.invokestatic 27, 3) := by decide +kernel
theorem dX1_showing_91 : decode cX1_showing 91 = .ok (.ireturn, 1) := by decide +kernel
theorem dX1_showing_92 : decode cX1_showing 92 = .ok (.iload_n 3, 1) := by decide +kernel
theorem dX1_showing_93 : decode cX1_showing 93 = .ok (.aload_n 0, 1) := by decide +kernel
theorem dX1_showing_94 : decode cX1_showing 94 = .ok (.getfield 15, 3) := by decide +kernel
theorem dX1_showing_97 : decode cX1_showing 97 = .ok (.iadd, 1) := by decide +kernel
theorem dX1_showing_98 : decode cX1_showing 98 = .ok (.iconst 0, 1) := by decide +kernel
theorem dX1_showing_99 : decode cX1_showing 99 = .ok (.bipush 100, 2) := by decide +kernel
theorem dX1_showing_101 : decode cX1_showing 101 = .ok (.invokestatic 27, 3) := by decide +kernel
theorem dX1_showing_104 : decode cX1_showing 104 = .ok (.ireturn, 1) := by decide +kernel
theorem dX1_showing_105 : decode cX1_showing 105 = .ok (.iload_n 3, 1) := by decide +kernel
theorem dX1_showing_106 : decode cX1_showing 106 = .ok (.iconst 0, 1) := by decide +kernel
theorem dX1_showing_107 : decode cX1_showing 107 = .ok (.bipush 100, 2) := by decide +kernel
theorem dX1_showing_109 : decode cX1_showing 109 = .ok (.invokestatic 27, 3) := by decide +kernel
theorem dX1_showing_112 : decode cX1_showing 112 = .ok (.ireturn, 1) := by decide +kernel
theorem dX1_moving_0 : decode cX1_moving 0 = .ok (.aload_n 0, 1) := by decide +kernel
theorem dX1_moving_1 : decode cX1_moving 1 = .ok (.getfield 9, 3) := by decide +kernel
theorem dX1_moving_4 : decode cX1_moving 4 = .ok (.tableswitch 50 2 5 #[32, 36, 40, 46], 32) := by decide +kernel
theorem dX1_moving_36 : decode cX1_moving 36 = .ok (.iload_n 1, 1) := by decide +kernel
theorem dX1_moving_37 : decode cX1_moving 37 = .ok (.iconst 2, 1) := by decide +kernel
theorem dX1_moving_38 : decode cX1_moving 38 = .ok (.imul, 1) := by decide +kernel
theorem dX1_moving_39 : decode cX1_moving 39 = .ok (.ireturn, 1) := by decide +kernel
theorem dX1_moving_40 : decode cX1_moving 40 = .ok (.iload_n 1, 1) := by decide +kernel
theorem dX1_moving_41 : decode cX1_moving 41 = .ok (.iconst 1, 1) := by decide +kernel
theorem dX1_moving_42 : decode cX1_moving 42 = .ok (.iadd, 1) := by decide +kernel
theorem dX1_moving_43 : decode cX1_moving 43 = .ok (.ireturn, 1) := by decide +kernel
theorem dX1_moving_44 : decode cX1_moving 44 = .ok (.iload_n 1, 1) := by decide +kernel
theorem dX1_moving_45 : decode cX1_moving 45 = .ok (.iconst 2, 1) := by decide +kernel
theorem dX1_moving_46 : decode cX1_moving 46 = .ok (.imul, 1) := by decide +kernel
theorem dX1_moving_47 : decode cX1_moving 47 = .ok (.iconst 1, 1) := by decide +kernel
theorem dX1_moving_48 : decode cX1_moving 48 = .ok (.isub, 1) := by decide +kernel
theorem dX1_moving_49 : decode cX1_moving 49 = .ok (.ireturn, 1) := by decide +kernel
theorem dX1_moving_50 : decode cX1_moving 50 = .ok (.iload_n 1, 1) := by decide +kernel
theorem dX1_moving_51 : decode cX1_moving 51 = .ok (.iconst 2, 1) := by decide +kernel
theorem dX1_moving_52 : decode cX1_moving 52 = .ok (.idiv, 1) := by decide +kernel
theorem dX1_moving_53 : decode cX1_moving 53 = .ok (.ireturn, 1) := by decide +kernel
theorem dX1_moving_54 : decode cX1_moving 54 = .ok (.iload_n 1, 1) := by decide +kernel
theorem dX1_moving_55 : decode cX1_moving 55 = .ok (.ireturn, 1) := by decide +kernel
theorem dX1_isUnder_0 : decode cX1_isUnder 0 = .ok (.aload_n 0, 1) := by decide +kernel
theorem dX1_isUnder_1 : decode cX1_isUnder 1 = .ok (.getfield 9, 3) := by decide +kernel
theorem dX1_isUnder_4 : decode cX1_isUnder 4 = .ok (.istore_n 2, 1) := by decide +kernel
theorem dX1_isUnder_5 : decode cX1_isUnder 5 = .ok (.iconst 0, 1) := by decide +kernel
theorem dX1_isUnder_6 : decode cX1_isUnder 6 = .ok (.istore_n 3, 1) := by decide +kernel
theorem dX1_isUnder_7 : decode cX1_isUnder 7 = .ok (.iload_n 3, 1) := by decide +kernel
theorem dX1_isUnder_8 : decode cX1_isUnder 8 = .ok (.bipush 6, 2) := by decide +kernel
theorem dX1_isUnder_10 : decode cX1_isUnder 10 = .ok (.if_icmp .ge 34, 3) := by decide +kernel
theorem dX1_isUnder_13 : decode cX1_isUnder 13 = .ok (.iload_n 2, 1) := by decide +kernel
theorem dX1_isUnder_14 : decode cX1_isUnder 14 = .ok (.ifCond .lt 30, 3) := by decide +kernel
theorem dX1_isUnder_17 : decode cX1_isUnder 17 = .ok (.iload_n 2, 1) := by decide +kernel
theorem dX1_isUnder_18 : decode cX1_isUnder 18 = .ok (.getstatic 31, 3) := by decide +kernel
theorem dX1_isUnder_21 : decode cX1_isUnder 21 = .ok (.arraylength, 1) := by decide +kernel
theorem dX1_isUnder_22 : decode cX1_isUnder 22 = .ok (.if_icmp .ge 22, 3) := by decide +kernel
theorem dX1_isUnder_25 : decode cX1_isUnder 25 = .ok (.iload_n 2, 1) := by decide +kernel
theorem dX1_isUnder_26 : decode cX1_isUnder 26 = .ok (.iload_n 1, 1) := by decide +kernel
theorem dX1_isUnder_27 : decode cX1_isUnder 27 = .ok (.if_icmp .ne 5, 3) := by decide +kernel
theorem dX1_isUnder_30 : decode cX1_isUnder 30 = .ok (.iconst 1, 1) := by decide +kernel
theorem dX1_isUnder_31 : decode cX1_isUnder 31 = .ok (.ireturn, 1) := by decide +kernel
theorem dX1_isUnder_32 : decode cX1_isUnder 32 = .ok (.getstatic 31, 3) := by decide +kernel
theorem dX1_isUnder_35 : decode cX1_isUnder 35 = .ok (.iload_n 2, 1) := by decide +kernel
theorem dX1_isUnder_36 : decode cX1_isUnder 36 = .ok (.iaload, 1) := by decide +kernel
theorem dX1_isUnder_37 : decode cX1_isUnder 37 = .ok (.istore_n 2, 1) := by decide +kernel
theorem dX1_isUnder_38 : decode cX1_isUnder 38 = .ok (.iinc 3 1, 3) := by decide +kernel
theorem dX1_isUnder_41 : decode cX1_isUnder 41 = .ok (.goto (-34), 3) := by decide +kernel
theorem dX1_isUnder_44 : decode cX1_isUnder 44 = .ok (.iconst 0, 1) := by decide +kernel
theorem dX1_isUnder_45 : decode cX1_isUnder 45 = .ok (.ireturn, 1) := by decide +kernel
theorem dX2_init_0 : decode cX2_init 0 = .ok (.aload_n 0, 1) := by decide +kernel
theorem dX2_init_1 : decode cX2_init 1 = .ok (.invokespecial 3, 3) := by decide +kernel
theorem dX2_init_4 : decode cX2_init 4 = .ok (.aload_n 0, 1) := by decide +kernel
theorem dX2_init_5 : decode cX2_init 5 = .ok (.bipush 6, 2) := by decide +kernel
theorem dX2_init_7 : decode cX2_init 7 = .ok (.anewarray 9, 3) := by decide +kernel
theorem dX2_init_10 : decode cX2_init 10 = .ok (.putfield 11, 3) := by decide +kernel
theorem dX2_init_13 : decode cX2_init 13 = .ok (.aload_n 0, 1) := by decide +kernel
theorem dX2_init_14 : decode cX2_init 14 = .ok (.new 17, 3) := by decide +kernel
theorem dX2_init_17 : decode cX2_init 17 = .ok (.dup, 1) := by decide +kernel
theorem dX2_init_18 : decode cX2_init 18 = .ok (.invokespecial 19, 3) := by decide +kernel
theorem dX2_init_21 : decode cX2_init 21 = .ok (.putfield 20, 3) := by decide +kernel
theorem dX2_init_24 : decode cX2_init 24 = .ok (.iconst 0, 1) := by decide +kernel
theorem dX2_init_25 : decode cX2_init 25 = .ok (.istore_n 1, 1) := by decide +kernel
theorem dX2_init_26 : decode cX2_init 26 = .ok (.iload_n 1, 1) := by decide +kernel
theorem dX2_init_27 : decode cX2_init 27 = .ok (.aload_n 0, 1) := by decide +kernel
theorem dX2_init_28 : decode cX2_init 28 = .ok (.getfield 11, 3) := by decide +kernel
theorem dX2_init_31 : decode cX2_init 31 = .ok (.arraylength, 1) := by decide +kernel
theorem dX2_init_32 : decode cX2_init 32 = .ok (.if_icmp .ge 22, 3) := by decide +kernel
theorem dX2_init_35 : decode cX2_init 35 = .ok (.aload_n 0, 1) := by decide +kernel
theorem dX2_init_36 : decode cX2_init 36 = .ok (.getfield 11, 3) := by decide +kernel
theorem dX2_init_39 : decode cX2_init 39 = .ok (.iload_n 1, 1) := by decide +kernel
theorem dX2_init_40 : decode cX2_init 40 = .ok (.new 9, 3) := by decide +kernel
theorem dX2_init_43 : decode cX2_init 43 = .ok (.dup, 1) := by decide +kernel
theorem dX2_init_44 : decode cX2_init 44 = .ok (.invokespecial 24, 3) := by decide +kernel
theorem dX2_init_47 : decode cX2_init 47 = .ok (.aastore, 1) := by decide +kernel
theorem dX2_init_48 : decode cX2_init 48 = .ok (.iinc 1 1, 3) := by decide +kernel
theorem dX2_init_51 : decode cX2_init 51 = .ok (.goto (-25), 3) := by decide +kernel
theorem dX2_init_54 : decode cX2_init 54 = .ok (.return_, 1) := by decide +kernel
theorem dX2_keep_0 : decode cX2_keep 0 = .ok (.aload_n 0, 1) := by decide +kernel
theorem dX2_keep_1 : decode cX2_keep 1 = .ok (.getfield 20, 3) := by decide +kernel
theorem dX2_keep_4 : decode cX2_keep 4 = .ok (.aload_n 1, 1) := by decide +kernel
theorem dX2_keep_5 : decode cX2_keep 5 = .ok (.getfield 25, 3) := by decide +kernel
theorem dX2_keep_8 : decode cX2_keep 8 = .ok (.aload_n 1, 1) := by decide +kernel
theorem dX2_keep_9 : decode cX2_keep 9 = .ok (.getfield 29, 3) := by decide +kernel
theorem dX2_keep_12 : decode cX2_keep 12 = .ok (.aload_n 1, 1) := by decide +kernel
theorem dX2_keep_13 : decode cX2_keep 13 = .ok (.getfield 32, 3) := by decide +kernel
theorem dX2_keep_16 : decode cX2_keep 16 = .ok (.invokevirtual 35, 3) := by decide +kernel
theorem dX2_keep_19 : decode cX2_keep 19 = .ok (.aload_n 0, 1) := by decide +kernel
theorem dX2_keep_20 : decode cX2_keep 20 = .ok (.iload_n 2, 1) := by decide +kernel
theorem dX2_keep_21 : decode cX2_keep 21 = .ok (.putfield 39, 3) := by decide +kernel
theorem dX2_keep_24 : decode cX2_keep 24 = .ok (.aload_n 0, 1) := by decide +kernel
theorem dX2_keep_25 : decode cX2_keep 25 = .ok (.iload_n 3, 1) := by decide +kernel
theorem dX2_keep_26 : decode cX2_keep 26 = .ok (.putfield 42, 3) := by decide +kernel
theorem dX2_keep_29 : decode cX2_keep 29 = .ok (.aload_n 0, 1) := by decide +kernel
theorem dX2_keep_30 : decode cX2_keep 30 = .ok (.iconst 1, 1) := by decide +kernel
theorem dX2_keep_31 : decode cX2_keep 31 = .ok (.putfield 45, 3) := by decide +kernel
theorem dX2_keep_34 : decode cX2_keep 34 = .ok (.return_, 1) := by decide +kernel
theorem dX2_keptAt_0 : decode cX2_keptAt 0 = .ok (.iload_n 1, 1) := by decide +kernel
theorem dX2_keptAt_1 : decode cX2_keptAt 1 = .ok (.ifCond .lt 21, 3) := by decide +kernel
theorem dX2_keptAt_4 : decode cX2_keptAt 4 = .ok (.iload_n 1, 1) := by decide +kernel
theorem dX2_keptAt_5 : decode cX2_keptAt 5 = .ok (.aload_n 0, 1) := by decide +kernel
theorem dX2_keptAt_6 : decode cX2_keptAt 6 = .ok (.getfield 11, 3) := by decide +kernel
theorem dX2_keptAt_9 : decode cX2_keptAt 9 = .ok (.arraylength, 1) := by decide +kernel
theorem dX2_keptAt_10 : decode cX2_keptAt 10 = .ok (.if_icmp .ge 12, 3) := by decide +kernel
theorem dX2_keptAt_13 : decode cX2_keptAt 13 = .ok (.aload_n 0, 1) := by decide +kernel
theorem dX2_keptAt_14 : decode cX2_keptAt 14 = .ok (.getfield 11, 3) := by decide +kernel
theorem dX2_keptAt_17 : decode cX2_keptAt 17 = .ok (.iload_n 1, 1) := by decide +kernel
theorem dX2_keptAt_18 : decode cX2_keptAt 18 = .ok (.aaload, 1) := by decide +kernel
theorem dX2_keptAt_19 : decode cX2_keptAt 19 = .ok (.goto 4, 3) := by decide +kernel
theorem dX2_keptAt_22 : decode cX2_keptAt 22 = .ok (.aconst_null, 1) := by decide +kernel
theorem dX2_keptAt_23 : decode cX2_keptAt 23 = .ok (.areturn, 1) := by decide +kernel
theorem dX3_init_0 : decode cX3_init 0 = .ok (.aload_n 0, 1) := by decide +kernel
theorem dX3_init_1 : decode cX3_init 1 = .ok (.invokespecial 3, 3) := by decide +kernel
theorem dX3_init_4 : decode cX3_init 4 = .ok (.aload_n 0, 1) := by decide +kernel
theorem dX3_init_5 : decode cX3_init 5 = .ok (.new 9, 3) := by decide +kernel
theorem dX3_init_8 : decode cX3_init 8 = .ok (.dup, 1) := by decide +kernel
theorem dX3_init_9 : decode cX3_init 9 = .ok (.invokespecial 11, 3) := by decide +kernel
theorem dX3_init_12 : decode cX3_init 12 = .ok (.putfield 12, 3) := by decide +kernel
theorem dX3_init_15 : decode cX3_init 15 = .ok (.return_, 1) := by decide +kernel
theorem dX3_read_0 : decode cX3_read 0 = .ok (.aload_n 0, 1) := by decide +kernel
theorem dX3_read_1 : decode cX3_read 1 = .ok (.getfield 12, 3) := by decide +kernel
theorem dX3_read_4 : decode cX3_read 4 = .ok (.invokevirtual 18, 3) := by decide +kernel
theorem dX3_read_7 : decode cX3_read 7 = .ok (.aload_n 0, 1) := by decide +kernel
theorem dX3_read_8 : decode cX3_read 8 = .ok (.iconst 0, 1) := by decide +kernel
theorem dX3_read_9 : decode cX3_read 9 = .ok (.putfield 21, 3) := by decide +kernel
theorem dX3_read_12 : decode cX3_read 12 = .ok (.aload_n 1, 1) := by decide +kernel
theorem dX3_read_13 : decode cX3_read 13 = .ok (.invokevirtual 25, 3) := by decide +kernel
theorem dX3_read_16 : decode cX3_read 16 = .ok (.aload_n 0, 1) := by decide +kernel
theorem dX3_read_17 : decode cX3_read 17 = .ok (.aload_n 1, 1) := by decide +kernel
theorem dX3_read_18 : decode cX3_read 18 = .ok (.bipush 7, 2) := by decide +kernel
theorem dX3_read_20 : decode cX3_read 20 = .ok (.iconst 0, 1) := by decide +kernel
theorem dX3_read_21 : decode cX3_read 21 = .ok (.invokevirtual 30, 3) := by decide +kernel
theorem dX3_read_24 : decode cX3_read 24 = .ok (.ifCond .eq 45, 3) := by decide +kernel
theorem dX3_read_27 : decode cX3_read 27 = .ok (.aload_n 0, 1) := by decide +kernel
theorem dX3_read_28 : decode cX3_read 28 = .ok (.aload_n 1, 1) := by decide +kernel
theorem dX3_read_29 : decode cX3_read 29 = .ok (.bipush 8, 2) := by decide +kernel
theorem dX3_read_31 : decode cX3_read 31 = .ok (.iconst 1, 1) := by decide +kernel
theorem dX3_read_32 : decode cX3_read 32 = .ok (.invokevirtual 30, 3) := by decide +kernel
theorem dX3_read_35 : decode cX3_read 35 = .ok (.ifCond .eq 34, 3) := by decide +kernel
theorem dX3_read_38 : decode cX3_read 38 = .ok (.aload_n 0, 1) := by decide +kernel
theorem dX3_read_39 : decode cX3_read 39 = .ok (.aload_n 1, 1) := by decide +kernel
theorem dX3_read_40 : decode cX3_read 40 = .ok (.bipush 9, 2) := by decide +kernel
theorem dX3_read_42 : decode cX3_read 42 = .ok (.iconst 2, 1) := by decide +kernel
theorem dX3_read_43 : decode cX3_read 43 = .ok (.invokevirtual 30, 3) := by decide +kernel
theorem dX3_read_46 : decode cX3_read 46 = .ok (.ifCond .eq 23, 3) := by decide +kernel
theorem dX3_read_49 : decode cX3_read 49 = .ok (.aload_n 0, 1) := by decide +kernel
theorem dX3_read_50 : decode cX3_read 50 = .ok (.getfield 12, 3) := by decide +kernel
theorem dX3_read_53 : decode cX3_read 53 = .ok (.aload_n 0, 1) := by decide +kernel
theorem dX3_read_54 : decode cX3_read 54 = .ok (.getfield 21, 3) := by decide +kernel
theorem dX3_read_57 : decode cX3_read 57 = .ok (.invokevirtual 34, 3) := by decide +kernel
theorem dX3_read_60 : decode cX3_read 60 = .ok (.bipush 14, 2) := by decide +kernel
theorem dX3_read_62 : decode cX3_read 62 = .ok (.if_icmp .ne 7, 3) := by decide +kernel
theorem dX3_read_65 : decode cX3_read 65 = .ok (.iconst 1, 1) := by decide +kernel
theorem dX3_read_66 : decode cX3_read 66 = .ok (.goto 4, 3) := by decide +kernel
theorem dX3_read_69 : decode cX3_read 69 = .ok (.iconst 0, 1) := by decide +kernel
theorem dX3_read_70 : decode cX3_read 70 = .ok (.istore_n 2, 1) := by decide +kernel
theorem dX3_read_71 : decode cX3_read 71 = .ok (.iload_n 2, 1) := by decide +kernel
theorem dX3_read_72 : decode cX3_read 72 = .ok (.ifCond .eq 7, 3) := by decide +kernel
theorem dX3_read_75 : decode cX3_read 75 = .ok (.iconst (-1), 1) := by decide +kernel
theorem dX3_read_76 : decode cX3_read 76 = .ok (.goto 14, 3) := by decide +kernel
theorem dX3_read_79 : decode cX3_read 79 = .ok (.aload_n 0, 1) := by decide +kernel
theorem dX3_read_80 : decode cX3_read 80 = .ok (.getfield 12, 3) := by decide +kernel
theorem dX3_read_83 : decode cX3_read 83 = .ok (.aload_n 0, 1) := by decide +kernel
theorem dX3_read_84 : decode cX3_read 84 = .ok (.getfield 21, 3) := by decide +kernel
theorem dX3_read_87 : decode cX3_read 87 = .ok (.invokevirtual 38, 3) := by decide +kernel
theorem dX3_read_90 : decode cX3_read 90 = .ok (.ireturn, 1) := by decide +kernel
theorem dX3_readPart_0 : decode cX3_readPart 0 = .ok (.aload_n 0, 1) := by decide +kernel
theorem dX3_readPart_1 : decode cX3_readPart 1 = .ok (.iload_n 2, 1) := by decide +kernel
theorem dX3_readPart_2 : decode cX3_readPart 2 = .ok (.invokevirtual 41, 3) := by decide +kernel
theorem dX3_readPart_5 : decode cX3_readPart 5 = .ok (.ifCond .eq 21, 3) := by decide +kernel
theorem dX3_readPart_8 : decode cX3_readPart 8 = .ok (.aload_n 0, 1) := by decide +kernel
theorem dX3_readPart_9 : decode cX3_readPart 9 = .ok (.aload_n 1, 1) := by decide +kernel
theorem dX3_readPart_10 : decode cX3_readPart 10 = .ok (.iconst 0, 1) := by decide +kernel
theorem dX3_readPart_11 : decode cX3_readPart 11 = .ok (.invokevirtual 45, 3) := by decide +kernel
theorem dX3_readPart_14 : decode cX3_readPart 14 = .ok (.ifCond .eq 12, 3) := by decide +kernel
theorem dX3_readPart_17 : decode cX3_readPart 17 = .ok (.aload_n 0, 1) := by decide +kernel
theorem dX3_readPart_18 : decode cX3_readPart 18 = .ok (.bipush 59, 2) := by decide +kernel
theorem dX3_readPart_20 : decode cX3_readPart 20 = .ok (.invokevirtual 41, 3) := by decide +kernel
theorem dX3_readPart_23 : decode cX3_readPart 23 = .ok (.ifCond .ne 5, 3) := by decide +kernel
theorem dX3_readPart_26 : decode cX3_readPart 26 = .ok (.iconst 0, 1) := by decide +kernel
theorem dX3_readPart_27 : decode cX3_readPart 27 = .ok (.ireturn, 1) := by decide +kernel
theorem dX3_readPart_28 : decode cX3_readPart 28 = .ok (.aload_n 1, 1) := by decide +kernel
theorem dX3_readPart_29 : decode cX3_readPart 29 = .ok (.iload_n 3, 1) := by decide +kernel
theorem dX3_readPart_30 : decode cX3_readPart 30 = .ok (.invokevirtual 49, 3) := by decide +kernel
theorem dX3_readPart_33 : decode cX3_readPart 33 = .ok (.iconst 1, 1) := by decide +kernel
theorem dX3_readPart_34 : decode cX3_readPart 34 = .ok (.ireturn, 1) := by decide +kernel
theorem dX3_passed_0 : decode cX3_passed 0 = .ok (.aload_n 0, 1) := by decide +kernel
theorem dX3_passed_1 : decode cX3_passed 1 = .ok (.getfield 12, 3) := by decide +kernel
theorem dX3_passed_4 : decode cX3_passed 4 = .ok (.aload_n 0, 1) := by decide +kernel
theorem dX3_passed_5 : decode cX3_passed 5 = .ok (.getfield 21, 3) := by decide +kernel
theorem dX3_passed_8 : decode cX3_passed 8 = .ok (.invokevirtual 34, 3) := by decide +kernel
theorem dX3_passed_11 : decode cX3_passed 11 = .ok (.iload_n 1, 1) := by decide +kernel
theorem dX3_passed_12 : decode cX3_passed 12 = .ok (.if_icmp .eq 5, 3) := by decide +kernel
theorem dX3_passed_15 : decode cX3_passed 15 = .ok (.iconst 0, 1) := by decide +kernel
theorem dX3_passed_16 : decode cX3_passed 16 = .ok (.ireturn, 1) := by decide +kernel
theorem dX3_passed_17 : decode cX3_passed 17 = .ok (.aload_n 0, 1) := by decide +kernel
theorem dX3_passed_18 : decode cX3_passed 18 = .ok (.dup, 1) := by decide +kernel
theorem dX3_passed_19 : decode cX3_passed 19 = .ok (.getfield 21, 3) := by decide +kernel
theorem dX3_passed_22 : decode cX3_passed 22 = .ok (.iconst 1, 1) := by decide +kernel
theorem dX3_passed_23 : decode cX3_passed 23 = .ok (.iadd, 1) := by decide +kernel
theorem dX3_passed_24 : decode cX3_passed 24 = .ok (.putfield 21, 3) := by decide +kernel
theorem dX3_passed_27 : decode cX3_passed 27 = .ok (.iconst 1, 1) := by decide +kernel
theorem dX3_passed_28 : decode cX3_passed 28 = .ok (.ireturn, 1) := by decide +kernel
theorem dX3_readOr_0 : decode cX3_readOr 0 = .ok (.aload_n 0, 1) := by decide +kernel
theorem dX3_readOr_1 : decode cX3_readOr 1 = .ok (.aload_n 1, 1) := by decide +kernel
theorem dX3_readOr_2 : decode cX3_readOr 2 = .ok (.iload_n 2, 1) := by decide +kernel
theorem dX3_readOr_3 : decode cX3_readOr 3 = .ok (.invokevirtual 53, 3) := by decide +kernel
theorem dX3_readOr_6 : decode cX3_readOr 6 = .ok (.istore_n 3, 1) := by decide +kernel
theorem dX3_readOr_7 : decode cX3_readOr 7 = .ok (.iconst 0, 1) := by decide +kernel
theorem dX3_readOr_8 : decode cX3_readOr 8 = .ok (.istore 4, 2) := by decide +kernel
theorem dX3_readOr_10 : decode cX3_readOr 10 = .ok (.iload 4, 2) := by decide +kernel
theorem dX3_readOr_12 : decode cX3_readOr 12 = .ok (.sipush 160, 3) := by decide +kernel
theorem dX3_readOr_15 : decode cX3_readOr 15 = .ok (.if_icmp .ge 35, 3) := by decide +kernel
theorem dX3_readOr_18 : decode cX3_readOr 18 = .ok (.iload_n 3, 1) := by decide +kernel
theorem dX3_readOr_19 : decode cX3_readOr 19 = .ok (.ifCond .eq 31, 3) := by decide +kernel
theorem dX3_readOr_22 : decode cX3_readOr 22 = .ok (.aload_n 0, 1) := by decide +kernel
theorem dX3_readOr_23 : decode cX3_readOr 23 = .ok (.bipush 10, 2) := by decide +kernel
theorem dX3_readOr_25 : decode cX3_readOr 25 = .ok (.invokevirtual 41, 3) := by decide +kernel
theorem dX3_readOr_28 : decode cX3_readOr 28 = .ok (.ifCond .eq 22, 3) := by decide +kernel
theorem dX3_readOr_31 : decode cX3_readOr 31 = .ok (.aload_n 0, 1) := by decide +kernel
theorem dX3_readOr_32 : decode cX3_readOr 32 = .ok (.aload_n 1, 1) := by decide +kernel
theorem dX3_readOr_33 : decode cX3_readOr 33 = .ok (.iload_n 2, 1) := by decide +kernel
theorem dX3_readOr_34 : decode cX3_readOr 34 = .ok (.invokevirtual 53, 3) := by decide +kernel
theorem dX3_readOr_37 : decode cX3_readOr 37 = .ok (.istore_n 3, 1) := by decide +kernel
theorem dX3_readOr_38 : decode cX3_readOr 38 = .ok (.aload_n 1, 1) := by decide +kernel
theorem dX3_readOr_39 : decode cX3_readOr 39 = .ok (.bipush (-10), 2) := by decide +kernel
theorem dX3_readOr_41 : decode cX3_readOr 41 = .ok (.invokevirtual 56, 3) := by decide +kernel
theorem dX3_readOr_44 : decode cX3_readOr 44 = .ok (.iinc 4 1, 3) := by decide +kernel
theorem dX3_readOr_47 : decode cX3_readOr 47 = .ok (.goto (-37), 3) := by decide +kernel
theorem dX3_readOr_50 : decode cX3_readOr 50 = .ok (.iload_n 3, 1) := by decide +kernel
theorem dX3_readOr_51 : decode cX3_readOr 51 = .ok (.ireturn, 1) := by decide +kernel
theorem dX3_readAnd_0 : decode cX3_readAnd 0 = .ok (.aload_n 0, 1) := by decide +kernel
theorem dX3_readAnd_1 : decode cX3_readAnd 1 = .ok (.aload_n 1, 1) := by decide +kernel
theorem dX3_readAnd_2 : decode cX3_readAnd 2 = .ok (.iload_n 2, 1) := by decide +kernel
theorem dX3_readAnd_3 : decode cX3_readAnd 3 = .ok (.invokevirtual 59, 3) := by decide +kernel
theorem dX3_readAnd_6 : decode cX3_readAnd 6 = .ok (.istore_n 3, 1) := by decide +kernel
theorem dX3_readAnd_7 : decode cX3_readAnd 7 = .ok (.iconst 0, 1) := by decide +kernel
theorem dX3_readAnd_8 : decode cX3_readAnd 8 = .ok (.istore 4, 2) := by decide +kernel
theorem dX3_readAnd_10 : decode cX3_readAnd 10 = .ok (.iload 4, 2) := by decide +kernel
theorem dX3_readAnd_12 : decode cX3_readAnd 12 = .ok (.sipush 160, 3) := by decide +kernel
theorem dX3_readAnd_15 : decode cX3_readAnd 15 = .ok (.if_icmp .ge 35, 3) := by decide +kernel
theorem dX3_readAnd_18 : decode cX3_readAnd 18 = .ok (.iload_n 3, 1) := by decide +kernel
theorem dX3_readAnd_19 : decode cX3_readAnd 19 = .ok (.ifCond .eq 31, 3) := by decide +kernel
theorem dX3_readAnd_22 : decode cX3_readAnd 22 = .ok (.aload_n 0, 1) := by decide +kernel
theorem dX3_readAnd_23 : decode cX3_readAnd 23 = .ok (.bipush 11, 2) := by decide +kernel
theorem dX3_readAnd_25 : decode cX3_readAnd 25 = .ok (.invokevirtual 41, 3) := by decide +kernel
theorem dX3_readAnd_28 : decode cX3_readAnd 28 = .ok (.ifCond .eq 22, 3) := by decide +kernel
theorem dX3_readAnd_31 : decode cX3_readAnd 31 = .ok (.aload_n 0, 1) := by decide +kernel
theorem dX3_readAnd_32 : decode cX3_readAnd 32 = .ok (.aload_n 1, 1) := by decide +kernel
theorem dX3_readAnd_33 : decode cX3_readAnd 33 = .ok (.iload_n 2, 1) := by decide +kernel
theorem dX3_readAnd_34 : decode cX3_readAnd 34 = .ok (.invokevirtual 59, 3) := by decide +kernel
theorem dX3_readAnd_37 : decode cX3_readAnd 37 = .ok (.istore_n 3, 1) := by decide +kernel
theorem dX3_readAnd_38 : decode cX3_readAnd 38 = .ok (.aload_n 1, 1) := by decide +kernel
theorem dX3_readAnd_39 : decode cX3_readAnd 39 = .ok (.bipush (-11), 2) := by decide +kernel
theorem dX3_readAnd_41 : decode cX3_readAnd 41 = .ok (.invokevirtual 56, 3) := by decide +kernel
theorem dX3_readAnd_44 : decode cX3_readAnd 44 = .ok (.iinc 4 1, 3) := by decide +kernel
theorem dX3_readAnd_47 : decode cX3_readAnd 47 = .ok (.goto (-37), 3) := by decide +kernel
theorem dX3_readAnd_50 : decode cX3_readAnd 50 = .ok (.iload_n 3, 1) := by decide +kernel
theorem dX3_readAnd_51 : decode cX3_readAnd 51 = .ok (.ireturn, 1) := by decide +kernel
theorem dX3_readNot_0 : decode cX3_readNot 0 = .ok (.aload_n 0, 1) := by decide +kernel
theorem dX3_readNot_1 : decode cX3_readNot 1 = .ok (.getfield 12, 3) := by decide +kernel
theorem dX3_readNot_4 : decode cX3_readNot 4 = .ok (.aload_n 0, 1) := by decide +kernel
theorem dX3_readNot_5 : decode cX3_readNot 5 = .ok (.getfield 21, 3) := by decide +kernel
theorem dX3_readNot_8 : decode cX3_readNot 8 = .ok (.invokevirtual 34, 3) := by decide +kernel
theorem dX3_readNot_11 : decode cX3_readNot 11 = .ok (.bipush 12, 2) := by decide +kernel
theorem dX3_readNot_13 : decode cX3_readNot 13 = .ok (.if_icmp .ne 37, 3) := by decide +kernel
theorem dX3_readNot_16 : decode cX3_readNot 16 = .ok (.iload_n 2, 1) := by decide +kernel
theorem dX3_readNot_17 : decode cX3_readNot 17 = .ok (.iconst 5, 1) := by decide +kernel
theorem dX3_readNot_18 : decode cX3_readNot 18 = .ok (.if_icmp .lt 5, 3) := by decide +kernel
theorem dX3_readNot_21 : decode cX3_readNot 21 = .ok (.iconst 0, 1) := by decide +kernel
theorem dX3_readNot_22 : decode cX3_readNot 22 = .ok (.ireturn, 1) := by decide +kernel
theorem dX3_readNot_23 : decode cX3_readNot 23 = .ok (.aload_n 0, 1) := by decide +kernel
theorem dX3_readNot_24 : decode cX3_readNot 24 = .ok (.dup, 1) := by decide +kernel
theorem dX3_readNot_25 : decode cX3_readNot 25 = .ok (.getfield 21, 3) := by decide +kernel
theorem dX3_readNot_28 : decode cX3_readNot 28 = .ok (.iconst 1, 1) := by decide +kernel
theorem dX3_readNot_29 : decode cX3_readNot 29 = .ok (.iadd, 1) := by decide +kernel
theorem dX3_readNot_30 : decode cX3_readNot 30 = .ok (.putfield 21, 3) := by decide +kernel
theorem dX3_readNot_33 : decode cX3_readNot 33 = .ok (.aload_n 0, 1) := by decide +kernel
theorem dX3_readNot_34 : decode cX3_readNot 34 = .ok (.aload_n 1, 1) := by decide +kernel
theorem dX3_readNot_35 : decode cX3_readNot 35 = .ok (.iload_n 2, 1) := by decide +kernel
theorem dX3_readNot_36 : decode cX3_readNot 36 = .ok (.iconst 1, 1) := by decide +kernel
theorem dX3_readNot_37 : decode cX3_readNot 37 = .ok (.iadd, 1) := by decide +kernel
theorem dX3_readNot_38 : decode cX3_readNot 38 = .ok (.invokevirtual 59, 3) := by decide +kernel
theorem dX3_readNot_41 : decode cX3_readNot 41 = .ok (.istore_n 3, 1) := by decide +kernel
theorem dX3_readNot_42 : decode cX3_readNot 42 = .ok (.aload_n 1, 1) := by decide +kernel
theorem dX3_readNot_43 : decode cX3_readNot 43 = .ok (.bipush (-12), 2) := by decide +kernel
theorem dX3_readNot_45 : decode cX3_readNot 45 = .ok (.invokevirtual 56, 3) := by decide +kernel
theorem dX3_readNot_48 : decode cX3_readNot 48 = .ok (.iload_n 3, 1) := by decide +kernel
theorem dX3_readNot_49 : decode cX3_readNot 49 = .ok (.ireturn, 1) := by decide +kernel
theorem dX3_readNot_50 : decode cX3_readNot 50 = .ok (.aload_n 0, 1) := by decide +kernel
theorem dX3_readNot_51 : decode cX3_readNot 51 = .ok (.aload_n 1, 1) := by decide +kernel
theorem dX3_readNot_52 : decode cX3_readNot 52 = .ok (.iload_n 2, 1) := by decide +kernel
theorem dX3_readNot_53 : decode cX3_readNot 53 = .ok (.invokevirtual 62, 3) := by decide +kernel
theorem dX3_readNot_56 : decode cX3_readNot 56 = .ok (.ifCond .ne 5, 3) := by decide +kernel
theorem dX3_readNot_59 : decode cX3_readNot 59 = .ok (.iconst 0, 1) := by decide +kernel
theorem dX3_readNot_60 : decode cX3_readNot 60 = .ok (.ireturn, 1) := by decide +kernel
theorem dX3_readNot_61 : decode cX3_readNot 61 = .ok (.aload_n 0, 1) := by decide +kernel
theorem dX3_readNot_62 : decode cX3_readNot 62 = .ok (.getfield 12, 3) := by decide +kernel
theorem dX3_readNot_65 : decode cX3_readNot 65 = .ok (.aload_n 0, 1) := by decide +kernel
theorem dX3_readNot_66 : decode cX3_readNot 66 = .ok (.getfield 21, 3) := by decide +kernel
theorem dX3_readNot_69 : decode cX3_readNot 69 = .ok (.invokevirtual 34, 3) := by decide +kernel
theorem dX3_readNot_72 : decode cX3_readNot 72 = .ok (.istore_n 3, 1) := by decide +kernel
theorem dX3_readNot_73 : decode cX3_readNot 73 = .ok (.iload_n 3, 1) := by decide +kernel
theorem dX3_readNot_74 : decode cX3_readNot 74 = .ok (.bipush 60, 2) := by decide +kernel
theorem dX3_readNot_76 : decode cX3_readNot 76 = .ok (.if_icmp .eq 11, 3) := by decide +kernel
theorem dX3_readNot_79 : decode cX3_readNot 79 = .ok (.iload_n 3, 1) := by decide +kernel
theorem dX3_readNot_80 : decode cX3_readNot 80 = .ok (.bipush 61, 2) := by decide +kernel
theorem dX3_readNot_82 : decode cX3_readNot 82 = .ok (.if_icmp .eq 5, 3) := by decide +kernel
theorem dX3_readNot_85 : decode cX3_readNot 85 = .ok (.iconst 1, 1) := by decide +kernel
theorem dX3_readNot_86 : decode cX3_readNot 86 = .ok (.ireturn, 1) := by decide +kernel
theorem dX3_readNot_87 : decode cX3_readNot 87 = .ok (.aload_n 0, 1) := by decide +kernel
theorem dX3_readNot_88 : decode cX3_readNot 88 = .ok (.dup, 1) := by decide +kernel
theorem dX3_readNot_89 : decode cX3_readNot 89 = .ok (.getfield 21, 3) := by decide +kernel
theorem dX3_readNot_92 : decode cX3_readNot 92 = .ok (.iconst 1, 1) := by decide +kernel
theorem dX3_readNot_93 : decode cX3_readNot 93 = .ok (.iadd, 1) := by decide +kernel
theorem dX3_readNot_94 : decode cX3_readNot 94 = .ok (.putfield 21, 3) := by decide +kernel
theorem dX3_readNot_97 : decode cX3_readNot 97 = .ok (.aload_n 0, 1) := by decide +kernel
theorem dX3_readNot_98 : decode cX3_readNot 98 = .ok (.aload_n 1, 1) := by decide +kernel
theorem dX3_readNot_99 : decode cX3_readNot 99 = .ok (.iload_n 2, 1) := by decide +kernel
theorem dX3_readNot_100 : decode cX3_readNot 100 = .ok (.invokevirtual 62, 3) := by decide +kernel
theorem dX3_readNot_103 : decode cX3_readNot 103 = .ok (.istore 4, 2) := by decide +kernel
theorem dX3_readNot_105 : decode cX3_readNot 105 = .ok (.aload_n 1, 1) := by decide +kernel
theorem dX3_readNot_106 : decode cX3_readNot 106 = .ok (.iload_n 3, 1) := by decide +kernel
theorem dX3_readNot_107 : decode cX3_readNot 107 = .ok (.ineg, 1) := by decide +kernel
theorem dX3_readNot_108 : decode cX3_readNot 108 = .ok (.invokevirtual 56, 3) := by decide +kernel
theorem dX3_readNot_111 : decode cX3_readNot 111 = .ok (.iload 4, 2) := by decide +kernel
theorem dX3_readNot_113 : decode cX3_readNot 113 = .ok (.ireturn, 1) := by decide +kernel
theorem dX3_readSum_0 : decode cX3_readSum 0 = .ok (.aload_n 0, 1) := by decide +kernel
theorem dX3_readSum_1 : decode cX3_readSum 1 = .ok (.aload_n 1, 1) := by decide +kernel
theorem dX3_readSum_2 : decode cX3_readSum 2 = .ok (.iload_n 2, 1) := by decide +kernel
theorem dX3_readSum_3 : decode cX3_readSum 3 = .ok (.invokevirtual 65, 3) := by decide +kernel
theorem dX3_readSum_6 : decode cX3_readSum 6 = .ok (.istore_n 3, 1) := by decide +kernel
theorem dX3_readSum_7 : decode cX3_readSum 7 = .ok (.iconst 0, 1) := by decide +kernel
theorem dX3_readSum_8 : decode cX3_readSum 8 = .ok (.istore 4, 2) := by decide +kernel
theorem dX3_readSum_10 : decode cX3_readSum 10 = .ok (.iload 4, 2) := by decide +kernel
theorem dX3_readSum_12 : decode cX3_readSum 12 = .ok (.sipush 160, 3) := by decide +kernel
theorem dX3_readSum_15 : decode cX3_readSum 15 = .ok (.if_icmp .ge 67, 3) := by decide +kernel
theorem dX3_readSum_18 : decode cX3_readSum 18 = .ok (.iload_n 3, 1) := by decide +kernel
theorem dX3_readSum_19 : decode cX3_readSum 19 = .ok (.ifCond .eq 63, 3) := by decide +kernel
theorem dX3_readSum_22 : decode cX3_readSum 22 = .ok (.aload_n 0, 1) := by decide +kernel
theorem dX3_readSum_23 : decode cX3_readSum 23 = .ok (.getfield 12, 3) := by decide +kernel
theorem dX3_readSum_26 : decode cX3_readSum 26 = .ok (.aload_n 0, 1) := by decide +kernel
theorem dX3_readSum_27 : decode cX3_readSum 27 = .ok (.getfield 21, 3) := by decide +kernel
theorem dX3_readSum_30 : decode cX3_readSum 30 = .ok (.invokevirtual 34, 3) := by decide +kernel
theorem dX3_readSum_33 : decode cX3_readSum 33 = .ok (.istore 5, 2) := by decide +kernel
theorem dX3_readSum_35 : decode cX3_readSum 35 = .ok (.iload 5, 2) := by decide +kernel
theorem dX3_readSum_37 : decode cX3_readSum 37 = .ok (.bipush 43, 2) := by decide +kernel
theorem dX3_readSum_39 : decode cX3_readSum 39 = .ok (.if_icmp .eq 13, 3) := by decide +kernel
theorem dX3_readSum_42 : decode cX3_readSum 42 = .ok (.iload 5, 2) := by decide +kernel
theorem dX3_readSum_44 : decode cX3_readSum 44 = .ok (.bipush 45, 2) := by decide +kernel
theorem dX3_readSum_46 : decode cX3_readSum 46 = .ok (.if_icmp .eq 6, 3) := by decide +kernel
theorem dX3_readSum_49 : decode cX3_readSum 49 = .ok (.goto 33, 3) := by decide +kernel
theorem dX3_readSum_52 : decode cX3_readSum 52 = .ok (.aload_n 0, 1) := by decide +kernel
theorem dX3_readSum_53 : decode cX3_readSum 53 = .ok (.dup, 1) := by decide +kernel
theorem dX3_readSum_54 : decode cX3_readSum 54 = .ok (.getfield 21, 3) := by decide +kernel
theorem dX3_readSum_57 : decode cX3_readSum 57 = .ok (.iconst 1, 1) := by decide +kernel
theorem dX3_readSum_58 : decode cX3_readSum 58 = .ok (.iadd, 1) := by decide +kernel
theorem dX3_readSum_59 : decode cX3_readSum 59 = .ok (.putfield 21, 3) := by decide +kernel
theorem dX3_readSum_62 : decode cX3_readSum 62 = .ok (.aload_n 0, 1) := by decide +kernel
theorem dX3_readSum_63 : decode cX3_readSum 63 = .ok (.aload_n 1, 1) := by decide +kernel
theorem dX3_readSum_64 : decode cX3_readSum 64 = .ok (.iload_n 2, 1) := by decide +kernel
theorem dX3_readSum_65 : decode cX3_readSum 65 = .ok (.invokevirtual 65, 3) := by decide +kernel
theorem dX3_readSum_68 : decode cX3_readSum 68 = .ok (.istore_n 3, 1) := by decide +kernel
theorem dX3_readSum_69 : decode cX3_readSum 69 = .ok (.aload_n 1, 1) := by decide +kernel
theorem dX3_readSum_70 : decode cX3_readSum 70 = .ok (.iload 5, 2) := by decide +kernel
theorem dX3_readSum_72 : decode cX3_readSum 72 = .ok (.ineg, 1) := by decide +kernel
theorem dX3_readSum_73 : decode cX3_readSum 73 = .ok (.invokevirtual 56, 3) := by decide +kernel
theorem dX3_readSum_76 : decode cX3_readSum 76 = .ok (.iinc 4 1, 3) := by decide +kernel
theorem dX3_readSum_79 : decode cX3_readSum 79 = .ok (.goto (-69), 3) := by decide +kernel
theorem dX3_readSum_82 : decode cX3_readSum 82 = .ok (.iload_n 3, 1) := by decide +kernel
theorem dX3_readSum_83 : decode cX3_readSum 83 = .ok (.ireturn, 1) := by decide +kernel
theorem dX3_readTerm_0 : decode cX3_readTerm 0 = .ok (.aload_n 0, 1) := by decide +kernel
theorem dX3_readTerm_1 : decode cX3_readTerm 1 = .ok (.aload_n 1, 1) := by decide +kernel
theorem dX3_readTerm_2 : decode cX3_readTerm 2 = .ok (.iload_n 2, 1) := by decide +kernel
theorem dX3_readTerm_3 : decode cX3_readTerm 3 = .ok (.invokevirtual 68, 3) := by decide +kernel
theorem dX3_readTerm_6 : decode cX3_readTerm 6 = .ok (.istore_n 3, 1) := by decide +kernel
theorem dX3_readTerm_7 : decode cX3_readTerm 7 = .ok (.iconst 0, 1) := by decide +kernel
theorem dX3_readTerm_8 : decode cX3_readTerm 8 = .ok (.istore 4, 2) := by decide +kernel
theorem dX3_readTerm_10 : decode cX3_readTerm 10 = .ok (.iload 4, 2) := by decide +kernel
theorem dX3_readTerm_12 : decode cX3_readTerm 12 = .ok (.sipush 160, 3) := by decide +kernel
theorem dX3_readTerm_15 : decode cX3_readTerm 15 = .ok (.if_icmp .ge 35, 3) := by decide +kernel
theorem dX3_readTerm_18 : decode cX3_readTerm 18 = .ok (.iload_n 3, 1) := by decide +kernel
theorem dX3_readTerm_19 : decode cX3_readTerm 19 = .ok (.ifCond .eq 31, 3) := by decide +kernel
theorem dX3_readTerm_22 : decode cX3_readTerm 22 = .ok (.aload_n 0, 1) := by decide +kernel
theorem dX3_readTerm_23 : decode cX3_readTerm 23 = .ok (.bipush 42, 2) := by decide +kernel
theorem dX3_readTerm_25 : decode cX3_readTerm 25 = .ok (.invokevirtual 41, 3) := by decide +kernel
theorem dX3_readTerm_28 : decode cX3_readTerm 28 = .ok (.ifCond .eq 22, 3) := by decide +kernel
theorem dX3_readTerm_31 : decode cX3_readTerm 31 = .ok (.aload_n 0, 1) := by decide +kernel
theorem dX3_readTerm_32 : decode cX3_readTerm 32 = .ok (.aload_n 1, 1) := by decide +kernel
theorem dX3_readTerm_33 : decode cX3_readTerm 33 = .ok (.iload_n 2, 1) := by decide +kernel
theorem dX3_readTerm_34 : decode cX3_readTerm 34 = .ok (.invokevirtual 68, 3) := by decide +kernel
theorem dX3_readTerm_37 : decode cX3_readTerm 37 = .ok (.istore_n 3, 1) := by decide +kernel
theorem dX3_readTerm_38 : decode cX3_readTerm 38 = .ok (.aload_n 1, 1) := by decide +kernel
theorem dX3_readTerm_39 : decode cX3_readTerm 39 = .ok (.bipush (-42), 2) := by decide +kernel
theorem dX3_readTerm_41 : decode cX3_readTerm 41 = .ok (.invokevirtual 56, 3) := by decide +kernel
theorem dX3_readTerm_44 : decode cX3_readTerm 44 = .ok (.iinc 4 1, 3) := by decide +kernel
theorem dX3_readTerm_47 : decode cX3_readTerm 47 = .ok (.goto (-37), 3) := by decide +kernel
theorem dX3_readTerm_50 : decode cX3_readTerm 50 = .ok (.iload_n 3, 1) := by decide +kernel
theorem dX3_readTerm_51 : decode cX3_readTerm 51 = .ok (.ireturn, 1) := by decide +kernel
theorem dX3_readOne_0 : decode cX3_readOne 0 = .ok (.aload_n 0, 1) := by decide +kernel
theorem dX3_readOne_1 : decode cX3_readOne 1 = .ok (.getfield 12, 3) := by decide +kernel
theorem dX3_readOne_4 : decode cX3_readOne 4 = .ok (.aload_n 0, 1) := by decide +kernel
theorem dX3_readOne_5 : decode cX3_readOne 5 = .ok (.getfield 21, 3) := by decide +kernel
theorem dX3_readOne_8 : decode cX3_readOne 8 = .ok (.invokevirtual 34, 3) := by decide +kernel
theorem dX3_readOne_11 : decode cX3_readOne 11 = .ok (.istore_n 3, 1) := by decide +kernel
theorem dX3_readOne_12 : decode cX3_readOne 12 = .ok (.iload_n 3, 1) := by decide +kernel
theorem dX3_readOne_13 : decode cX3_readOne 13 = .ok (.bipush 13, 2) := by decide +kernel
theorem dX3_readOne_15 : decode cX3_readOne 15 = .ok (.if_icmp .ne 30, 3) := by decide +kernel
theorem dX3_readOne_18 : decode cX3_readOne 18 = .ok (.aload_n 1, 1) := by decide +kernel
theorem dX3_readOne_19 : decode cX3_readOne 19 = .ok (.aload_n 0, 1) := by decide +kernel
theorem dX3_readOne_20 : decode cX3_readOne 20 = .ok (.getfield 12, 3) := by decide +kernel
theorem dX3_readOne_23 : decode cX3_readOne 23 = .ok (.aload_n 0, 1) := by decide +kernel
theorem dX3_readOne_24 : decode cX3_readOne 24 = .ok (.getfield 21, 3) := by decide +kernel
theorem dX3_readOne_27 : decode cX3_readOne 27 = .ok (.invokevirtual 71, 3) := by decide +kernel
theorem dX3_readOne_30 : decode cX3_readOne 30 = .ok (.invokevirtual 56, 3) := by decide +kernel
theorem dX3_readOne_33 : decode cX3_readOne 33 = .ok (.aload_n 0, 1) := by decide +kernel
theorem dX3_readOne_34 : decode cX3_readOne 34 = .ok (.dup, 1) := by decide +kernel
theorem dX3_readOne_35 : decode cX3_readOne 35 = .ok (.getfield 21, 3) := by decide +kernel
theorem dX3_readOne_38 : decode cX3_readOne 38 = .ok (.iconst 1, 1) := by decide +kernel
theorem dX3_readOne_39 : decode cX3_readOne 39 = .ok (.iadd, 1) := by decide +kernel
theorem dX3_readOne_40 : decode cX3_readOne 40 = .ok (.putfield 21, 3) := by decide +kernel
theorem dX3_readOne_43 : decode cX3_readOne 43 = .ok (.iconst 1, 1) := by decide +kernel
theorem dX3_readOne_44 : decode cX3_readOne 44 = .ok (.ireturn, 1) := by decide +kernel
theorem dX3_readOne_45 : decode cX3_readOne 45 = .ok (.iload_n 3, 1) := by decide +kernel
theorem dX3_readOne_46 : decode cX3_readOne 46 = .ok (.iconst 1, 1) := by decide +kernel
theorem dX3_readOne_47 : decode cX3_readOne 47 = .ok (.if_icmp .lt 27, 3) := by decide +kernel
theorem dX3_readOne_50 : decode cX3_readOne 50 = .ok (.iload_n 3, 1) := by decide +kernel
theorem dX3_readOne_51 : decode cX3_readOne 51 = .ok (.bipush 6, 2) := by decide +kernel
theorem dX3_readOne_53 : decode cX3_readOne 53 = .ok (.if_icmp .gt 21, 3) := by decide +kernel
theorem dX3_readOne_56 : decode cX3_readOne 56 = .ok (.aload_n 1, 1) := by decide +kernel
theorem dX3_readOne_57 : decode cX3_readOne 57 = .ok (.iload_n 3, 1) := by decide +kernel
theorem dX3_readOne_58 : decode cX3_readOne 58 = .ok (.ineg, 1) := by decide +kernel
theorem dX3_readOne_59 : decode cX3_readOne 59 = .ok (.invokevirtual 56, 3) := by decide +kernel
theorem dX3_readOne_62 : decode cX3_readOne 62 = .ok (.aload_n 0, 1) := by decide +kernel
theorem dX3_readOne_63 : decode cX3_readOne 63 = .ok (.dup, 1) := by decide +kernel
theorem dX3_readOne_64 : decode cX3_readOne 64 = .ok (.getfield 21, 3) := by decide +kernel
theorem dX3_readOne_67 : decode cX3_readOne 67 = .ok (.iconst 1, 1) := by decide +kernel
theorem dX3_readOne_68 : decode cX3_readOne 68 = .ok (.iadd, 1) := by decide +kernel
theorem dX3_readOne_69 : decode cX3_readOne 69 = .ok (.putfield 21, 3) := by decide +kernel
theorem dX3_readOne_72 : decode cX3_readOne 72 = .ok (.iconst 1, 1) := by decide +kernel
theorem dX3_readOne_73 : decode cX3_readOne 73 = .ok (.ireturn, 1) := by decide +kernel
theorem dX3_readOne_74 : decode cX3_readOne 74 = .ok (.iload_n 3, 1) := by decide +kernel
theorem dX3_readOne_75 : decode cX3_readOne 75 = .ok (.bipush 45, 2) := by decide +kernel
theorem dX3_readOne_77 : decode cX3_readOne 77 = .ok (.if_icmp .eq 9, 3) := by decide +kernel
theorem dX3_readOne_80 : decode cX3_readOne 80 = .ok (.iload_n 3, 1) := by decide +kernel
theorem dX3_readOne_81 : decode cX3_readOne 81 = .ok (.bipush 40, 2) := by decide +kernel
theorem dX3_readOne_83 : decode cX3_readOne 83 = .ok (.if_icmp .ne 8, 3) := by decide +kernel
theorem dX3_readOne_86 : decode cX3_readOne 86 = .ok (.iload_n 2, 1) := by decide +kernel
theorem dX3_readOne_87 : decode cX3_readOne 87 = .ok (.iconst 5, 1) := by decide +kernel
theorem dX3_readOne_88 : decode cX3_readOne 88 = .ok (.if_icmp .lt 5, 3) := by decide +kernel
theorem dX3_readOne_91 : decode cX3_readOne 91 = .ok (.iconst 0, 1) := by decide +kernel
theorem dX3_readOne_92 : decode cX3_readOne 92 = .ok (.ireturn, 1) := by decide +kernel
theorem dX3_readOne_93 : decode cX3_readOne 93 = .ok (.aload_n 0, 1) := by decide +kernel
theorem dX3_readOne_94 : decode cX3_readOne 94 = .ok (.dup, 1) := by decide +kernel
theorem dX3_readOne_95 : decode cX3_readOne 95 = .ok (.getfield 21, 3) := by decide +kernel
theorem dX3_readOne_98 : decode cX3_readOne 98 = .ok (.iconst 1, 1) := by decide +kernel
theorem dX3_readOne_99 : decode cX3_readOne 99 = .ok (.iadd, 1) := by decide +kernel
theorem dX3_readOne_100 : decode cX3_readOne 100 = .ok (.putfield 21, 3) := by decide +kernel
theorem dX3_readOne_103 : decode cX3_readOne 103 = .ok (.iload_n 3, 1) := by decide +kernel
theorem dX3_readOne_104 : decode cX3_readOne 104 = .ok (.bipush 40, 2) := by decide +kernel
theorem dX3_readOne_106 : decode cX3_readOne 106 = .ok (.if_icmp .ne 29, 3) := by decide +kernel
theorem dX3_readOne_109 : decode cX3_readOne 109 = .ok (.aload_n 0, 1) := by decide +kernel
theorem dX3_readOne_110 : decode cX3_readOne 110 = .ok (.aload_n 1, 1) := by decide +kernel
theorem dX3_readOne_111 : decode cX3_readOne 111 = .ok (.iload_n 2, 1) := by decide +kernel
theorem dX3_readOne_112 : decode cX3_readOne 112 = .ok (.iconst 1, 1) := by decide +kernel
theorem dX3_readOne_113 : decode cX3_readOne 113 = .ok (.iadd, 1) := by decide +kernel
theorem dX3_readOne_114 : decode cX3_readOne 114 = .ok (.invokevirtual 45, 3) := by decide +kernel
theorem dX3_readOne_117 : decode cX3_readOne 117 = .ok (.ifCond .eq 16, 3) := by decide +kernel
theorem dX3_readOne_120 : decode cX3_readOne 120 = .ok (.aload_n 0, 1) := by decide +kernel
theorem dX3_readOne_121 : decode cX3_readOne 121 = .ok (.bipush 41, 2) := by decide +kernel
theorem dX3_readOne_123 : decode cX3_readOne 123 = .ok (.invokevirtual 41, 3) := by decide +kernel
theorem dX3_readOne_126 : decode cX3_readOne 126 = .ok (.ifCond .eq 7, 3) := by decide +kernel
theorem dX3_readOne_129 : decode cX3_readOne 129 = .ok (.iconst 1, 1) := by decide +kernel
theorem dX3_readOne_130 : decode cX3_readOne 130 = .ok (.goto 4, 3) := by decide +kernel
theorem dX3_readOne_133 : decode cX3_readOne 133 = .ok (.iconst 0, 1) := by decide +kernel
theorem dX3_readOne_134 : decode cX3_readOne 134 = .ok (.ireturn, 1) := by decide +kernel
theorem dX3_readOne_135 : decode cX3_readOne 135 = .ok (.aload_n 0, 1) := by decide +kernel
theorem dX3_readOne_136 : decode cX3_readOne 136 = .ok (.aload_n 1, 1) := by decide +kernel
theorem dX3_readOne_137 : decode cX3_readOne 137 = .ok (.iload_n 2, 1) := by decide +kernel
theorem dX3_readOne_138 : decode cX3_readOne 138 = .ok (.iconst 1, 1) := by decide +kernel
theorem dX3_readOne_139 : decode cX3_readOne 139 = .ok (.iadd, 1) := by decide +kernel
theorem dX3_readOne_140 : decode cX3_readOne 140 = .ok (.invokevirtual 68, 3) := by decide +kernel
theorem dX3_readOne_143 : decode cX3_readOne 143 = .ok (.istore 4, 2) := by decide +kernel
theorem dX3_readOne_145 : decode cX3_readOne 145 = .ok (.aload_n 1, 1) := by decide +kernel
theorem dX3_readOne_146 : decode cX3_readOne 146 = .ok (.bipush (-16), 2) := by decide +kernel
theorem dX3_readOne_148 : decode cX3_readOne 148 = .ok (.invokevirtual 56, 3) := by decide +kernel
theorem dX3_readOne_151 : decode cX3_readOne 151 = .ok (.iload 4, 2) := by decide +kernel
theorem dX3_readOne_153 : decode cX3_readOne 153 = .ok (.ireturn, 1) := by decide +kernel
theorem dX4_init_0 : decode cX4_init 0 = .ok (.aload_n 0, 1) := by decide +kernel
theorem dX4_init_1 : decode cX4_init 1 = .ok (.invokespecial 3, 3) := by decide +kernel
theorem dX4_init_4 : decode cX4_init 4 = .ok (.aload_n 0, 1) := by decide +kernel
theorem dX4_init_5 : decode cX4_init 5 = .ok (.sipush 160, 3) := by decide +kernel
theorem dX4_init_8 : decode cX4_init 8 = .ok (.newarray .int, 2) := by decide +kernel
theorem dX4_init_10 : decode cX4_init 10 = .ok (.putfield 9, 3) := by decide +kernel
theorem dX4_init_13 : decode cX4_init 13 = .ok (.return_, 1) := by decide +kernel
theorem dX4_lookAt_0 : decode cX4_lookAt 0 = .ok (.aload_n 0, 1) := by decide +kernel
theorem dX4_lookAt_1 : decode cX4_lookAt 1 = .ok (.iload_n 2, 1) := by decide +kernel
theorem dX4_lookAt_2 : decode cX4_lookAt 2 = .ok (.putfield 15, 3) := by decide +kernel
theorem dX4_lookAt_5 : decode cX4_lookAt 5 = .ok (.aload_n 0, 1) := by decide +kernel
theorem dX4_lookAt_6 : decode cX4_lookAt 6 = .ok (.aload_n 1, 1) := by decide +kernel
theorem dX4_lookAt_7 : decode cX4_lookAt 7 = .ok (.getfield 19, 3) := by decide +kernel
theorem dX4_lookAt_10 : decode cX4_lookAt 10 = .ok (.putfield 24, 3) := by decide +kernel
theorem dX4_lookAt_13 : decode cX4_lookAt 13 = .ok (.aload_n 0, 1) := by decide +kernel
theorem dX4_lookAt_14 : decode cX4_lookAt 14 = .ok (.iload_n 3, 1) := by decide +kernel
theorem dX4_lookAt_15 : decode cX4_lookAt 15 = .ok (.putfield 25, 3) := by decide +kernel
theorem dX4_lookAt_18 : decode cX4_lookAt 18 = .ok (.aload_n 0, 1) := by decide +kernel
theorem dX4_lookAt_19 : decode cX4_lookAt 19 = .ok (.aload_n 1, 1) := by decide +kernel
theorem dX4_lookAt_20 : decode cX4_lookAt 20 = .ok (.getfield 28, 3) := by decide +kernel
theorem dX4_lookAt_23 : decode cX4_lookAt 23 = .ok (.putfield 31, 3) := by decide +kernel
theorem dX4_lookAt_26 : decode cX4_lookAt 26 = .ok (.aload_n 0, 1) := by decide +kernel
theorem dX4_lookAt_27 : decode cX4_lookAt 27 = .ok (.iload_n 2, 1) := by decide +kernel
theorem dX4_lookAt_28 : decode cX4_lookAt 28 = .ok (.iload 4, 2) := by decide +kernel
theorem dX4_lookAt_30 : decode cX4_lookAt 30 = .ok (.isub, 1) := by decide +kernel
theorem dX4_lookAt_31 : decode cX4_lookAt 31 = .ok (.invokestatic 32, 3) := by decide +kernel
theorem dX4_lookAt_34 : decode cX4_lookAt 34 = .ok (.putfield 38, 3) := by decide +kernel
theorem dX4_lookAt_37 : decode cX4_lookAt 37 = .ok (.aload_n 0, 1) := by decide +kernel
theorem dX4_lookAt_38 : decode cX4_lookAt 38 = .ok (.aload_n 1, 1) := by decide +kernel
theorem dX4_lookAt_39 : decode cX4_lookAt 39 = .ok (.getfield 41, 3) := by decide +kernel
theorem dX4_lookAt_42 : decode cX4_lookAt 42 = .ok (.putfield 44, 3) := by decide +kernel
theorem dX4_lookAt_45 : decode cX4_lookAt 45 = .ok (.return_, 1) := by decide +kernel
theorem dX4_reckon_0 : decode cX4_reckon 0 = .ok (.aload_n 0, 1) := by decide +kernel
theorem dX4_reckon_1 : decode cX4_reckon 1 = .ok (.iconst 0, 1) := by decide +kernel
theorem dX4_reckon_2 : decode cX4_reckon 2 = .ok (.putfield 45, 3) := by decide +kernel
theorem dX4_reckon_5 : decode cX4_reckon 5 = .ok (.aload_n 1, 1) := by decide +kernel
theorem dX4_reckon_6 : decode cX4_reckon 6 = .ok (.iload_n 2, 1) := by decide +kernel
theorem dX4_reckon_7 : decode cX4_reckon 7 = .ok (.invokevirtual 48, 3) := by decide +kernel
theorem dX4_reckon_10 : decode cX4_reckon 10 = .ok (.sipush 160, 3) := by decide +kernel
theorem dX4_reckon_13 : decode cX4_reckon 13 = .ok (.invokestatic 53, 3) := by decide +kernel
theorem dX4_reckon_16 : decode cX4_reckon 16 = .ok (.istore_n 3, 1) := by decide +kernel
theorem dX4_reckon_17 : decode cX4_reckon 17 = .ok (.aload_n 1, 1) := by decide +kernel
theorem dX4_reckon_18 : decode cX4_reckon 18 = .ok (.iload_n 2, 1) := by decide +kernel
theorem dX4_reckon_19 : decode cX4_reckon 19 = .ok (.invokevirtual 57, 3) := by decide +kernel
theorem dX4_reckon_22 : decode cX4_reckon 22 = .ok (.istore 4, 2) := by decide +kernel
theorem dX4_reckon_24 : decode cX4_reckon 24 = .ok (.iload 4, 2) := by decide +kernel
theorem dX4_reckon_26 : decode cX4_reckon 26 = .ok (.iload_n 3, 1) := by decide +kernel
theorem dX4_reckon_27 : decode cX4_reckon 27 = .ok (.if_icmp .ge 59, 3) := by decide +kernel
theorem dX4_reckon_30 : decode cX4_reckon 30 = .ok (.aload_n 1, 1) := by decide +kernel
theorem dX4_reckon_31 : decode cX4_reckon 31 = .ok (.iload 4, 2) := by decide +kernel
theorem dX4_reckon_33 : decode cX4_reckon 33 = .ok (.invokevirtual 60, 3) := by decide +kernel
theorem dX4_reckon_36 : decode cX4_reckon 36 = .ok (.istore 5, 2) := by decide +kernel
theorem dX4_reckon_38 : decode cX4_reckon 38 = .ok (.iload 5, 2) := by decide +kernel
theorem dX4_reckon_40 : decode cX4_reckon 40 = .ok (.ifCond .lt 12, 3) := by decide +kernel
theorem dX4_reckon_43 : decode cX4_reckon 43 = .ok (.aload_n 0, 1) := by decide +kernel
theorem dX4_reckon_44 : decode cX4_reckon 44 = .ok (.iload 5, 2) := by decide +kernel
theorem dX4_reckon_46 : decode cX4_reckon 46 = .ok (.invokevirtual 63, 3) := by decide +kernel
theorem dX4_reckon_49 : decode cX4_reckon 49 = .ok (.goto 31, 3) := by decide +kernel
theorem dX4_reckon_52 : decode cX4_reckon 52 = .ok (.iload 5, 2) := by decide +kernel
theorem dX4_reckon_54 : decode cX4_reckon 54 = .ok (.bipush (-6), 2) := by decide +kernel
theorem dX4_reckon_56 : decode cX4_reckon 56 = .ok (.if_icmp .lt 17, 3) := by decide +kernel
theorem dX4_reckon_59 : decode cX4_reckon 59 = .ok (.aload_n 0, 1) := by decide +kernel
theorem dX4_reckon_60 : decode cX4_reckon 60 = .ok (.aload_n 0, 1) := by decide +kernel
theorem dX4_reckon_61 : decode cX4_reckon 61 = .ok (.iload 5, 2) := by decide +kernel
theorem dX4_reckon_63 : decode cX4_reckon 63 = .ok (.ineg, 1) := by decide +kernel
theorem dX4_reckon_64 : decode cX4_reckon 64 = .ok (.invokevirtual 67, 3) := by decide +kernel
theorem dX4_reckon_67 : decode cX4_reckon 67 = .ok (.invokevirtual 63, 3) := by decide +kernel
theorem dX4_reckon_70 : decode cX4_reckon 70 = .ok (.goto 10, 3) := by decide +kernel
theorem dX4_reckon_73 : decode cX4_reckon 73 = .ok (.aload_n 0, 1) := by decide +kernel
theorem dX4_reckon_74 : decode cX4_reckon 74 = .ok (.iload 5, 2) := by decide +kernel
theorem dX4_reckon_76 : decode cX4_reckon 76 = .ok (.ineg, 1) := by decide +kernel
theorem dX4_reckon_77 : decode cX4_reckon 77 = .ok (.invokevirtual 70, 3) := by decide +kernel
theorem dX4_reckon_80 : decode cX4_reckon 80 = .ok (.iinc 4 1, 3) := by decide +kernel
theorem dX4_reckon_83 : decode cX4_reckon 83 = .ok (.goto (-59), 3) := by decide +kernel
theorem dX4_reckon_86 : decode cX4_reckon 86 = .ok (.aload_n 0, 1) := by decide +kernel
theorem dX4_reckon_87 : decode cX4_reckon 87 = .ok (.invokevirtual 73, 3) := by decide +kernel
theorem dX4_reckon_90 : decode cX4_reckon 90 = .ok (.ireturn, 1) := by decide +kernel
theorem dX4_push_0 : decode cX4_push 0 = .ok (.aload_n 0, 1) := by decide +kernel
theorem dX4_push_1 : decode cX4_push 1 = .ok (.getfield 45, 3) := by decide +kernel
theorem dX4_push_4 : decode cX4_push 4 = .ok (.ifCond .lt 35, 3) := by decide +kernel
theorem dX4_push_7 : decode cX4_push 7 = .ok (.aload_n 0, 1) := by decide +kernel
theorem dX4_push_8 : decode cX4_push 8 = .ok (.getfield 45, 3) := by decide +kernel
theorem dX4_push_11 : decode cX4_push 11 = .ok (.aload_n 0, 1) := by decide +kernel
theorem dX4_push_12 : decode cX4_push 12 = .ok (.getfield 9, 3) := by decide +kernel
theorem dX4_push_15 : decode cX4_push 15 = .ok (.arraylength, 1) := by decide +kernel
theorem dX4_push_16 : decode cX4_push 16 = .ok (.if_icmp .ge 23, 3) := by decide +kernel
theorem dX4_push_19 : decode cX4_push 19 = .ok (.aload_n 0, 1) := by decide +kernel
theorem dX4_push_20 : decode cX4_push 20 = .ok (.getfield 9, 3) := by decide +kernel
theorem dX4_push_23 : decode cX4_push 23 = .ok (.aload_n 0, 1) := by decide +kernel
theorem dX4_push_24 : decode cX4_push 24 = .ok (.getfield 45, 3) := by decide +kernel
theorem dX4_push_27 : decode cX4_push 27 = .ok (.iload_n 1, 1) := by decide +kernel
theorem dX4_push_28 : decode cX4_push 28 = .ok (.iastore, 1) := by decide +kernel
theorem dX4_push_29 : decode cX4_push 29 = .ok (.aload_n 0, 1) := by decide +kernel
theorem dX4_push_30 : decode cX4_push 30 = .ok (.dup, 1) := by decide +kernel
theorem dX4_push_31 : decode cX4_push 31 = .ok (.getfield 45, 3) := by decide +kernel
theorem dX4_push_34 : decode cX4_push 34 = .ok (.iconst 1, 1) := by decide +kernel
theorem dX4_push_35 : decode cX4_push 35 = .ok (.iadd, 1) := by decide +kernel
theorem dX4_push_36 : decode cX4_push 36 = .ok (.putfield 45, 3) := by decide +kernel
theorem dX4_push_39 : decode cX4_push 39 = .ok (.return_, 1) := by decide +kernel
theorem dX4_pop_0 : decode cX4_pop 0 = .ok (.aload_n 0, 1) := by decide +kernel
theorem dX4_pop_1 : decode cX4_pop 1 = .ok (.getfield 45, 3) := by decide +kernel
theorem dX4_pop_4 : decode cX4_pop 4 = .ok (.iconst 1, 1) := by decide +kernel
theorem dX4_pop_5 : decode cX4_pop 5 = .ok (.if_icmp .lt 15, 3) := by decide +kernel
theorem dX4_pop_8 : decode cX4_pop 8 = .ok (.aload_n 0, 1) := by decide +kernel
theorem dX4_pop_9 : decode cX4_pop 9 = .ok (.getfield 45, 3) := by decide +kernel
theorem dX4_pop_12 : decode cX4_pop 12 = .ok (.aload_n 0, 1) := by decide +kernel
theorem dX4_pop_13 : decode cX4_pop 13 = .ok (.getfield 9, 3) := by decide +kernel
theorem dX4_pop_16 : decode cX4_pop 16 = .ok (.arraylength, 1) := by decide +kernel
theorem dX4_pop_17 : decode cX4_pop 17 = .ok (.if_icmp .le 5, 3) := by decide +kernel
theorem dX4_pop_20 : decode cX4_pop 20 = .ok (.iconst 0, 1) := by decide +kernel
theorem dX4_pop_21 : decode cX4_pop 21 = .ok (.ireturn, 1) := by decide +kernel
theorem dX4_pop_22 : decode cX4_pop 22 = .ok (.aload_n 0, 1) := by decide +kernel
theorem dX4_pop_23 : decode cX4_pop 23 = .ok (.dup, 1) := by decide +kernel
theorem dX4_pop_24 : decode cX4_pop 24 = .ok (.getfield 45, 3) := by decide +kernel
theorem dX4_pop_27 : decode cX4_pop 27 = .ok (.iconst 1, 1) := by decide +kernel
theorem dX4_pop_28 : decode cX4_pop 28 = .ok (.isub, 1) := by decide +kernel
theorem dX4_pop_29 : decode cX4_pop 29 = .ok (.putfield 45, 3) := by decide +kernel
theorem dX4_pop_32 : decode cX4_pop 32 = .ok (.aload_n 0, 1) := by decide +kernel
theorem dX4_pop_33 : decode cX4_pop 33 = .ok (.getfield 9, 3) := by decide +kernel
theorem dX4_pop_36 : decode cX4_pop 36 = .ok (.aload_n 0, 1) := by decide +kernel
theorem dX4_pop_37 : decode cX4_pop 37 = .ok (.getfield 45, 3) := by decide +kernel
theorem dX4_pop_40 : decode cX4_pop 40 = .ok (.iaload, 1) := by decide +kernel
theorem dX4_pop_41 : decode cX4_pop 41 = .ok (.ireturn, 1) := by decide +kernel
theorem dX4_named_0 : decode cX4_named 0 = .ok (.iload_n 1, 1) := by decide +kernel
theorem dX4_named_1 : decode cX4_named 1 = .ok (.tableswitch 60 1 5 #[35, 40, 45, 50, 55], 35) := by decide +kernel
theorem dX4_named_36 : decode cX4_named 36 = .ok (.aload_n 0, 1) := by decide +kernel
theorem dX4_named_37 : decode cX4_named 37 = .ok (.getfield 15, 3) := by decide +kernel
theorem dX4_named_40 : decode cX4_named 40 = .ok (.ireturn, 1) := by decide +kernel
theorem dX4_named_41 : decode cX4_named 41 = .ok (.aload_n 0, 1) := by decide +kernel
theorem dX4_named_42 : decode cX4_named 42 = .ok (.getfield 24, 3) := by decide +kernel
theorem dX4_named_45 : decode cX4_named 45 = .ok (.ireturn, 1) := by decide +kernel
theorem dX4_named_46 : decode cX4_named 46 = .ok (.aload_n 0, 1) := by decide +kernel
theorem dX4_named_47 : decode cX4_named 47 = .ok (.getfield 25, 3) := by decide +kernel
theorem dX4_named_50 : decode cX4_named 50 = .ok (.ireturn, 1) := by decide +kernel
theorem dX4_named_51 : decode cX4_named 51 = .ok (.aload_n 0, 1) := by decide +kernel
theorem dX4_named_52 : decode cX4_named 52 = .ok (.getfield 31, 3) := by decide +kernel
theorem dX4_named_55 : decode cX4_named 55 = .ok (.ireturn, 1) := by decide +kernel
theorem dX4_named_56 : decode cX4_named 56 = .ok (.aload_n 0, 1) := by decide +kernel
theorem dX4_named_57 : decode cX4_named 57 = .ok (.getfield 38, 3) := by decide +kernel
theorem dX4_named_60 : decode cX4_named 60 = .ok (.ireturn, 1) := by decide +kernel
theorem dX4_named_61 : decode cX4_named 61 = .ok (.aload_n 0, 1) := by decide +kernel
theorem dX4_named_62 : decode cX4_named 62 = .ok (.getfield 44, 3) := by decide +kernel
theorem dX4_named_65 : decode cX4_named 65 = .ok (.ireturn, 1) := by decide +kernel
theorem dX4_operate_0 : decode cX4_operate 0 = .ok (.aload_n 0, 1) := by decide +kernel
theorem dX4_operate_1 : decode cX4_operate 1 = .ok (.invokevirtual 73, 3) := by decide +kernel
theorem dX4_operate_4 : decode cX4_operate 4 = .ok (.istore_n 2, 1) := by decide +kernel
theorem dX4_operate_5 : decode cX4_operate 5 = .ok (.iload_n 1, 1) := by decide +kernel
theorem dX4_operate_6 : decode cX4_operate 6 = .ok (.bipush 12, 2) := by decide +kernel
theorem dX4_operate_8 : decode cX4_operate 8 = .ok (.if_icmp .ne 19, 3) := by decide +kernel
theorem dX4_operate_11 : decode cX4_operate 11 = .ok (.aload_n 0, 1) := by decide +kernel
theorem dX4_operate_12 : decode cX4_operate 12 = .ok (.iload_n 2, 1) := by decide +kernel
theorem dX4_operate_13 : decode cX4_operate 13 = .ok (.ifCond .ne 7, 3) := by decide +kernel
theorem dX4_operate_16 : decode cX4_operate 16 = .ok (.iconst 1, 1) := by decide +kernel
theorem dX4_operate_17 : decode cX4_operate 17 = .ok (.goto 4, 3) := by decide +kernel
theorem dX4_operate_20 : decode cX4_operate 20 = .ok (.iconst 0, 1) := by decide +kernel
theorem dX4_operate_21 : decode cX4_operate 21 = .ok (.invokevirtual 63, 3) := by decide +kernel
theorem dX4_operate_24 : decode cX4_operate 24 = .ok (.goto 31, 3) := by decide +kernel
theorem dX4_operate_27 : decode cX4_operate 27 = .ok (.iload_n 1, 1) := by decide +kernel
theorem dX4_operate_28 : decode cX4_operate 28 = .ok (.bipush 16, 2) := by decide +kernel
theorem dX4_operate_30 : decode cX4_operate 30 = .ok (.if_icmp .ne 12, 3) := by decide +kernel
theorem dX4_operate_33 : decode cX4_operate 33 = .ok (.aload_n 0, 1) := by decide +kernel
theorem dX4_operate_34 : decode cX4_operate 34 = .ok (.iload_n 2, 1) := by decide +kernel
theorem dX4_operate_35 : decode cX4_operate 35 = .ok (.ineg, 1) := by decide +kernel
theorem dX4_operate_36 : decode cX4_operate 36 = .ok (.invokevirtual 63, 3) := by decide +kernel
theorem dX4_operate_39 : decode cX4_operate 39 = .ok (.goto 16, 3) := by decide +kernel
theorem dX4_operate_42 : decode cX4_operate 42 = .ok (.aload_n 0, 1) := by decide +kernel
theorem dX4_operate_43 : decode cX4_operate 43 = .ok (.iload_n 1, 1) := by decide +kernel
theorem dX4_operate_44 : decode cX4_operate 44 = .ok (.aload_n 0, 1) := by decide +kernel
theorem dX4_operate_45 : decode cX4_operate 45 = .ok (.invokevirtual 73, 3) := by decide +kernel
theorem dX4_operate_48 : decode cX4_operate 48 = .ok (.iload_n 2, 1) := by decide +kernel
theorem dX4_operate_49 : decode cX4_operate 49 = .ok (.invokestatic 77, 3) := by decide +kernel
theorem dX4_operate_52 : decode cX4_operate 52 = .ok (.invokevirtual 63, 3) := by decide +kernel
theorem dX4_operate_55 : decode cX4_operate 55 = .ok (.return_, 1) := by decide +kernel
theorem dX4_joined_0 : decode cX4_joined 0 = .ok (.iload_n 0, 1) := by decide +kernel
theorem dX4_joined_1 : decode cX4_joined 1 = .ok (.lookupswitch 117 #[(10, 59), (11, 73), (43, 109), (45, 113), (60, 87), (61, 98)], 59) := by decide +kernel
theorem dX4_joined_60 : decode cX4_joined 60 = .ok (.iload_n 1, 1) := by decide +kernel
theorem dX4_joined_61 : decode cX4_joined 61 = .ok (.ifCond .ne 7, 3) := by decide +kernel
theorem dX4_joined_64 : decode cX4_joined 64 = .ok (.iload_n 2, 1) := by decide +kernel
theorem dX4_joined_65 : decode cX4_joined 65 = .ok (.ifCond .eq 7, 3) := by decide +kernel
theorem dX4_joined_68 : decode cX4_joined 68 = .ok (.iconst 1, 1) := by decide +kernel
theorem dX4_joined_69 : decode cX4_joined 69 = .ok (.goto 4, 3) := by decide +kernel
theorem dX4_joined_72 : decode cX4_joined 72 = .ok (.iconst 0, 1) := by decide +kernel
theorem dX4_joined_73 : decode cX4_joined 73 = .ok (.ireturn, 1) := by decide +kernel
theorem dX4_joined_74 : decode cX4_joined 74 = .ok (.iload_n 1, 1) := by decide +kernel
theorem dX4_joined_75 : decode cX4_joined 75 = .ok (.ifCond .eq 11, 3) := by decide +kernel
theorem dX4_joined_78 : decode cX4_joined 78 = .ok (.iload_n 2, 1) := by decide +kernel
theorem dX4_joined_79 : decode cX4_joined 79 = .ok (.ifCond .eq 7, 3) := by decide +kernel
theorem dX4_joined_82 : decode cX4_joined 82 = .ok (.iconst 1, 1) := by decide +kernel
theorem dX4_joined_83 : decode cX4_joined 83 = .ok (.goto 4, 3) := by decide +kernel
theorem dX4_joined_86 : decode cX4_joined 86 = .ok (.iconst 0, 1) := by decide +kernel
theorem dX4_joined_87 : decode cX4_joined 87 = .ok (.ireturn, 1) := by decide +kernel
theorem dX4_joined_88 : decode cX4_joined 88 = .ok (.iload_n 1, 1) := by decide +kernel
theorem dX4_joined_89 : decode cX4_joined 89 = .ok (.iload_n 2, 1) := by decide +kernel
theorem dX4_joined_90 : decode cX4_joined 90 = .ok (.if_icmp .ge 7, 3) := by decide +kernel
theorem dX4_joined_93 : decode cX4_joined 93 = .ok (.iconst 1, 1) := by decide +kernel
theorem dX4_joined_94 : decode cX4_joined 94 = .ok (.goto 4, 3) := by decide +kernel
theorem dX4_joined_97 : decode cX4_joined 97 = .ok (.iconst 0, 1) := by decide +kernel
theorem dX4_joined_98 : decode cX4_joined 98 = .ok (.ireturn, 1) := by decide +kernel
theorem dX4_joined_99 : decode cX4_joined 99 = .ok (.iload_n 1, 1) := by decide +kernel
theorem dX4_joined_100 : decode cX4_joined 100 = .ok (.iload_n 2, 1) := by decide +kernel
theorem dX4_joined_101 : decode cX4_joined 101 = .ok (.if_icmp .ne 7, 3) := by decide +kernel
theorem dX4_joined_104 : decode cX4_joined 104 = .ok (.iconst 1, 1) := by decide +kernel
theorem dX4_joined_105 : decode cX4_joined 105 = .ok (.goto 4, 3) := by decide +kernel
theorem dX4_joined_108 : decode cX4_joined 108 = .ok (.iconst 0, 1) := by decide +kernel
theorem dX4_joined_109 : decode cX4_joined 109 = .ok (.ireturn, 1) := by decide +kernel
theorem dX4_joined_110 : decode cX4_joined 110 = .ok (.iload_n 1, 1) := by decide +kernel
theorem dX4_joined_111 : decode cX4_joined 111 = .ok (.iload_n 2, 1) := by decide +kernel
theorem dX4_joined_112 : decode cX4_joined 112 = .ok (.iadd, 1) := by decide +kernel
theorem dX4_joined_113 : decode cX4_joined 113 = .ok (.ireturn, 1) := by decide +kernel
theorem dX4_joined_114 : decode cX4_joined 114 = .ok (.iload_n 1, 1) := by decide +kernel
theorem dX4_joined_115 : decode cX4_joined 115 = .ok (.iload_n 2, 1) := by decide +kernel
theorem dX4_joined_116 : decode cX4_joined 116 = .ok (.isub, 1) := by decide +kernel
theorem dX4_joined_117 : decode cX4_joined 117 = .ok (.ireturn, 1) := by decide +kernel
theorem dX4_joined_118 : decode cX4_joined 118 = .ok (.iload_n 1, 1) := by decide +kernel
theorem dX4_joined_119 : decode cX4_joined 119 = .ok (.iload_n 2, 1) := by decide +kernel
theorem dX4_joined_120 : decode cX4_joined 120 = .ok (.imul, 1) := by decide +kernel
theorem dX4_joined_121 : decode cX4_joined 121 = .ok (.ireturn, 1) := by decide +kernel
theorem dX5_init_0 : decode cX5_init 0 = .ok (.aload_n 0, 1) := by decide +kernel
theorem dX5_init_1 : decode cX5_init 1 = .ok (.invokespecial 3, 3) := by decide +kernel
theorem dX5_init_4 : decode cX5_init 4 = .ok (.aload_n 0, 1) := by decide +kernel
theorem dX5_init_5 : decode cX5_init 5 = .ok (.bipush 40, 2) := by decide +kernel
theorem dX5_init_7 : decode cX5_init 7 = .ok (.newarray .int, 2) := by decide +kernel
theorem dX5_init_9 : decode cX5_init 9 = .ok (.putfield 9, 3) := by decide +kernel
theorem dX5_init_12 : decode cX5_init 12 = .ok (.aload_n 0, 1) := by decide +kernel
theorem dX5_init_13 : decode cX5_init 13 = .ok (.iconst (-1), 1) := by decide +kernel
theorem dX5_init_14 : decode cX5_init 14 = .ok (.putfield 15, 3) := by decide +kernel
theorem dX5_init_17 : decode cX5_init 17 = .ok (.return_, 1) := by decide +kernel
theorem dX5_become_0 : decode cX5_become 0 = .ok (.aload_n 0, 1) := by decide +kernel
theorem dX5_become_1 : decode cX5_become 1 = .ok (.iload_n 1, 1) := by decide +kernel
theorem dX5_become_2 : decode cX5_become 2 = .ok (.putfield 15, 3) := by decide +kernel
theorem dX5_become_5 : decode cX5_become 5 = .ok (.aload_n 0, 1) := by decide +kernel
theorem dX5_become_6 : decode cX5_become 6 = .ok (.iload_n 2, 1) := by decide +kernel
theorem dX5_become_7 : decode cX5_become 7 = .ok (.putfield 19, 3) := by decide +kernel
theorem dX5_become_10 : decode cX5_become 10 = .ok (.iconst 0, 1) := by decide +kernel
theorem dX5_become_11 : decode cX5_become 11 = .ok (.istore_n 3, 1) := by decide +kernel
theorem dX5_become_12 : decode cX5_become 12 = .ok (.iload_n 3, 1) := by decide +kernel
theorem dX5_become_13 : decode cX5_become 13 = .ok (.aload_n 0, 1) := by decide +kernel
theorem dX5_become_14 : decode cX5_become 14 = .ok (.getfield 9, 3) := by decide +kernel
theorem dX5_become_17 : decode cX5_become 17 = .ok (.arraylength, 1) := by decide +kernel
theorem dX5_become_18 : decode cX5_become 18 = .ok (.if_icmp .ge 16, 3) := by decide +kernel
theorem dX5_become_21 : decode cX5_become 21 = .ok (.aload_n 0, 1) := by decide +kernel
theorem dX5_become_22 : decode cX5_become 22 = .ok (.getfield 9, 3) := by decide +kernel
theorem dX5_become_25 : decode cX5_become 25 = .ok (.iload_n 3, 1) := by decide +kernel
theorem dX5_become_26 : decode cX5_become 26 = .ok (.iconst 0, 1) := by decide +kernel
theorem dX5_become_27 : decode cX5_become 27 = .ok (.iastore, 1) := by decide +kernel
theorem dX5_become_28 : decode cX5_become 28 = .ok (.iinc 3 1, 3) := by decide +kernel
theorem dX5_become_31 : decode cX5_become 31 = .ok (.goto (-19), 3) := by decide +kernel
theorem dX5_become_34 : decode cX5_become 34 = .ok (.return_, 1) := by decide +kernel
theorem dX5_isMissing_0 : decode cX5_isMissing 0 = .ok (.aload_n 0, 1) := by decide +kernel
theorem dX5_isMissing_1 : decode cX5_isMissing 1 = .ok (.getfield 15, 3) := by decide +kernel
theorem dX5_isMissing_4 : decode cX5_isMissing 4 = .ok (.iconst (-1), 1) := by decide +kernel
theorem dX5_isMissing_5 : decode cX5_isMissing 5 = .ok (.if_icmp .ne 7, 3) := by decide +kernel
theorem dX5_isMissing_8 : decode cX5_isMissing 8 = .ok (.iconst 1, 1) := by decide +kernel
theorem dX5_isMissing_9 : decode cX5_isMissing 9 = .ok (.goto 4, 3) := by decide +kernel
theorem dX5_isMissing_12 : decode cX5_isMissing 12 = .ok (.iconst 0, 1) := by decide +kernel
theorem dX5_isMissing_13 : decode cX5_isMissing 13 = .ok (.ireturn, 1) := by decide +kernel
theorem dX5_has_0 : decode cX5_has 0 = .ok (.iload_n 1, 1) := by decide +kernel
theorem dX5_has_1 : decode cX5_has 1 = .ok (.ifCond .lt 24, 3) := by decide +kernel
theorem dX5_has_4 : decode cX5_has 4 = .ok (.iload_n 1, 1) := by decide +kernel
theorem dX5_has_5 : decode cX5_has 5 = .ok (.aload_n 0, 1) := by decide +kernel
theorem dX5_has_6 : decode cX5_has 6 = .ok (.getfield 19, 3) := by decide +kernel
theorem dX5_has_9 : decode cX5_has 9 = .ok (.if_icmp .ge 16, 3) := by decide +kernel
theorem dX5_has_12 : decode cX5_has 12 = .ok (.iload_n 1, 1) := by decide +kernel
theorem dX5_has_13 : decode cX5_has 13 = .ok (.aload_n 0, 1) := by decide +kernel
theorem dX5_has_14 : decode cX5_has 14 = .ok (.getfield 9, 3) := by decide +kernel
theorem dX5_has_17 : decode cX5_has 17 = .ok (.arraylength, 1) := by decide +kernel
theorem dX5_has_18 : decode cX5_has 18 = .ok (.if_icmp .ge 7, 3) := by decide +kernel
theorem dX5_has_21 : decode cX5_has 21 = .ok (.iconst 1, 1) := by decide +kernel
theorem dX5_has_22 : decode cX5_has 22 = .ok (.goto 4, 3) := by decide +kernel
theorem dX5_has_25 : decode cX5_has 25 = .ok (.iconst 0, 1) := by decide +kernel
theorem dX5_has_26 : decode cX5_has 26 = .ok (.ireturn, 1) := by decide +kernel
theorem dX5_itemAt_0 : decode cX5_itemAt 0 = .ok (.aload_n 0, 1) := by decide +kernel
theorem dX5_itemAt_1 : decode cX5_itemAt 1 = .ok (.iload_n 1, 1) := by decide +kernel
theorem dX5_itemAt_2 : decode cX5_itemAt 2 = .ok (.invokevirtual 22, 3) := by decide +kernel
theorem dX5_itemAt_5 : decode cX5_itemAt 5 = .ok (.ifCond .eq 12, 3) := by decide +kernel
theorem dX5_itemAt_8 : decode cX5_itemAt 8 = .ok (.aload_n 0, 1) := by decide +kernel
theorem dX5_itemAt_9 : decode cX5_itemAt 9 = .ok (.getfield 9, 3) := by decide +kernel
theorem dX5_itemAt_12 : decode cX5_itemAt 12 = .ok (.iload_n 1, 1) := by decide +kernel
theorem dX5_itemAt_13 : decode cX5_itemAt 13 = .ok (.iaload, 1) := by decide +kernel
theorem dX5_itemAt_14 : decode cX5_itemAt 14 = .ok (.goto 4, 3) := by decide +kernel
theorem dX5_itemAt_17 : decode cX5_itemAt 17 = .ok (.iconst 0, 1) := by decide +kernel
theorem dX5_itemAt_18 : decode cX5_itemAt 18 = .ok (.ireturn, 1) := by decide +kernel
theorem dX5_put_0 : decode cX5_put 0 = .ok (.aload_n 0, 1) := by decide +kernel
theorem dX5_put_1 : decode cX5_put 1 = .ok (.iload_n 1, 1) := by decide +kernel
theorem dX5_put_2 : decode cX5_put 2 = .ok (.invokevirtual 22, 3) := by decide +kernel
theorem dX5_put_5 : decode cX5_put 5 = .ok (.ifCond .ne 4, 3) := by decide +kernel
theorem dX5_put_8 : decode cX5_put 8 = .ok (.return_, 1) := by decide +kernel
theorem dX5_put_9 : decode cX5_put 9 = .ok (.aload_n 0, 1) := by decide +kernel
theorem dX5_put_10 : decode cX5_put 10 = .ok (.getfield 15, 3) := by decide +kernel
theorem dX5_put_13 : decode cX5_put 13 = .ok (.ifCond .ne 14, 3) := by decide +kernel
theorem dX5_put_16 : decode cX5_put 16 = .ok (.aload_n 0, 1) := by decide +kernel
theorem dX5_put_17 : decode cX5_put 17 = .ok (.getfield 9, 3) := by decide +kernel
theorem dX5_put_20 : decode cX5_put 20 = .ok (.iload_n 1, 1) := by decide +kernel
theorem dX5_put_21 : decode cX5_put 21 = .ok (.iload_n 2, 1) := by decide +kernel
theorem dX5_put_22 : decode cX5_put 22 = .ok (.i2b, 1) := by decide +kernel
theorem dX5_put_23 : decode cX5_put 23 = .ok (.iastore, 1) := by decide +kernel
theorem dX5_put_24 : decode cX5_put 24 = .ok (.goto 29, 3) := by decide +kernel
theorem dX5_put_27 : decode cX5_put 27 = .ok (.aload_n 0, 1) := by decide +kernel
theorem dX5_put_28 : decode cX5_put 28 = .ok (.getfield 15, 3) := by decide +kernel
theorem dX5_put_31 : decode cX5_put 31 = .ok (.iconst 1, 1) := by decide +kernel
theorem dX5_put_32 : decode cX5_put 32 = .ok (.if_icmp .ne 14, 3) := by decide +kernel
theorem dX5_put_35 : decode cX5_put 35 = .ok (.aload_n 0, 1) := by decide +kernel
theorem dX5_put_36 : decode cX5_put 36 = .ok (.getfield 9, 3) := by decide +kernel
theorem dX5_put_39 : decode cX5_put 39 = .ok (.iload_n 1, 1) := by decide +kernel
theorem dX5_put_40 : decode cX5_put 40 = .ok (.iload_n 2, 1) := by decide +kernel
theorem dX5_put_41 : decode cX5_put 41 = .ok (.i2s, 1) := by decide +kernel
theorem dX5_put_42 : decode cX5_put 42 = .ok (.iastore, 1) := by decide +kernel
theorem dX5_put_43 : decode cX5_put 43 = .ok (.goto 10, 3) := by decide +kernel
theorem dX5_put_46 : decode cX5_put 46 = .ok (.aload_n 0, 1) := by decide +kernel
theorem dX5_put_47 : decode cX5_put 47 = .ok (.getfield 9, 3) := by decide +kernel
theorem dX5_put_50 : decode cX5_put 50 = .ok (.iload_n 1, 1) := by decide +kernel
theorem dX5_put_51 : decode cX5_put 51 = .ok (.iload_n 2, 1) := by decide +kernel
theorem dX5_put_52 : decode cX5_put 52 = .ok (.iastore, 1) := by decide +kernel
theorem dX5_put_53 : decode cX5_put 53 = .ok (.return_, 1) := by decide +kernel
theorem dX5_hasAll_0 : decode cX5_hasAll 0 = .ok (.iload_n 1, 1) := by decide +kernel
theorem dX5_hasAll_1 : decode cX5_hasAll 1 = .ok (.ifCond .lt 41, 3) := by decide +kernel
theorem dX5_hasAll_4 : decode cX5_hasAll 4 = .ok (.iload_n 2, 1) := by decide +kernel
theorem dX5_hasAll_5 : decode cX5_hasAll 5 = .ok (.ifCond .lt 37, 3) := by decide +kernel
theorem dX5_hasAll_8 : decode cX5_hasAll 8 = .ok (.iload_n 2, 1) := by decide +kernel
theorem dX5_hasAll_9 : decode cX5_hasAll 9 = .ok (.aload_n 0, 1) := by decide +kernel
theorem dX5_hasAll_10 : decode cX5_hasAll 10 = .ok (.getfield 19, 3) := by decide +kernel
theorem dX5_hasAll_13 : decode cX5_hasAll 13 = .ok (.if_icmp .gt 29, 3) := by decide +kernel
theorem dX5_hasAll_16 : decode cX5_hasAll 16 = .ok (.iload_n 1, 1) := by decide +kernel
theorem dX5_hasAll_17 : decode cX5_hasAll 17 = .ok (.aload_n 0, 1) := by decide +kernel
theorem dX5_hasAll_18 : decode cX5_hasAll 18 = .ok (.getfield 19, 3) := by decide +kernel
theorem dX5_hasAll_21 : decode cX5_hasAll 21 = .ok (.iload_n 2, 1) := by decide +kernel
theorem dX5_hasAll_22 : decode cX5_hasAll 22 = .ok (.isub, 1) := by decide +kernel
theorem dX5_hasAll_23 : decode cX5_hasAll 23 = .ok (.if_icmp .gt 19, 3) := by decide +kernel
theorem dX5_hasAll_26 : decode cX5_hasAll 26 = .ok (.aload_n 0, 1) := by decide +kernel
theorem dX5_hasAll_27 : decode cX5_hasAll 27 = .ok (.getfield 19, 3) := by decide +kernel
theorem dX5_hasAll_30 : decode cX5_hasAll 30 = .ok (.aload_n 0, 1) := by decide +kernel
theorem dX5_hasAll_31 : decode cX5_hasAll 31 = .ok (.getfield 9, 3) := by decide +kernel
theorem dX5_hasAll_34 : decode cX5_hasAll 34 = .ok (.arraylength, 1) := by decide +kernel
theorem dX5_hasAll_35 : decode cX5_hasAll 35 = .ok (.if_icmp .gt 7, 3) := by decide +kernel
theorem dX5_hasAll_38 : decode cX5_hasAll 38 = .ok (.iconst 1, 1) := by decide +kernel
theorem dX5_hasAll_39 : decode cX5_hasAll 39 = .ok (.goto 4, 3) := by decide +kernel
theorem dX5_hasAll_42 : decode cX5_hasAll 42 = .ok (.iconst 0, 1) := by decide +kernel
theorem dX5_hasAll_43 : decode cX5_hasAll 43 = .ok (.ireturn, 1) := by decide +kernel
theorem dX5_take_0 : decode cX5_take 0 = .ok (.aload_n 1, 1) := by decide +kernel
theorem dX5_take_1 : decode cX5_take 1 = .ok (.iload_n 2, 1) := by decide +kernel
theorem dX5_take_2 : decode cX5_take 2 = .ok (.iload 4, 2) := by decide +kernel
theorem dX5_take_4 : decode cX5_take 4 = .ok (.invokevirtual 26, 3) := by decide +kernel
theorem dX5_take_7 : decode cX5_take 7 = .ok (.ifCond .eq 28, 3) := by decide +kernel
theorem dX5_take_10 : decode cX5_take 10 = .ok (.aload_n 0, 1) := by decide +kernel
theorem dX5_take_11 : decode cX5_take 11 = .ok (.iload_n 3, 1) := by decide +kernel
theorem dX5_take_12 : decode cX5_take 12 = .ok (.iload 4, 2) := by decide +kernel
theorem dX5_take_14 : decode cX5_take 14 = .ok (.invokevirtual 26, 3) := by decide +kernel
theorem dX5_take_17 : decode cX5_take 17 = .ok (.ifCond .eq 18, 3) := by decide +kernel
theorem dX5_take_20 : decode cX5_take 20 = .ok (.aload_n 1, 1) := by decide +kernel
theorem dX5_take_21 : decode cX5_take 21 = .ok (.getfield 9, 3) := by decide +kernel
theorem dX5_take_24 : decode cX5_take 24 = .ok (.iload_n 2, 1) := by decide +kernel
theorem dX5_take_25 : decode cX5_take 25 = .ok (.aload_n 0, 1) := by decide +kernel
theorem dX5_take_26 : decode cX5_take 26 = .ok (.getfield 9, 3) := by decide +kernel
theorem dX5_take_29 : decode cX5_take 29 = .ok (.iload_n 3, 1) := by decide +kernel
theorem dX5_take_30 : decode cX5_take 30 = .ok (.iload 4, 2) := by decide +kernel
theorem dX5_take_32 : decode cX5_take 32 = .ok (.invokestatic 30, 3) := by decide +kernel
theorem dX5_take_35 : decode cX5_take 35 = .ok (.return_, 1) := by decide +kernel
theorem dX6_init_0 : decode cX6_init 0 = .ok (.aload_n 0, 1) := by decide +kernel
theorem dX6_init_1 : decode cX6_init 1 = .ok (.invokespecial 3, 3) := by decide +kernel
theorem dX6_init_4 : decode cX6_init 4 = .ok (.aload_n 0, 1) := by decide +kernel
theorem dX6_init_5 : decode cX6_init 5 = .ok (.sipush 160, 3) := by decide +kernel
theorem dX6_init_8 : decode cX6_init 8 = .ok (.newarray .int, 2) := by decide +kernel
theorem dX6_init_10 : decode cX6_init 10 = .ok (.putfield 9, 3) := by decide +kernel
theorem dX6_init_13 : decode cX6_init 13 = .ok (.aload_n 0, 1) := by decide +kernel
theorem dX6_init_14 : decode cX6_init 14 = .ok (.sipush 161, 3) := by decide +kernel
theorem dX6_init_17 : decode cX6_init 17 = .ok (.newarray .int, 2) := by decide +kernel
theorem dX6_init_19 : decode cX6_init 19 = .ok (.putfield 15, 3) := by decide +kernel
theorem dX6_init_22 : decode cX6_init 22 = .ok (.aload_n 0, 1) := by decide +kernel
theorem dX6_init_23 : decode cX6_init 23 = .ok (.sipush 161, 3) := by decide +kernel
theorem dX6_init_26 : decode cX6_init 26 = .ok (.newarray .int, 2) := by decide +kernel
theorem dX6_init_28 : decode cX6_init 28 = .ok (.putfield 18, 3) := by decide +kernel
theorem dX6_init_31 : decode cX6_init 31 = .ok (.aload_n 0, 1) := by decide +kernel
theorem dX6_init_32 : decode cX6_init 32 = .ok (.sipush 161, 3) := by decide +kernel
theorem dX6_init_35 : decode cX6_init 35 = .ok (.newarray .int, 2) := by decide +kernel
theorem dX6_init_37 : decode cX6_init 37 = .ok (.putfield 21, 3) := by decide +kernel
theorem dX6_init_40 : decode cX6_init 40 = .ok (.return_, 1) := by decide +kernel
theorem dX6_add_0 : decode cX6_add 0 = .ok (.aload_n 0, 1) := by decide +kernel
theorem dX6_add_1 : decode cX6_add 1 = .ok (.getfield 24, 3) := by decide +kernel
theorem dX6_add_4 : decode cX6_add 4 = .ok (.ifCond .lt 15, 3) := by decide +kernel
theorem dX6_add_7 : decode cX6_add 7 = .ok (.aload_n 0, 1) := by decide +kernel
theorem dX6_add_8 : decode cX6_add 8 = .ok (.getfield 24, 3) := by decide +kernel
theorem dX6_add_11 : decode cX6_add 11 = .ok (.aload_n 0, 1) := by decide +kernel
theorem dX6_add_12 : decode cX6_add 12 = .ok (.getfield 9, 3) := by decide +kernel
theorem dX6_add_15 : decode cX6_add 15 = .ok (.arraylength, 1) := by decide +kernel
theorem dX6_add_16 : decode cX6_add 16 = .ok (.if_icmp .lt 5, 3) := by decide +kernel
theorem dX6_add_19 : decode cX6_add 19 = .ok (.iconst 0, 1) := by decide +kernel
theorem dX6_add_20 : decode cX6_add 20 = .ok (.ireturn, 1) := by decide +kernel
theorem dX6_add_21 : decode cX6_add 21 = .ok (.aload_n 0, 1) := by decide +kernel
theorem dX6_add_22 : decode cX6_add 22 = .ok (.getfield 9, 3) := by decide +kernel
theorem dX6_add_25 : decode cX6_add 25 = .ok (.aload_n 0, 1) := by decide +kernel
theorem dX6_add_26 : decode cX6_add 26 = .ok (.getfield 24, 3) := by decide +kernel
theorem dX6_add_29 : decode cX6_add 29 = .ok (.iload_n 1, 1) := by decide +kernel
theorem dX6_add_30 : decode cX6_add 30 = .ok (.iastore, 1) := by decide +kernel
theorem dX6_add_31 : decode cX6_add 31 = .ok (.aload_n 0, 1) := by decide +kernel
theorem dX6_add_32 : decode cX6_add 32 = .ok (.dup, 1) := by decide +kernel
theorem dX6_add_33 : decode cX6_add 33 = .ok (.getfield 24, 3) := by decide +kernel
theorem dX6_add_36 : decode cX6_add 36 = .ok (.iconst 1, 1) := by decide +kernel
theorem dX6_add_37 : decode cX6_add 37 = .ok (.iadd, 1) := by decide +kernel
theorem dX6_add_38 : decode cX6_add 38 = .ok (.putfield 24, 3) := by decide +kernel
theorem dX6_add_41 : decode cX6_add 41 = .ok (.iconst 1, 1) := by decide +kernel
theorem dX6_add_42 : decode cX6_add 42 = .ok (.ireturn, 1) := by decide +kernel
theorem dX6_empty_0 : decode cX6_empty 0 = .ok (.aload_n 0, 1) := by decide +kernel
theorem dX6_empty_1 : decode cX6_empty 1 = .ok (.iconst 0, 1) := by decide +kernel
theorem dX6_empty_2 : decode cX6_empty 2 = .ok (.putfield 24, 3) := by decide +kernel
theorem dX6_empty_5 : decode cX6_empty 5 = .ok (.return_, 1) := by decide +kernel
theorem dX6_tokenAt_0 : decode cX6_tokenAt 0 = .ok (.iload_n 1, 1) := by decide +kernel
theorem dX6_tokenAt_1 : decode cX6_tokenAt 1 = .ok (.ifCond .lt 29, 3) := by decide +kernel
theorem dX6_tokenAt_4 : decode cX6_tokenAt 4 = .ok (.iload_n 1, 1) := by decide +kernel
theorem dX6_tokenAt_5 : decode cX6_tokenAt 5 = .ok (.aload_n 0, 1) := by decide +kernel
theorem dX6_tokenAt_6 : decode cX6_tokenAt 6 = .ok (.getfield 28, 3) := by decide +kernel
theorem dX6_tokenAt_9 : decode cX6_tokenAt 9 = .ok (.if_icmp .ge 21, 3) := by decide +kernel
theorem dX6_tokenAt_12 : decode cX6_tokenAt 12 = .ok (.iload_n 1, 1) := by decide +kernel
theorem dX6_tokenAt_13 : decode cX6_tokenAt 13 = .ok (.aload_n 0, 1) := by decide +kernel
theorem dX6_tokenAt_14 : decode cX6_tokenAt 14 = .ok (.getfield 15, 3) := by decide +kernel
theorem dX6_tokenAt_17 : decode cX6_tokenAt 17 = .ok (.arraylength, 1) := by decide +kernel
theorem dX6_tokenAt_18 : decode cX6_tokenAt 18 = .ok (.if_icmp .ge 12, 3) := by decide +kernel
theorem dX6_tokenAt_21 : decode cX6_tokenAt 21 = .ok (.aload_n 0, 1) := by decide +kernel
theorem dX6_tokenAt_22 : decode cX6_tokenAt 22 = .ok (.getfield 15, 3) := by decide +kernel
theorem dX6_tokenAt_25 : decode cX6_tokenAt 25 = .ok (.iload_n 1, 1) := by decide +kernel
theorem dX6_tokenAt_26 : decode cX6_tokenAt 26 = .ok (.iaload, 1) := by decide +kernel
theorem dX6_tokenAt_27 : decode cX6_tokenAt 27 = .ok (.goto 5, 3) := by decide +kernel
theorem dX6_tokenAt_30 : decode cX6_tokenAt 30 = .ok (.bipush 14, 2) := by decide +kernel
theorem dX6_tokenAt_32 : decode cX6_tokenAt 32 = .ok (.ireturn, 1) := by decide +kernel
theorem dX6_startAt_0 : decode cX6_startAt 0 = .ok (.iload_n 1, 1) := by decide +kernel
theorem dX6_startAt_1 : decode cX6_startAt 1 = .ok (.ifCond .lt 29, 3) := by decide +kernel
theorem dX6_startAt_4 : decode cX6_startAt 4 = .ok (.iload_n 1, 1) := by decide +kernel
theorem dX6_startAt_5 : decode cX6_startAt 5 = .ok (.aload_n 0, 1) := by decide +kernel
theorem dX6_startAt_6 : decode cX6_startAt 6 = .ok (.getfield 28, 3) := by decide +kernel
theorem dX6_startAt_9 : decode cX6_startAt 9 = .ok (.if_icmp .ge 21, 3) := by decide +kernel
theorem dX6_startAt_12 : decode cX6_startAt 12 = .ok (.iload_n 1, 1) := by decide +kernel
theorem dX6_startAt_13 : decode cX6_startAt 13 = .ok (.aload_n 0, 1) := by decide +kernel
theorem dX6_startAt_14 : decode cX6_startAt 14 = .ok (.getfield 18, 3) := by decide +kernel
theorem dX6_startAt_17 : decode cX6_startAt 17 = .ok (.arraylength, 1) := by decide +kernel
theorem dX6_startAt_18 : decode cX6_startAt 18 = .ok (.if_icmp .ge 12, 3) := by decide +kernel
theorem dX6_startAt_21 : decode cX6_startAt 21 = .ok (.aload_n 0, 1) := by decide +kernel
theorem dX6_startAt_22 : decode cX6_startAt 22 = .ok (.getfield 18, 3) := by decide +kernel
theorem dX6_startAt_25 : decode cX6_startAt 25 = .ok (.iload_n 1, 1) := by decide +kernel
theorem dX6_startAt_26 : decode cX6_startAt 26 = .ok (.iaload, 1) := by decide +kernel
theorem dX6_startAt_27 : decode cX6_startAt 27 = .ok (.goto 7, 3) := by decide +kernel
theorem dX6_startAt_30 : decode cX6_startAt 30 = .ok (.aload_n 0, 1) := by decide +kernel
theorem dX6_startAt_31 : decode cX6_startAt 31 = .ok (.getfield 24, 3) := by decide +kernel
theorem dX6_startAt_34 : decode cX6_startAt 34 = .ok (.ireturn, 1) := by decide +kernel
theorem dX6_numberAt_0 : decode cX6_numberAt 0 = .ok (.iload_n 1, 1) := by decide +kernel
theorem dX6_numberAt_1 : decode cX6_numberAt 1 = .ok (.ifCond .lt 29, 3) := by decide +kernel
theorem dX6_numberAt_4 : decode cX6_numberAt 4 = .ok (.iload_n 1, 1) := by decide +kernel
theorem dX6_numberAt_5 : decode cX6_numberAt 5 = .ok (.aload_n 0, 1) := by decide +kernel
theorem dX6_numberAt_6 : decode cX6_numberAt 6 = .ok (.getfield 28, 3) := by decide +kernel
theorem dX6_numberAt_9 : decode cX6_numberAt 9 = .ok (.if_icmp .ge 21, 3) := by decide +kernel
theorem dX6_numberAt_12 : decode cX6_numberAt 12 = .ok (.iload_n 1, 1) := by decide +kernel
theorem dX6_numberAt_13 : decode cX6_numberAt 13 = .ok (.aload_n 0, 1) := by decide +kernel
theorem dX6_numberAt_14 : decode cX6_numberAt 14 = .ok (.getfield 21, 3) := by decide +kernel
theorem dX6_numberAt_17 : decode cX6_numberAt 17 = .ok (.arraylength, 1) := by decide +kernel
theorem dX6_numberAt_18 : decode cX6_numberAt 18 = .ok (.if_icmp .ge 12, 3) := by decide +kernel
theorem dX6_numberAt_21 : decode cX6_numberAt 21 = .ok (.aload_n 0, 1) := by decide +kernel
theorem dX6_numberAt_22 : decode cX6_numberAt 22 = .ok (.getfield 21, 3) := by decide +kernel
theorem dX6_numberAt_25 : decode cX6_numberAt 25 = .ok (.iload_n 1, 1) := by decide +kernel
theorem dX6_numberAt_26 : decode cX6_numberAt 26 = .ok (.iaload, 1) := by decide +kernel
theorem dX6_numberAt_27 : decode cX6_numberAt 27 = .ok (.goto 4, 3) := by decide +kernel
theorem dX6_numberAt_30 : decode cX6_numberAt 30 = .ok (.iconst 0, 1) := by decide +kernel
theorem dX6_numberAt_31 : decode cX6_numberAt 31 = .ok (.ireturn, 1) := by decide +kernel
theorem dX6_scan_0 : decode cX6_scan 0 = .ok (.aload_n 0, 1) := by decide +kernel
theorem dX6_scan_1 : decode cX6_scan 1 = .ok (.iconst 0, 1) := by decide +kernel
theorem dX6_scan_2 : decode cX6_scan 2 = .ok (.putfield 28, 3) := by decide +kernel
theorem dX6_scan_5 : decode cX6_scan 5 = .ok (.aload_n 0, 1) := by decide +kernel
theorem dX6_scan_6 : decode cX6_scan 6 = .ok (.iconst 0, 1) := by decide +kernel
theorem dX6_scan_7 : decode cX6_scan 7 = .ok (.invokevirtual 31, 3) := by decide +kernel
theorem dX6_scan_10 : decode cX6_scan 10 = .ok (.istore_n 1, 1) := by decide +kernel
theorem dX6_scan_11 : decode cX6_scan 11 = .ok (.iconst 0, 1) := by decide +kernel
theorem dX6_scan_12 : decode cX6_scan 12 = .ok (.istore_n 2, 1) := by decide +kernel
theorem dX6_scan_13 : decode cX6_scan 13 = .ok (.iload_n 2, 1) := by decide +kernel
theorem dX6_scan_14 : decode cX6_scan 14 = .ok (.sipush 160, 3) := by decide +kernel
theorem dX6_scan_17 : decode cX6_scan 17 = .ok (.if_icmp .ge 27, 3) := by decide +kernel
theorem dX6_scan_20 : decode cX6_scan 20 = .ok (.iload_n 1, 1) := by decide +kernel
theorem dX6_scan_21 : decode cX6_scan 21 = .ok (.aload_n 0, 1) := by decide +kernel
theorem dX6_scan_22 : decode cX6_scan 22 = .ok (.getfield 24, 3) := by decide +kernel
theorem dX6_scan_25 : decode cX6_scan 25 = .ok (.if_icmp .ge 19, 3) := by decide +kernel
theorem dX6_scan_28 : decode cX6_scan 28 = .ok (.aload_n 0, 1) := by decide +kernel
theorem dX6_scan_29 : decode cX6_scan 29 = .ok (.aload_n 0, 1) := by decide +kernel
theorem dX6_scan_30 : decode cX6_scan 30 = .ok (.iload_n 1, 1) := by decide +kernel
theorem dX6_scan_31 : decode cX6_scan 31 = .ok (.invokevirtual 35, 3) := by decide +kernel
theorem dX6_scan_34 : decode cX6_scan 34 = .ok (.invokevirtual 31, 3) := by decide +kernel
theorem dX6_scan_37 : decode cX6_scan 37 = .ok (.istore_n 1, 1) := by decide +kernel
theorem dX6_scan_38 : decode cX6_scan 38 = .ok (.iinc 2 1, 3) := by decide +kernel
theorem dX6_scan_41 : decode cX6_scan 41 = .ok (.goto (-28), 3) := by decide +kernel
theorem dX6_scan_44 : decode cX6_scan 44 = .ok (.aload_n 0, 1) := by decide +kernel
theorem dX6_scan_45 : decode cX6_scan 45 = .ok (.bipush 14, 2) := by decide +kernel
theorem dX6_scan_47 : decode cX6_scan 47 = .ok (.aload_n 0, 1) := by decide +kernel
theorem dX6_scan_48 : decode cX6_scan 48 = .ok (.getfield 24, 3) := by decide +kernel
theorem dX6_scan_51 : decode cX6_scan 51 = .ok (.iconst 0, 1) := by decide +kernel
theorem dX6_scan_52 : decode cX6_scan 52 = .ok (.invokevirtual 38, 3) := by decide +kernel
theorem dX6_scan_55 : decode cX6_scan 55 = .ok (.return_, 1) := by decide +kernel
theorem dX6_scanToken_0 : decode cX6_scanToken 0 = .ok (.aload_n 0, 1) := by decide +kernel
theorem dX6_scanToken_1 : decode cX6_scanToken 1 = .ok (.iload_n 1, 1) := by decide +kernel
theorem dX6_scanToken_2 : decode cX6_scanToken 2 = .ok (.invokevirtual 42, 3) := by decide +kernel
theorem dX6_scanToken_5 : decode cX6_scanToken 5 = .ok (.istore_n 2, 1) := by decide +kernel
theorem dX6_scanToken_6 : decode cX6_scanToken 6 = .ok (.iload_n 1, 1) := by decide +kernel
theorem dX6_scanToken_7 : decode cX6_scanToken 7 = .ok (.iconst 1, 1) := by decide +kernel
theorem dX6_scanToken_8 : decode cX6_scanToken 8 = .ok (.iadd, 1) := by decide +kernel
theorem dX6_scanToken_9 : decode cX6_scanToken 9 = .ok (.istore_n 3, 1) := by decide +kernel
theorem dX6_scanToken_10 : decode cX6_scanToken 10 = .ok (.iload_n 2, 1) := by decide +kernel
theorem dX6_scanToken_11 : decode cX6_scanToken 11 = .ok (.bipush 97, 2) := by decide +kernel
theorem dX6_scanToken_13 : decode cX6_scanToken 13 = .ok (.if_icmp .lt 34, 3) := by decide +kernel
theorem dX6_scanToken_16 : decode cX6_scanToken 16 = .ok (.iload_n 2, 1) := by decide +kernel
theorem dX6_scanToken_17 : decode cX6_scanToken 17 = .ok (.bipush 122, 2) := by decide +kernel
theorem dX6_scanToken_19 : decode cX6_scanToken 19 = .ok (.if_icmp .gt 28, 3) := by decide +kernel
theorem dX6_scanToken_22 : decode cX6_scanToken 22 = .ok (.aload_n 0, 1) := by decide +kernel
theorem dX6_scanToken_23 : decode cX6_scanToken 23 = .ok (.iload_n 1, 1) := by decide +kernel
theorem dX6_scanToken_24 : decode cX6_scanToken 24 = .ok (.bipush 97, 2) := by decide +kernel
theorem dX6_scanToken_26 : decode cX6_scanToken 26 = .ok (.bipush 122, 2) := by decide +kernel
theorem dX6_scanToken_28 : decode cX6_scanToken 28 = .ok (.invokevirtual 45, 3) := by decide +kernel
theorem dX6_scanToken_31 : decode cX6_scanToken 31 = .ok (.istore_n 3, 1) := by decide +kernel
theorem dX6_scanToken_32 : decode cX6_scanToken 32 = .ok (.aload_n 0, 1) := by decide +kernel
theorem dX6_scanToken_33 : decode cX6_scanToken 33 = .ok (.aload_n 0, 1) := by decide +kernel
theorem dX6_scanToken_34 : decode cX6_scanToken 34 = .ok (.iload_n 1, 1) := by decide +kernel
theorem dX6_scanToken_35 : decode cX6_scanToken 35 = .ok (.iload_n 3, 1) := by decide +kernel
theorem dX6_scanToken_36 : decode cX6_scanToken 36 = .ok (.invokevirtual 49, 3) := by decide +kernel
theorem dX6_scanToken_39 : decode cX6_scanToken 39 = .ok (.iload_n 1, 1) := by decide +kernel
theorem dX6_scanToken_40 : decode cX6_scanToken 40 = .ok (.iconst 0, 1) := by decide +kernel
theorem dX6_scanToken_41 : decode cX6_scanToken 41 = .ok (.invokevirtual 38, 3) := by decide +kernel
theorem dX6_scanToken_44 : decode cX6_scanToken 44 = .ok (.goto 72, 3) := by decide +kernel
theorem dX6_scanToken_47 : decode cX6_scanToken 47 = .ok (.iload_n 2, 1) := by decide +kernel
theorem dX6_scanToken_48 : decode cX6_scanToken 48 = .ok (.bipush 48, 2) := by decide +kernel
theorem dX6_scanToken_50 : decode cX6_scanToken 50 = .ok (.if_icmp .lt 47, 3) := by decide +kernel
theorem dX6_scanToken_53 : decode cX6_scanToken 53 = .ok (.iload_n 2, 1) := by decide +kernel
theorem dX6_scanToken_54 : decode cX6_scanToken 54 = .ok (.bipush 57, 2) := by decide +kernel
theorem dX6_scanToken_56 : decode cX6_scanToken 56 = .ok (.if_icmp .gt 41, 3) := by decide +kernel
theorem dX6_scanToken_59 : decode cX6_scanToken 59 = .ok (.aload_n 0, 1) := by decide +kernel
theorem dX6_scanToken_60 : decode cX6_scanToken 60 = .ok (.iload_n 1, 1) := by decide +kernel
theorem dX6_scanToken_61 : decode cX6_scanToken 61 = .ok (.bipush 48, 2) := by decide +kernel
theorem dX6_scanToken_63 : decode cX6_scanToken 63 = .ok (.bipush 57, 2) := by decide +kernel
theorem dX6_scanToken_65 : decode cX6_scanToken 65 = .ok (.invokevirtual 45, 3) := by decide +kernel
theorem dX6_scanToken_68 : decode cX6_scanToken 68 = .ok (.istore_n 3, 1) := by decide +kernel
theorem dX6_scanToken_69 : decode cX6_scanToken 69 = .ok (.aload_n 0, 1) := by decide +kernel
theorem dX6_scanToken_70 : decode cX6_scanToken 70 = .ok (.iload_n 3, 1) := by decide +kernel
theorem dX6_scanToken_71 : decode cX6_scanToken 71 = .ok (.iload_n 1, 1) := by decide +kernel
theorem dX6_scanToken_72 : decode cX6_scanToken 72 = .ok (.isub, 1) := by decide +kernel
theorem dX6_scanToken_73 : decode cX6_scanToken 73 = .ok (.iconst 4, 1) := by decide +kernel
theorem dX6_scanToken_74 : decode cX6_scanToken 74 = .ok (.if_icmp .le 8, 3) := by decide +kernel
theorem dX6_scanToken_77 : decode cX6_scanToken 77 = .ok (.bipush 15, 2) := by decide +kernel
theorem dX6_scanToken_79 : decode cX6_scanToken 79 = .ok (.goto 5, 3) := by decide +kernel
theorem dX6_scanToken_82 : decode cX6_scanToken 82 = .ok (.bipush 13, 2) := by decide +kernel
theorem dX6_scanToken_84 : decode cX6_scanToken 84 = .ok (.iload_n 1, 1) := by decide +kernel
theorem dX6_scanToken_85 : decode cX6_scanToken 85 = .ok (.aload_n 0, 1) := by decide +kernel
theorem dX6_scanToken_86 : decode cX6_scanToken 86 = .ok (.iload_n 1, 1) := by decide +kernel
theorem dX6_scanToken_87 : decode cX6_scanToken 87 = .ok (.iload_n 3, 1) := by decide +kernel
theorem dX6_scanToken_88 : decode cX6_scanToken 88 = .ok (.invokevirtual 53, 3) := by decide +kernel
theorem dX6_scanToken_91 : decode cX6_scanToken 91 = .ok (.invokevirtual 38, 3) := by decide +kernel
theorem dX6_scanToken_94 : decode cX6_scanToken 94 = .ok (.goto 22, 3) := by decide +kernel
theorem dX6_scanToken_97 : decode cX6_scanToken 97 = .ok (.aload_n 0, 1) := by decide +kernel
theorem dX6_scanToken_98 : decode cX6_scanToken 98 = .ok (.iload_n 2, 1) := by decide +kernel
theorem dX6_scanToken_99 : decode cX6_scanToken 99 = .ok (.invokestatic 56, 3) := by decide +kernel
theorem dX6_scanToken_102 : decode cX6_scanToken 102 = .ok (.ifCond .eq 7, 3) := by decide +kernel
theorem dX6_scanToken_105 : decode cX6_scanToken 105 = .ok (.iload_n 2, 1) := by decide +kernel
theorem dX6_scanToken_106 : decode cX6_scanToken 106 = .ok (.goto 5, 3) := by decide +kernel
theorem dX6_scanToken_109 : decode cX6_scanToken 109 = .ok (.bipush 15, 2) := by decide +kernel
theorem dX6_scanToken_111 : decode cX6_scanToken 111 = .ok (.iload_n 1, 1) := by decide +kernel
theorem dX6_scanToken_112 : decode cX6_scanToken 112 = .ok (.iconst 0, 1) := by decide +kernel
theorem dX6_scanToken_113 : decode cX6_scanToken 113 = .ok (.invokevirtual 38, 3) := by decide +kernel
theorem dX6_scanToken_116 : decode cX6_scanToken 116 = .ok (.iload_n 3, 1) := by decide +kernel
theorem dX6_scanToken_117 : decode cX6_scanToken 117 = .ok (.ireturn, 1) := by decide +kernel
theorem dX6_put_0 : decode cX6_put 0 = .ok (.aload_n 0, 1) := by decide +kernel
theorem dX6_put_1 : decode cX6_put 1 = .ok (.getfield 28, 3) := by decide +kernel
theorem dX6_put_4 : decode cX6_put 4 = .ok (.ifCond .lt 79, 3) := by decide +kernel
theorem dX6_put_7 : decode cX6_put 7 = .ok (.aload_n 0, 1) := by decide +kernel
theorem dX6_put_8 : decode cX6_put 8 = .ok (.getfield 28, 3) := by decide +kernel
theorem dX6_put_11 : decode cX6_put 11 = .ok (.aload_n 0, 1) := by decide +kernel
theorem dX6_put_12 : decode cX6_put 12 = .ok (.getfield 15, 3) := by decide +kernel
theorem dX6_put_15 : decode cX6_put 15 = .ok (.arraylength, 1) := by decide +kernel
theorem dX6_put_16 : decode cX6_put 16 = .ok (.if_icmp .ge 67, 3) := by decide +kernel
theorem dX6_put_19 : decode cX6_put 19 = .ok (.aload_n 0, 1) := by decide +kernel
theorem dX6_put_20 : decode cX6_put 20 = .ok (.getfield 28, 3) := by decide +kernel
theorem dX6_put_23 : decode cX6_put 23 = .ok (.aload_n 0, 1) := by decide +kernel
theorem dX6_put_24 : decode cX6_put 24 = .ok (.getfield 18, 3) := by decide +kernel
theorem dX6_put_27 : decode cX6_put 27 = .ok (.arraylength, 1) := by decide +kernel
theorem dX6_put_28 : decode cX6_put 28 = .ok (.if_icmp .ge 55, 3) := by decide +kernel
theorem dX6_put_31 : decode cX6_put 31 = .ok (.aload_n 0, 1) := by decide +kernel
theorem dX6_put_32 : decode cX6_put 32 = .ok (.getfield 28, 3) := by decide +kernel
theorem dX6_put_35 : decode cX6_put 35 = .ok (.aload_n 0, 1) := by decide +kernel
theorem dX6_put_36 : decode cX6_put 36 = .ok (.getfield 21, 3) := by decide +kernel
theorem dX6_put_39 : decode cX6_put 39 = .ok (.arraylength, 1) := by decide +kernel
theorem dX6_put_40 : decode cX6_put 40 = .ok (.if_icmp .ge 43, 3) := by decide +kernel
theorem dX6_put_43 : decode cX6_put 43 = .ok (.aload_n 0, 1) := by decide +kernel
theorem dX6_put_44 : decode cX6_put 44 = .ok (.getfield 15, 3) := by decide +kernel
theorem dX6_put_47 : decode cX6_put 47 = .ok (.aload_n 0, 1) := by decide +kernel
theorem dX6_put_48 : decode cX6_put 48 = .ok (.getfield 28, 3) := by decide +kernel
theorem dX6_put_51 : decode cX6_put 51 = .ok (.iload_n 1, 1) := by decide +kernel
theorem dX6_put_52 : decode cX6_put 52 = .ok (.iastore, 1) := by decide +kernel
theorem dX6_put_53 : decode cX6_put 53 = .ok (.aload_n 0, 1) := by decide +kernel
theorem dX6_put_54 : decode cX6_put 54 = .ok (.getfield 18, 3) := by decide +kernel
theorem dX6_put_57 : decode cX6_put 57 = .ok (.aload_n 0, 1) := by decide +kernel
theorem dX6_put_58 : decode cX6_put 58 = .ok (.getfield 28, 3) := by decide +kernel
theorem dX6_put_61 : decode cX6_put 61 = .ok (.iload_n 2, 1) := by decide +kernel
theorem dX6_put_62 : decode cX6_put 62 = .ok (.iastore, 1) := by decide +kernel
theorem dX6_put_63 : decode cX6_put 63 = .ok (.aload_n 0, 1) := by decide +kernel
theorem dX6_put_64 : decode cX6_put 64 = .ok (.getfield 21, 3) := by decide +kernel
theorem dX6_put_67 : decode cX6_put 67 = .ok (.aload_n 0, 1) := by decide +kernel
theorem dX6_put_68 : decode cX6_put 68 = .ok (.getfield 28, 3) := by decide +kernel
theorem dX6_put_71 : decode cX6_put 71 = .ok (.iload_n 3, 1) := by decide +kernel
theorem dX6_put_72 : decode cX6_put 72 = .ok (.iastore, 1) := by decide +kernel
theorem dX6_put_73 : decode cX6_put 73 = .ok (.aload_n 0, 1) := by decide +kernel
theorem dX6_put_74 : decode cX6_put 74 = .ok (.dup, 1) := by decide +kernel
theorem dX6_put_75 : decode cX6_put 75 = .ok (.getfield 28, 3) := by decide +kernel
theorem dX6_put_78 : decode cX6_put 78 = .ok (.iconst 1, 1) := by decide +kernel
theorem dX6_put_79 : decode cX6_put 79 = .ok (.iadd, 1) := by decide +kernel
theorem dX6_put_80 : decode cX6_put 80 = .ok (.putfield 28, 3) := by decide +kernel
theorem dX6_put_83 : decode cX6_put 83 = .ok (.return_, 1) := by decide +kernel
theorem dX6_byteAt_0 : decode cX6_byteAt 0 = .ok (.iload_n 1, 1) := by decide +kernel
theorem dX6_byteAt_1 : decode cX6_byteAt 1 = .ok (.ifCond .lt 29, 3) := by decide +kernel
theorem dX6_byteAt_4 : decode cX6_byteAt 4 = .ok (.iload_n 1, 1) := by decide +kernel
theorem dX6_byteAt_5 : decode cX6_byteAt 5 = .ok (.aload_n 0, 1) := by decide +kernel
theorem dX6_byteAt_6 : decode cX6_byteAt 6 = .ok (.getfield 24, 3) := by decide +kernel
theorem dX6_byteAt_9 : decode cX6_byteAt 9 = .ok (.if_icmp .ge 21, 3) := by decide +kernel
theorem dX6_byteAt_12 : decode cX6_byteAt 12 = .ok (.iload_n 1, 1) := by decide +kernel
theorem dX6_byteAt_13 : decode cX6_byteAt 13 = .ok (.aload_n 0, 1) := by decide +kernel
theorem dX6_byteAt_14 : decode cX6_byteAt 14 = .ok (.getfield 9, 3) := by decide +kernel
theorem dX6_byteAt_17 : decode cX6_byteAt 17 = .ok (.arraylength, 1) := by decide +kernel
theorem dX6_byteAt_18 : decode cX6_byteAt 18 = .ok (.if_icmp .ge 12, 3) := by decide +kernel
theorem dX6_byteAt_21 : decode cX6_byteAt 21 = .ok (.aload_n 0, 1) := by decide +kernel
theorem dX6_byteAt_22 : decode cX6_byteAt 22 = .ok (.getfield 9, 3) := by decide +kernel
theorem dX6_byteAt_25 : decode cX6_byteAt 25 = .ok (.iload_n 1, 1) := by decide +kernel
theorem dX6_byteAt_26 : decode cX6_byteAt 26 = .ok (.iaload, 1) := by decide +kernel
theorem dX6_byteAt_27 : decode cX6_byteAt 27 = .ok (.goto 4, 3) := by decide +kernel
theorem dX6_byteAt_30 : decode cX6_byteAt 30 = .ok (.iconst (-1), 1) := by decide +kernel
theorem dX6_byteAt_31 : decode cX6_byteAt 31 = .ok (.ireturn, 1) := by decide +kernel
theorem dX6_behindBlanks_0 : decode cX6_behindBlanks 0 = .ok (.iload_n 1, 1) := by decide +kernel
theorem dX6_behindBlanks_1 : decode cX6_behindBlanks 1 = .ok (.istore_n 2, 1) := by decide +kernel
theorem dX6_behindBlanks_2 : decode cX6_behindBlanks 2 = .ok (.iload_n 2, 1) := by decide +kernel
theorem dX6_behindBlanks_3 : decode cX6_behindBlanks 3 = .ok (.aload_n 0, 1) := by decide +kernel
theorem dX6_behindBlanks_4 : decode cX6_behindBlanks 4 = .ok (.getfield 24, 3) := by decide +kernel
theorem dX6_behindBlanks_7 : decode cX6_behindBlanks 7 = .ok (.if_icmp .ge 29, 3) := by decide +kernel
theorem dX6_behindBlanks_10 : decode cX6_behindBlanks 10 = .ok (.aload_n 0, 1) := by decide +kernel
theorem dX6_behindBlanks_11 : decode cX6_behindBlanks 11 = .ok (.iload_n 2, 1) := by decide +kernel
theorem dX6_behindBlanks_12 : decode cX6_behindBlanks 12 = .ok (.invokevirtual 42, 3) := by decide +kernel
theorem dX6_behindBlanks_15 : decode cX6_behindBlanks 15 = .ok (.bipush 32, 2) := by decide +kernel
theorem dX6_behindBlanks_17 : decode cX6_behindBlanks 17 = .ok (.if_icmp .eq 13, 3) := by decide +kernel
theorem dX6_behindBlanks_20 : decode cX6_behindBlanks 20 = .ok (.aload_n 0, 1) := by decide +kernel
theorem dX6_behindBlanks_21 : decode cX6_behindBlanks 21 = .ok (.iload_n 2, 1) := by decide +kernel
theorem dX6_behindBlanks_22 : decode cX6_behindBlanks 22 = .ok (.invokevirtual 42, 3) := by decide +kernel
theorem dX6_behindBlanks_25 : decode cX6_behindBlanks 25 = .ok (.bipush 10, 2) := by decide +kernel
theorem dX6_behindBlanks_27 : decode cX6_behindBlanks 27 = .ok (.if_icmp .ne 9, 3) := by decide +kernel
theorem dX6_behindBlanks_30 : decode cX6_behindBlanks 30 = .ok (.iinc 2 1, 3) := by decide +kernel
theorem dX6_behindBlanks_33 : decode cX6_behindBlanks 33 = .ok (.goto (-31), 3) := by decide +kernel
theorem dX6_behindBlanks_36 : decode cX6_behindBlanks 36 = .ok (.iload_n 2, 1) := by decide +kernel
theorem dX6_behindBlanks_37 : decode cX6_behindBlanks 37 = .ok (.ireturn, 1) := by decide +kernel
theorem dX6_endOfRun_0 : decode cX6_endOfRun 0 = .ok (.iload_n 1, 1) := by decide +kernel
theorem dX6_endOfRun_1 : decode cX6_endOfRun 1 = .ok (.istore 4, 2) := by decide +kernel
theorem dX6_endOfRun_3 : decode cX6_endOfRun 3 = .ok (.iload 4, 2) := by decide +kernel
theorem dX6_endOfRun_5 : decode cX6_endOfRun 5 = .ok (.aload_n 0, 1) := by decide +kernel
theorem dX6_endOfRun_6 : decode cX6_endOfRun 6 = .ok (.getfield 24, 3) := by decide +kernel
theorem dX6_endOfRun_9 : decode cX6_endOfRun 9 = .ok (.if_icmp .ge 29, 3) := by decide +kernel
theorem dX6_endOfRun_12 : decode cX6_endOfRun 12 = .ok (.aload_n 0, 1) := by decide +kernel
theorem dX6_endOfRun_13 : decode cX6_endOfRun 13 = .ok (.iload 4, 2) := by decide +kernel
theorem dX6_endOfRun_15 : decode cX6_endOfRun 15 = .ok (.invokevirtual 42, 3) := by decide +kernel
theorem dX6_endOfRun_18 : decode cX6_endOfRun 18 = .ok (.iload_n 2, 1) := by decide +kernel
theorem dX6_endOfRun_19 : decode cX6_endOfRun 19 = .ok (.if_icmp .lt 19, 3) := by decide +kernel
theorem dX6_endOfRun_22 : decode cX6_endOfRun 22 = .ok (.aload_n 0, 1) := by decide +kernel
theorem dX6_endOfRun_23 : decode cX6_endOfRun 23 = .ok (.iload 4, 2) := by decide +kernel
theorem dX6_endOfRun_25 : decode cX6_endOfRun 25 = .ok (.invokevirtual 42, 3) := by decide +kernel
theorem dX6_endOfRun_28 : decode cX6_endOfRun 28 = .ok (.iload_n 3, 1) := by decide +kernel
theorem dX6_endOfRun_29 : decode cX6_endOfRun 29 = .ok (.if_icmp .gt 9, 3) := by decide +kernel
theorem dX6_endOfRun_32 : decode cX6_endOfRun 32 = .ok (.iinc 4 1, 3) := by decide +kernel
theorem dX6_endOfRun_35 : decode cX6_endOfRun 35 = .ok (.goto (-32), 3) := by decide +kernel
theorem dX6_endOfRun_38 : decode cX6_endOfRun 38 = .ok (.iload 4, 2) := by decide +kernel
theorem dX6_endOfRun_40 : decode cX6_endOfRun 40 = .ok (.ireturn, 1) := by decide +kernel
theorem dX6_numberOf_0 : decode cX6_numberOf 0 = .ok (.iconst 0, 1) := by decide +kernel
theorem dX6_numberOf_1 : decode cX6_numberOf 1 = .ok (.istore_n 3, 1) := by decide +kernel
theorem dX6_numberOf_2 : decode cX6_numberOf 2 = .ok (.iload_n 1, 1) := by decide +kernel
theorem dX6_numberOf_3 : decode cX6_numberOf 3 = .ok (.istore 4, 2) := by decide +kernel
theorem dX6_numberOf_5 : decode cX6_numberOf 5 = .ok (.iload 4, 2) := by decide +kernel
theorem dX6_numberOf_7 : decode cX6_numberOf 7 = .ok (.iload_n 2, 1) := by decide +kernel
theorem dX6_numberOf_8 : decode cX6_numberOf 8 = .ok (.if_icmp .ge 24, 3) := by decide +kernel
theorem dX6_numberOf_11 : decode cX6_numberOf 11 = .ok (.iload_n 3, 1) := by decide +kernel
theorem dX6_numberOf_12 : decode cX6_numberOf 12 = .ok (.bipush 10, 2) := by decide +kernel
theorem dX6_numberOf_14 : decode cX6_numberOf 14 = .ok (.imul, 1) := by decide +kernel
theorem dX6_numberOf_15 : decode cX6_numberOf 15 = .ok (.aload_n 0, 1) := by decide +kernel
theorem dX6_numberOf_16 : decode cX6_numberOf 16 = .ok (.iload 4, 2) := by decide +kernel
theorem dX6_numberOf_18 : decode cX6_numberOf 18 = .ok (.invokevirtual 42, 3) := by decide +kernel
theorem dX6_numberOf_21 : decode cX6_numberOf 21 = .ok (.iadd, 1) := by decide +kernel
theorem dX6_numberOf_22 : decode cX6_numberOf 22 = .ok (.bipush 48, 2) := by decide +kernel
theorem dX6_numberOf_24 : decode cX6_numberOf 24 = .ok (.isub, 1) := by decide +kernel
theorem dX6_numberOf_25 : decode cX6_numberOf 25 = .ok (.istore_n 3, 1) := by decide +kernel
theorem dX6_numberOf_26 : decode cX6_numberOf 26 = .ok (.iinc 4 1, 3) := by decide +kernel
theorem dX6_numberOf_29 : decode cX6_numberOf 29 = .ok (.goto (-24), 3) := by decide +kernel
theorem dX6_numberOf_32 : decode cX6_numberOf 32 = .ok (.iload_n 3, 1) := by decide +kernel
theorem dX6_numberOf_33 : decode cX6_numberOf 33 = .ok (.ireturn, 1) := by decide +kernel
theorem dX6_wordOf_0 : decode cX6_wordOf 0 = .ok (.iconst 1, 1) := by decide +kernel
theorem dX6_wordOf_1 : decode cX6_wordOf 1 = .ok (.istore_n 3, 1) := by decide +kernel
theorem dX6_wordOf_2 : decode cX6_wordOf 2 = .ok (.iload_n 3, 1) := by decide +kernel
theorem dX6_wordOf_3 : decode cX6_wordOf 3 = .ok (.bipush 12, 2) := by decide +kernel
theorem dX6_wordOf_5 : decode cX6_wordOf 5 = .ok (.if_icmp .gt 24, 3) := by decide +kernel
theorem dX6_wordOf_8 : decode cX6_wordOf 8 = .ok (.aload_n 0, 1) := by decide +kernel
theorem dX6_wordOf_9 : decode cX6_wordOf 9 = .ok (.iload_n 3, 1) := by decide +kernel
theorem dX6_wordOf_10 : decode cX6_wordOf 10 = .ok (.invokestatic 60, 3) := by decide +kernel
theorem dX6_wordOf_13 : decode cX6_wordOf 13 = .ok (.iload_n 1, 1) := by decide +kernel
theorem dX6_wordOf_14 : decode cX6_wordOf 14 = .ok (.iload_n 2, 1) := by decide +kernel
theorem dX6_wordOf_15 : decode cX6_wordOf 15 = .ok (.invokevirtual 64, 3) := by decide +kernel
theorem dX6_wordOf_18 : decode cX6_wordOf 18 = .ok (.ifCond .eq 5, 3) := by decide +kernel
theorem dX6_wordOf_21 : decode cX6_wordOf 21 = .ok (.iload_n 3, 1) := by decide +kernel
theorem dX6_wordOf_22 : decode cX6_wordOf 22 = .ok (.ireturn, 1) := by decide +kernel
theorem dX6_wordOf_23 : decode cX6_wordOf 23 = .ok (.iinc 3 1, 3) := by decide +kernel
theorem dX6_wordOf_26 : decode cX6_wordOf 26 = .ok (.goto (-24), 3) := by decide +kernel
theorem dX6_wordOf_29 : decode cX6_wordOf 29 = .ok (.bipush 15, 2) := by decide +kernel
theorem dX6_wordOf_31 : decode cX6_wordOf 31 = .ok (.ireturn, 1) := by decide +kernel
theorem dX6_stands_0 : decode cX6_stands 0 = .ok (.aload_n 1, 1) := by decide +kernel
theorem dX6_stands_1 : decode cX6_stands 1 = .ok (.invokevirtual 68, 3) := by decide +kernel
theorem dX6_stands_4 : decode cX6_stands 4 = .ok (.iload_n 3, 1) := by decide +kernel
theorem dX6_stands_5 : decode cX6_stands 5 = .ok (.iload_n 2, 1) := by decide +kernel
theorem dX6_stands_6 : decode cX6_stands 6 = .ok (.isub, 1) := by decide +kernel
theorem dX6_stands_7 : decode cX6_stands 7 = .ok (.if_icmp .eq 5, 3) := by decide +kernel
theorem dX6_stands_10 : decode cX6_stands 10 = .ok (.iconst 0, 1) := by decide +kernel
theorem dX6_stands_11 : decode cX6_stands 11 = .ok (.ireturn, 1) := by decide +kernel
theorem dX6_stands_12 : decode cX6_stands 12 = .ok (.iconst 0, 1) := by decide +kernel
theorem dX6_stands_13 : decode cX6_stands 13 = .ok (.istore 4, 2) := by decide +kernel
theorem dX6_stands_15 : decode cX6_stands 15 = .ok (.iload 4, 2) := by decide +kernel
theorem dX6_stands_17 : decode cX6_stands 17 = .ok (.aload_n 1, 1) := by decide +kernel
theorem dX6_stands_18 : decode cX6_stands 18 = .ok (.invokevirtual 68, 3) := by decide +kernel
theorem dX6_stands_21 : decode cX6_stands 21 = .ok (.if_icmp .ge 28, 3) := by decide +kernel
theorem dX6_stands_24 : decode cX6_stands 24 = .ok (.aload_n 1, 1) := by decide +kernel
theorem dX6_stands_25 : decode cX6_stands 25 = .ok (.iload 4, 2) := by decide +kernel
theorem dX6_stands_27 : decode cX6_stands 27 = .ok (.invokevirtual 74, 3) := by decide +kernel
theorem dX6_stands_30 : decode cX6_stands 30 = .ok (.aload_n 0, 1) := by decide +kernel
theorem dX6_stands_31 : decode cX6_stands 31 = .ok (.iload_n 2, 1) := by decide +kernel
theorem dX6_stands_32 : decode cX6_stands 32 = .ok (.iload 4, 2) := by decide +kernel
theorem dX6_stands_34 : decode cX6_stands 34 = .ok (.iadd, 1) := by decide +kernel
theorem dX6_stands_35 : decode cX6_stands 35 = .ok (.invokevirtual 42, 3) := by decide +kernel
theorem dX6_stands_38 : decode cX6_stands 38 = .ok (.if_icmp .eq 5, 3) := by decide +kernel
theorem dX6_stands_41 : decode cX6_stands 41 = .ok (.iconst 0, 1) := by decide +kernel
theorem dX6_stands_42 : decode cX6_stands 42 = .ok (.ireturn, 1) := by decide +kernel
theorem dX6_stands_43 : decode cX6_stands 43 = .ok (.iinc 4 1, 3) := by decide +kernel
theorem dX6_stands_46 : decode cX6_stands 46 = .ok (.goto (-31), 3) := by decide +kernel
theorem dX6_stands_49 : decode cX6_stands 49 = .ok (.iconst 1, 1) := by decide +kernel
theorem dX6_stands_50 : decode cX6_stands 50 = .ok (.ireturn, 1) := by decide +kernel
theorem dX6_isSign_0 : decode cX6_isSign 0 = .ok (.iload_n 0, 1) := by decide +kernel
theorem dX6_isSign_1 : decode cX6_isSign 1 = .ok (.tableswitch 105 40 61 #[103, 103, 103, 103, 105, 103, 105, 105, 105, 105, 105, 105, 105, 105, 105, 105, 105, 105, 105, 103, 103, 103], 103) := by decide +kernel
theorem dX6_isSign_104 : decode cX6_isSign 104 = .ok (.iconst 1, 1) := by decide +kernel
theorem dX6_isSign_105 : decode cX6_isSign 105 = .ok (.ireturn, 1) := by decide +kernel
theorem dX6_isSign_106 : decode cX6_isSign 106 = .ok (.iconst 0, 1) := by decide +kernel
theorem dX6_isSign_107 : decode cX6_isSign 107 = .ok (.ireturn, 1) := by decide +kernel
theorem dX6_spelled_0 : decode cX6_spelled 0 = .ok (.iload_n 0, 1) := by decide +kernel
theorem dX6_spelled_1 : decode cX6_spelled 1 = .ok (.tableswitch 99 1 12 #[63, 66, 69, 72, 75, 78, 81, 84, 87, 90, 93, 96], 63) := by decide +kernel
theorem dX6_spelled_64 : decode cX6_spelled 64 = .ok (.ldc 78, 2) := by decide +kernel
theorem dX6_spelled_66 : decode cX6_spelled 66 = .ok (.areturn, 1) := by decide +kernel
theorem dX6_spelled_67 : decode cX6_spelled 67 = .ok (.ldc 80, 2) := by decide +kernel
theorem dX6_spelled_69 : decode cX6_spelled 69 = .ok (.areturn, 1) := by decide +kernel
theorem dX6_spelled_70 : decode cX6_spelled 70 = .ok (.ldc 82, 2) := by decide +kernel
theorem dX6_spelled_72 : decode cX6_spelled 72 = .ok (.areturn, 1) := by decide +kernel
theorem dX6_spelled_73 : decode cX6_spelled 73 = .ok (.ldc 84, 2) := by decide +kernel
theorem dX6_spelled_75 : decode cX6_spelled 75 = .ok (.areturn, 1) := by decide +kernel
theorem dX6_spelled_76 : decode cX6_spelled 76 = .ok (.ldc 86, 2) := by decide +kernel
theorem dX6_spelled_78 : decode cX6_spelled 78 = .ok (.areturn, 1) := by decide +kernel
theorem dX6_spelled_79 : decode cX6_spelled 79 = .ok (.ldc 88, 2) := by decide +kernel
theorem dX6_spelled_81 : decode cX6_spelled 81 = .ok (.areturn, 1) := by decide +kernel
theorem dX6_spelled_82 : decode cX6_spelled 82 = .ok (.ldc 90, 2) := by decide +kernel
theorem dX6_spelled_84 : decode cX6_spelled 84 = .ok (.areturn, 1) := by decide +kernel
theorem dX6_spelled_85 : decode cX6_spelled 85 = .ok (.ldc 92, 2) := by decide +kernel
theorem dX6_spelled_87 : decode cX6_spelled 87 = .ok (.areturn, 1) := by decide +kernel
theorem dX6_spelled_88 : decode cX6_spelled 88 = .ok (.ldc 94, 2) := by decide +kernel
theorem dX6_spelled_90 : decode cX6_spelled 90 = .ok (.areturn, 1) := by decide +kernel
theorem dX6_spelled_91 : decode cX6_spelled 91 = .ok (.ldc 96, 2) := by decide +kernel
theorem dX6_spelled_93 : decode cX6_spelled 93 = .ok (.areturn, 1) := by decide +kernel
theorem dX6_spelled_94 : decode cX6_spelled 94 = .ok (.ldc 98, 2) := by decide +kernel
theorem dX6_spelled_96 : decode cX6_spelled 96 = .ok (.areturn, 1) := by decide +kernel
theorem dX6_spelled_97 : decode cX6_spelled 97 = .ok (.ldc 100, 2) := by decide +kernel
theorem dX6_spelled_99 : decode cX6_spelled 99 = .ok (.areturn, 1) := by decide +kernel
theorem dX6_spelled_100 : decode cX6_spelled 100 = .ok (.ldc 102, 2) := by decide +kernel
theorem dX6_spelled_102 : decode cX6_spelled 102 = .ok (.areturn, 1) := by decide +kernel
theorem dX7_init_0 : decode cX7_init 0 = .ok (.aload_n 0, 1) := by decide +kernel
theorem dX7_init_1 : decode cX7_init 1 = .ok (.invokespecial 3, 3) := by decide +kernel
theorem dX7_init_4 : decode cX7_init 4 = .ok (.aload_n 0, 1) := by decide +kernel
theorem dX7_init_5 : decode cX7_init 5 = .ok (.sipush 160, 3) := by decide +kernel
theorem dX7_init_8 : decode cX7_init 8 = .ok (.newarray .int, 2) := by decide +kernel
theorem dX7_init_10 : decode cX7_init 10 = .ok (.putfield 9, 3) := by decide +kernel
theorem dX7_init_13 : decode cX7_init 13 = .ok (.aload_n 0, 1) := by decide +kernel
theorem dX7_init_14 : decode cX7_init 14 = .ok (.iconst 3, 1) := by decide +kernel
theorem dX7_init_15 : decode cX7_init 15 = .ok (.newarray .int, 2) := by decide +kernel
theorem dX7_init_17 : decode cX7_init 17 = .ok (.putfield 15, 3) := by decide +kernel
theorem dX7_init_20 : decode cX7_init 20 = .ok (.return_, 1) := by decide +kernel
theorem dX7_begin_0 : decode cX7_begin 0 = .ok (.aload_n 0, 1) := by decide +kernel
theorem dX7_begin_1 : decode cX7_begin 1 = .ok (.iconst 0, 1) := by decide +kernel
theorem dX7_begin_2 : decode cX7_begin 2 = .ok (.putfield 18, 3) := by decide +kernel
theorem dX7_begin_5 : decode cX7_begin 5 = .ok (.return_, 1) := by decide +kernel
theorem dX7_keep_0 : decode cX7_keep 0 = .ok (.aload_n 0, 1) := by decide +kernel
theorem dX7_keep_1 : decode cX7_keep 1 = .ok (.getfield 18, 3) := by decide +kernel
theorem dX7_keep_4 : decode cX7_keep 4 = .ok (.ifCond .lt 35, 3) := by decide +kernel
theorem dX7_keep_7 : decode cX7_keep 7 = .ok (.aload_n 0, 1) := by decide +kernel
theorem dX7_keep_8 : decode cX7_keep 8 = .ok (.getfield 18, 3) := by decide +kernel
theorem dX7_keep_11 : decode cX7_keep 11 = .ok (.aload_n 0, 1) := by decide +kernel
theorem dX7_keep_12 : decode cX7_keep 12 = .ok (.getfield 9, 3) := by decide +kernel
theorem dX7_keep_15 : decode cX7_keep 15 = .ok (.arraylength, 1) := by decide +kernel
theorem dX7_keep_16 : decode cX7_keep 16 = .ok (.if_icmp .ge 23, 3) := by decide +kernel
theorem dX7_keep_19 : decode cX7_keep 19 = .ok (.aload_n 0, 1) := by decide +kernel
theorem dX7_keep_20 : decode cX7_keep 20 = .ok (.getfield 9, 3) := by decide +kernel
theorem dX7_keep_23 : decode cX7_keep 23 = .ok (.aload_n 0, 1) := by decide +kernel
theorem dX7_keep_24 : decode cX7_keep 24 = .ok (.getfield 18, 3) := by decide +kernel
theorem dX7_keep_27 : decode cX7_keep 27 = .ok (.iload_n 1, 1) := by decide +kernel
theorem dX7_keep_28 : decode cX7_keep 28 = .ok (.iastore, 1) := by decide +kernel
theorem dX7_keep_29 : decode cX7_keep 29 = .ok (.aload_n 0, 1) := by decide +kernel
theorem dX7_keep_30 : decode cX7_keep 30 = .ok (.dup, 1) := by decide +kernel
theorem dX7_keep_31 : decode cX7_keep 31 = .ok (.getfield 18, 3) := by decide +kernel
theorem dX7_keep_34 : decode cX7_keep 34 = .ok (.iconst 1, 1) := by decide +kernel
theorem dX7_keep_35 : decode cX7_keep 35 = .ok (.iadd, 1) := by decide +kernel
theorem dX7_keep_36 : decode cX7_keep 36 = .ok (.putfield 18, 3) := by decide +kernel
theorem dX7_keep_39 : decode cX7_keep 39 = .ok (.return_, 1) := by decide +kernel
theorem dX7_endPart_0 : decode cX7_endPart 0 = .ok (.iload_n 1, 1) := by decide +kernel
theorem dX7_endPart_1 : decode cX7_endPart 1 = .ok (.ifCond .lt 22, 3) := by decide +kernel
theorem dX7_endPart_4 : decode cX7_endPart 4 = .ok (.iload_n 1, 1) := by decide +kernel
theorem dX7_endPart_5 : decode cX7_endPart 5 = .ok (.aload_n 0, 1) := by decide +kernel
theorem dX7_endPart_6 : decode cX7_endPart 6 = .ok (.getfield 15, 3) := by decide +kernel
theorem dX7_endPart_9 : decode cX7_endPart 9 = .ok (.arraylength, 1) := by decide +kernel
theorem dX7_endPart_10 : decode cX7_endPart 10 = .ok (.if_icmp .ge 13, 3) := by decide +kernel
theorem dX7_endPart_13 : decode cX7_endPart 13 = .ok (.aload_n 0, 1) := by decide +kernel
theorem dX7_endPart_14 : decode cX7_endPart 14 = .ok (.getfield 15, 3) := by decide +kernel
theorem dX7_endPart_17 : decode cX7_endPart 17 = .ok (.iload_n 1, 1) := by decide +kernel
theorem dX7_endPart_18 : decode cX7_endPart 18 = .ok (.aload_n 0, 1) := by decide +kernel
theorem dX7_endPart_19 : decode cX7_endPart 19 = .ok (.getfield 18, 3) := by decide +kernel
theorem dX7_endPart_22 : decode cX7_endPart 22 = .ok (.iastore, 1) := by decide +kernel
theorem dX7_endPart_23 : decode cX7_endPart 23 = .ok (.return_, 1) := by decide +kernel
theorem dX7_startOf_0 : decode cX7_startOf 0 = .ok (.iload_n 1, 1) := by decide +kernel
theorem dX7_startOf_1 : decode cX7_startOf 1 = .ok (.iconst 1, 1) := by decide +kernel
theorem dX7_startOf_2 : decode cX7_startOf 2 = .ok (.if_icmp .lt 23, 3) := by decide +kernel
theorem dX7_startOf_5 : decode cX7_startOf 5 = .ok (.iload_n 1, 1) := by decide +kernel
theorem dX7_startOf_6 : decode cX7_startOf 6 = .ok (.aload_n 0, 1) := by decide +kernel
theorem dX7_startOf_7 : decode cX7_startOf 7 = .ok (.getfield 15, 3) := by decide +kernel
theorem dX7_startOf_10 : decode cX7_startOf 10 = .ok (.arraylength, 1) := by decide +kernel
theorem dX7_startOf_11 : decode cX7_startOf 11 = .ok (.if_icmp .gt 14, 3) := by decide +kernel
theorem dX7_startOf_14 : decode cX7_startOf 14 = .ok (.aload_n 0, 1) := by decide +kernel
theorem dX7_startOf_15 : decode cX7_startOf 15 = .ok (.getfield 15, 3) := by decide +kernel
theorem dX7_startOf_18 : decode cX7_startOf 18 = .ok (.iload_n 1, 1) := by decide +kernel
theorem dX7_startOf_19 : decode cX7_startOf 19 = .ok (.iconst 1, 1) := by decide +kernel
theorem dX7_startOf_20 : decode cX7_startOf 20 = .ok (.isub, 1) := by decide +kernel
theorem dX7_startOf_21 : decode cX7_startOf 21 = .ok (.iaload, 1) := by decide +kernel
theorem dX7_startOf_22 : decode cX7_startOf 22 = .ok (.goto 4, 3) := by decide +kernel
theorem dX7_startOf_25 : decode cX7_startOf 25 = .ok (.iconst 0, 1) := by decide +kernel
theorem dX7_startOf_26 : decode cX7_startOf 26 = .ok (.ireturn, 1) := by decide +kernel
theorem dX7_endOf_0 : decode cX7_endOf 0 = .ok (.iload_n 1, 1) := by decide +kernel
theorem dX7_endOf_1 : decode cX7_endOf 1 = .ok (.ifCond .lt 21, 3) := by decide +kernel
theorem dX7_endOf_4 : decode cX7_endOf 4 = .ok (.iload_n 1, 1) := by decide +kernel
theorem dX7_endOf_5 : decode cX7_endOf 5 = .ok (.aload_n 0, 1) := by decide +kernel
theorem dX7_endOf_6 : decode cX7_endOf 6 = .ok (.getfield 15, 3) := by decide +kernel
theorem dX7_endOf_9 : decode cX7_endOf 9 = .ok (.arraylength, 1) := by decide +kernel
theorem dX7_endOf_10 : decode cX7_endOf 10 = .ok (.if_icmp .ge 12, 3) := by decide +kernel
theorem dX7_endOf_13 : decode cX7_endOf 13 = .ok (.aload_n 0, 1) := by decide +kernel
theorem dX7_endOf_14 : decode cX7_endOf 14 = .ok (.getfield 15, 3) := by decide +kernel
theorem dX7_endOf_17 : decode cX7_endOf 17 = .ok (.iload_n 1, 1) := by decide +kernel
theorem dX7_endOf_18 : decode cX7_endOf 18 = .ok (.iaload, 1) := by decide +kernel
theorem dX7_endOf_19 : decode cX7_endOf 19 = .ok (.goto 4, 3) := by decide +kernel
theorem dX7_endOf_22 : decode cX7_endOf 22 = .ok (.iconst 0, 1) := by decide +kernel
theorem dX7_endOf_23 : decode cX7_endOf 23 = .ok (.ireturn, 1) := by decide +kernel
theorem dX7_itemAt_0 : decode cX7_itemAt 0 = .ok (.iload_n 1, 1) := by decide +kernel
theorem dX7_itemAt_1 : decode cX7_itemAt 1 = .ok (.ifCond .lt 21, 3) := by decide +kernel
theorem dX7_itemAt_4 : decode cX7_itemAt 4 = .ok (.iload_n 1, 1) := by decide +kernel
theorem dX7_itemAt_5 : decode cX7_itemAt 5 = .ok (.aload_n 0, 1) := by decide +kernel
theorem dX7_itemAt_6 : decode cX7_itemAt 6 = .ok (.getfield 9, 3) := by decide +kernel
theorem dX7_itemAt_9 : decode cX7_itemAt 9 = .ok (.arraylength, 1) := by decide +kernel
theorem dX7_itemAt_10 : decode cX7_itemAt 10 = .ok (.if_icmp .ge 12, 3) := by decide +kernel
theorem dX7_itemAt_13 : decode cX7_itemAt 13 = .ok (.aload_n 0, 1) := by decide +kernel
theorem dX7_itemAt_14 : decode cX7_itemAt 14 = .ok (.getfield 9, 3) := by decide +kernel
theorem dX7_itemAt_17 : decode cX7_itemAt 17 = .ok (.iload_n 1, 1) := by decide +kernel
theorem dX7_itemAt_18 : decode cX7_itemAt 18 = .ok (.iaload, 1) := by decide +kernel
theorem dX7_itemAt_19 : decode cX7_itemAt 19 = .ok (.goto 4, 3) := by decide +kernel
theorem dX7_itemAt_22 : decode cX7_itemAt 22 = .ok (.iconst 0, 1) := by decide +kernel
theorem dX7_itemAt_23 : decode cX7_itemAt 23 = .ok (.ireturn, 1) := by decide +kernel
theorem dX8_init_0 : decode cX8_init 0 = .ok (.aload_n 0, 1) := by decide +kernel
theorem dX8_init_1 : decode cX8_init 1 = .ok (.invokespecial 1, 3) := by decide +kernel
theorem dX8_init_4 : decode cX8_init 4 = .ok (.return_, 1) := by decide +kernel
theorem dX8_become_0 : decode cX8_become 0 = .ok (.aload_n 0, 1) := by decide +kernel
theorem dX8_become_1 : decode cX8_become 1 = .ok (.iload_n 1, 1) := by decide +kernel
theorem dX8_become_2 : decode cX8_become 2 = .ok (.putfield 7, 3) := by decide +kernel
theorem dX8_become_5 : decode cX8_become 5 = .ok (.aload_n 0, 1) := by decide +kernel
theorem dX8_become_6 : decode cX8_become 6 = .ok (.iload_n 2, 1) := by decide +kernel
theorem dX8_become_7 : decode cX8_become 7 = .ok (.putfield 13, 3) := by decide +kernel
theorem dX8_become_10 : decode cX8_become 10 = .ok (.aload_n 0, 1) := by decide +kernel
theorem dX8_become_11 : decode cX8_become 11 = .ok (.iload_n 3, 1) := by decide +kernel
theorem dX8_become_12 : decode cX8_become 12 = .ok (.putfield 16, 3) := by decide +kernel
theorem dX8_become_15 : decode cX8_become 15 = .ok (.return_, 1) := by decide +kernel
theorem dX8_passes_0 : decode cX8_passes 0 = .ok (.iload_n 1, 1) := by decide +kernel
theorem dX8_passes_1 : decode cX8_passes 1 = .ok (.aload_n 0, 1) := by decide +kernel
theorem dX8_passes_2 : decode cX8_passes 2 = .ok (.getfield 7, 3) := by decide +kernel
theorem dX8_passes_5 : decode cX8_passes 5 = .ok (.aload_n 0, 1) := by decide +kernel
theorem dX8_passes_6 : decode cX8_passes 6 = .ok (.getfield 13, 3) := by decide +kernel
theorem dX8_passes_9 : decode cX8_passes 9 = .ok (.invokestatic 19, 3) := by decide +kernel
theorem dX8_passes_12 : decode cX8_passes 12 = .ok (.if_icmp .lt 22, 3) := by decide +kernel
theorem dX8_passes_15 : decode cX8_passes 15 = .ok (.iload_n 1, 1) := by decide +kernel
theorem dX8_passes_16 : decode cX8_passes 16 = .ok (.aload_n 0, 1) := by decide +kernel
theorem dX8_passes_17 : decode cX8_passes 17 = .ok (.getfield 7, 3) := by decide +kernel
theorem dX8_passes_20 : decode cX8_passes 20 = .ok (.aload_n 0, 1) := by decide +kernel
theorem dX8_passes_21 : decode cX8_passes 21 = .ok (.getfield 13, 3) := by decide +kernel
theorem dX8_passes_24 : decode cX8_passes 24 = .ok (.invokestatic 25, 3) := by decide +kernel
theorem dX8_passes_27 : decode cX8_passes 27 = .ok (.if_icmp .gt 7, 3) := by decide +kernel
theorem dX8_passes_30 : decode cX8_passes 30 = .ok (.iconst 1, 1) := by decide +kernel
theorem dX8_passes_31 : decode cX8_passes 31 = .ok (.goto 4, 3) := by decide +kernel
theorem dX8_passes_34 : decode cX8_passes 34 = .ok (.iconst 0, 1) := by decide +kernel
theorem dX8_passes_35 : decode cX8_passes 35 = .ok (.ireturn, 1) := by decide +kernel
theorem dX8_passed_0 : decode cX8_passed 0 = .ok (.aload_n 0, 1) := by decide +kernel
theorem dX8_passed_1 : decode cX8_passed 1 = .ok (.getfield 13, 3) := by decide +kernel
theorem dX8_passed_4 : decode cX8_passed 4 = .ok (.aload_n 0, 1) := by decide +kernel
theorem dX8_passed_5 : decode cX8_passed 5 = .ok (.getfield 7, 3) := by decide +kernel
theorem dX8_passed_8 : decode cX8_passed 8 = .ok (.isub, 1) := by decide +kernel
theorem dX8_passed_9 : decode cX8_passed 9 = .ok (.invokestatic 28, 3) := by decide +kernel
theorem dX8_passed_12 : decode cX8_passed 12 = .ok (.iconst 1, 1) := by decide +kernel
theorem dX8_passed_13 : decode cX8_passed 13 = .ok (.iadd, 1) := by decide +kernel
theorem dX8_passed_14 : decode cX8_passed 14 = .ok (.ireturn, 1) := by decide +kernel
theorem dX9_init_0 : decode cX9_init 0 = .ok (.aload_n 0, 1) := by decide +kernel
theorem dX9_init_1 : decode cX9_init 1 = .ok (.invokespecial 1, 3) := by decide +kernel
theorem dX9_init_4 : decode cX9_init 4 = .ok (.aload_n 0, 1) := by decide +kernel
theorem dX9_init_5 : decode cX9_init 5 = .ok (.bipush 6, 2) := by decide +kernel
theorem dX9_init_7 : decode cX9_init 7 = .ok (.anewarray 9, 3) := by decide +kernel
theorem dX9_init_10 : decode cX9_init 10 = .ok (.putfield 11, 3) := by decide +kernel
theorem dX9_init_13 : decode cX9_init 13 = .ok (.aload_n 0, 1) := by decide +kernel
theorem dX9_init_14 : decode cX9_init 14 = .ok (.new 15, 3) := by decide +kernel
theorem dX9_init_17 : decode cX9_init 17 = .ok (.dup, 1) := by decide +kernel
theorem dX9_init_18 : decode cX9_init 18 = .ok (.invokespecial 17, 3) := by decide +kernel
theorem dX9_init_21 : decode cX9_init 21 = .ok (.putfield 18, 3) := by decide +kernel
theorem dX9_init_24 : decode cX9_init 24 = .ok (.aload_n 0, 1) := by decide +kernel
theorem dX9_init_25 : decode cX9_init 25 = .ok (.bipush 6, 2) := by decide +kernel
theorem dX9_init_27 : decode cX9_init 27 = .ok (.anewarray 22, 3) := by decide +kernel
theorem dX9_init_30 : decode cX9_init 30 = .ok (.putfield 24, 3) := by decide +kernel
theorem dX9_init_33 : decode cX9_init 33 = .ok (.aload_n 0, 1) := by decide +kernel
theorem dX9_init_34 : decode cX9_init 34 = .ok (.new 28, 3) := by decide +kernel
theorem dX9_init_37 : decode cX9_init 37 = .ok (.dup, 1) := by decide +kernel
theorem dX9_init_38 : decode cX9_init 38 = .ok (.invokespecial 30, 3) := by decide +kernel
theorem dX9_init_41 : decode cX9_init 41 = .ok (.putfield 31, 3) := by decide +kernel
theorem dX9_init_44 : decode cX9_init 44 = .ok (.aload_n 0, 1) := by decide +kernel
theorem dX9_init_45 : decode cX9_init 45 = .ok (.iconst 4, 1) := by decide +kernel
theorem dX9_init_46 : decode cX9_init 46 = .ok (.anewarray 35, 3) := by decide +kernel
theorem dX9_init_49 : decode cX9_init 49 = .ok (.putfield 37, 3) := by decide +kernel
theorem dX9_init_52 : decode cX9_init 52 = .ok (.aload_n 0, 1) := by decide +kernel
theorem dX9_init_53 : decode cX9_init 53 = .ok (.new 41, 3) := by decide +kernel
theorem dX9_init_56 : decode cX9_init 56 = .ok (.dup, 1) := by decide +kernel
theorem dX9_init_57 : decode cX9_init 57 = .ok (.invokespecial 43, 3) := by decide +kernel
theorem dX9_init_60 : decode cX9_init 60 = .ok (.putfield 44, 3) := by decide +kernel
theorem dX9_init_63 : decode cX9_init 63 = .ok (.aload_n 0, 1) := by decide +kernel
theorem dX9_init_64 : decode cX9_init 64 = .ok (.new 48, 3) := by decide +kernel
theorem dX9_init_67 : decode cX9_init 67 = .ok (.dup, 1) := by decide +kernel
theorem dX9_init_68 : decode cX9_init 68 = .ok (.invokespecial 50, 3) := by decide +kernel
theorem dX9_init_71 : decode cX9_init 71 = .ok (.putfield 51, 3) := by decide +kernel
theorem dX9_init_74 : decode cX9_init 74 = .ok (.aload_n 0, 1) := by decide +kernel
theorem dX9_init_75 : decode cX9_init 75 = .ok (.new 9, 3) := by decide +kernel
theorem dX9_init_78 : decode cX9_init 78 = .ok (.dup, 1) := by decide +kernel
theorem dX9_init_79 : decode cX9_init 79 = .ok (.invokespecial 55, 3) := by decide +kernel
theorem dX9_init_82 : decode cX9_init 82 = .ok (.putfield 56, 3) := by decide +kernel
theorem dX9_init_85 : decode cX9_init 85 = .ok (.aload_n 0, 1) := by decide +kernel
theorem dX9_init_86 : decode cX9_init 86 = .ok (.new 15, 3) := by decide +kernel
theorem dX9_init_89 : decode cX9_init 89 = .ok (.dup, 1) := by decide +kernel
theorem dX9_init_90 : decode cX9_init 90 = .ok (.invokespecial 17, 3) := by decide +kernel
theorem dX9_init_93 : decode cX9_init 93 = .ok (.putfield 60, 3) := by decide +kernel
theorem dX9_init_96 : decode cX9_init 96 = .ok (.iconst 0, 1) := by decide +kernel
theorem dX9_init_97 : decode cX9_init 97 = .ok (.istore_n 1, 1) := by decide +kernel
theorem dX9_init_98 : decode cX9_init 98 = .ok (.iload_n 1, 1) := by decide +kernel
theorem dX9_init_99 : decode cX9_init 99 = .ok (.aload_n 0, 1) := by decide +kernel
theorem dX9_init_100 : decode cX9_init 100 = .ok (.getfield 11, 3) := by decide +kernel
theorem dX9_init_103 : decode cX9_init 103 = .ok (.arraylength, 1) := by decide +kernel
theorem dX9_init_104 : decode cX9_init 104 = .ok (.if_icmp .ge 22, 3) := by decide +kernel
theorem dX9_init_107 : decode cX9_init 107 = .ok (.aload_n 0, 1) := by decide +kernel
theorem dX9_init_108 : decode cX9_init 108 = .ok (.getfield 11, 3) := by decide +kernel
theorem dX9_init_111 : decode cX9_init 111 = .ok (.iload_n 1, 1) := by decide +kernel
theorem dX9_init_112 : decode cX9_init 112 = .ok (.new 9, 3) := by decide +kernel
theorem dX9_init_115 : decode cX9_init 115 = .ok (.dup, 1) := by decide +kernel
theorem dX9_init_116 : decode cX9_init 116 = .ok (.invokespecial 55, 3) := by decide +kernel
theorem dX9_init_119 : decode cX9_init 119 = .ok (.aastore, 1) := by decide +kernel
theorem dX9_init_120 : decode cX9_init 120 = .ok (.iinc 1 1, 3) := by decide +kernel
theorem dX9_init_123 : decode cX9_init 123 = .ok (.goto (-25), 3) := by decide +kernel
theorem dX9_init_126 : decode cX9_init 126 = .ok (.iconst 0, 1) := by decide +kernel
theorem dX9_init_127 : decode cX9_init 127 = .ok (.istore_n 1, 1) := by decide +kernel
theorem dX9_init_128 : decode cX9_init 128 = .ok (.iload_n 1, 1) := by decide +kernel
theorem dX9_init_129 : decode cX9_init 129 = .ok (.aload_n 0, 1) := by decide +kernel
theorem dX9_init_130 : decode cX9_init 130 = .ok (.getfield 24, 3) := by decide +kernel
theorem dX9_init_133 : decode cX9_init 133 = .ok (.arraylength, 1) := by decide +kernel
theorem dX9_init_134 : decode cX9_init 134 = .ok (.if_icmp .ge 22, 3) := by decide +kernel
theorem dX9_init_137 : decode cX9_init 137 = .ok (.aload_n 0, 1) := by decide +kernel
theorem dX9_init_138 : decode cX9_init 138 = .ok (.getfield 24, 3) := by decide +kernel
theorem dX9_init_141 : decode cX9_init 141 = .ok (.iload_n 1, 1) := by decide +kernel
theorem dX9_init_142 : decode cX9_init 142 = .ok (.new 22, 3) := by decide +kernel
theorem dX9_init_145 : decode cX9_init 145 = .ok (.dup, 1) := by decide +kernel
theorem dX9_init_146 : decode cX9_init 146 = .ok (.invokespecial 63, 3) := by decide +kernel
theorem dX9_init_149 : decode cX9_init 149 = .ok (.aastore, 1) := by decide +kernel
theorem dX9_init_150 : decode cX9_init 150 = .ok (.iinc 1 1, 3) := by decide +kernel
theorem dX9_init_153 : decode cX9_init 153 = .ok (.goto (-25), 3) := by decide +kernel
theorem dX9_init_156 : decode cX9_init 156 = .ok (.iconst 0, 1) := by decide +kernel
theorem dX9_init_157 : decode cX9_init 157 = .ok (.istore_n 1, 1) := by decide +kernel
theorem dX9_init_158 : decode cX9_init 158 = .ok (.iload_n 1, 1) := by decide +kernel
theorem dX9_init_159 : decode cX9_init 159 = .ok (.aload_n 0, 1) := by decide +kernel
theorem dX9_init_160 : decode cX9_init 160 = .ok (.getfield 37, 3) := by decide +kernel
theorem dX9_init_163 : decode cX9_init 163 = .ok (.arraylength, 1) := by decide +kernel
theorem dX9_init_164 : decode cX9_init 164 = .ok (.if_icmp .ge 22, 3) := by decide +kernel
theorem dX9_init_167 : decode cX9_init 167 = .ok (.aload_n 0, 1) := by decide +kernel
theorem dX9_init_168 : decode cX9_init 168 = .ok (.getfield 37, 3) := by decide +kernel
theorem dX9_init_171 : decode cX9_init 171 = .ok (.iload_n 1, 1) := by decide +kernel
theorem dX9_init_172 : decode cX9_init 172 = .ok (.new 35, 3) := by decide +kernel
theorem dX9_init_175 : decode cX9_init 175 = .ok (.dup, 1) := by decide +kernel
theorem dX9_init_176 : decode cX9_init 176 = .ok (.invokespecial 64, 3) := by decide +kernel
theorem dX9_init_179 : decode cX9_init 179 = .ok (.aastore, 1) := by decide +kernel
theorem dX9_init_180 : decode cX9_init 180 = .ok (.iinc 1 1, 3) := by decide +kernel
theorem dX9_init_183 : decode cX9_init 183 = .ok (.goto (-25), 3) := by decide +kernel
theorem dX9_init_186 : decode cX9_init 186 = .ok (.aload_n 0, 1) := by decide +kernel
theorem dX9_init_187 : decode cX9_init 187 = .ok (.getfield 18, 3) := by decide +kernel
theorem dX9_init_190 : decode cX9_init 190 = .ok (.iconst 0, 1) := by decide +kernel
theorem dX9_init_191 : decode cX9_init 191 = .ok (.bipush 19, 2) := by decide +kernel
theorem dX9_init_193 : decode cX9_init 193 = .ok (.iconst 0, 1) := by decide +kernel
theorem dX9_init_194 : decode cX9_init 194 = .ok (.invokevirtual 65, 3) := by decide +kernel
theorem dX9_init_197 : decode cX9_init 197 = .ok (.iconst 0, 1) := by decide +kernel
theorem dX9_init_198 : decode cX9_init 198 = .ok (.istore_n 1, 1) := by decide +kernel
theorem dX9_init_199 : decode cX9_init 199 = .ok (.iload_n 1, 1) := by decide +kernel
theorem dX9_init_200 : decode cX9_init 200 = .ok (.ldc 69, 2) := by decide +kernel
theorem dX9_init_202 : decode cX9_init 202 = .ok (.invokevirtual 71, 3) := by decide +kernel
theorem dX9_init_205 : decode cX9_init 205 = .ok (.if_icmp .ge 26, 3) := by decide +kernel
theorem dX9_init_208 : decode cX9_init 208 = .ok (.aload_n 0, 1) := by decide +kernel
theorem dX9_init_209 : decode cX9_init 209 = .ok (.getfield 31, 3) := by decide +kernel
theorem dX9_init_212 : decode cX9_init 212 = .ok (.getfield 77, 3) := by decide +kernel
theorem dX9_init_215 : decode cX9_init 215 = .ok (.ldc 69, 2) := by decide +kernel
theorem dX9_init_217 : decode cX9_init 217 = .ok (.iload_n 1, 1) := by decide +kernel
theorem dX9_init_218 : decode cX9_init 218 = .ok (.invokevirtual 81, 3) := by decide +kernel
theorem dX9_init_221 : decode cX9_init 221 = .ok (.invokevirtual 85, 3) := by decide +kernel
theorem dX9_init_224 : decode cX9_init 224 = .ok (.pop, 1) := by decide +kernel
theorem dX9_init_225 : decode cX9_init 225 = .ok (.iinc 1 1, 3) := by decide +kernel
theorem dX9_init_228 : decode cX9_init 228 = .ok (.goto (-29), 3) := by decide +kernel
theorem dX9_init_231 : decode cX9_init 231 = .ok (.aload_n 0, 1) := by decide +kernel
theorem dX9_init_232 : decode cX9_init 232 = .ok (.getfield 31, 3) := by decide +kernel
theorem dX9_init_235 : decode cX9_init 235 = .ok (.aload_n 0, 1) := by decide +kernel
theorem dX9_init_236 : decode cX9_init 236 = .ok (.getfield 24, 3) := by decide +kernel
theorem dX9_init_239 : decode cX9_init 239 = .ok (.iconst 0, 1) := by decide +kernel
theorem dX9_init_240 : decode cX9_init 240 = .ok (.aaload, 1) := by decide +kernel
theorem dX9_init_241 : decode cX9_init 241 = .ok (.invokevirtual 91, 3) := by decide +kernel
theorem dX9_init_244 : decode cX9_init 244 = .ok (.pop, 1) := by decide +kernel
theorem dX9_init_245 : decode cX9_init 245 = .ok (.aload_n 0, 1) := by decide +kernel
theorem dX9_init_246 : decode cX9_init 246 = .ok (.getfield 31, 3) := by decide +kernel
theorem dX9_init_249 : decode cX9_init 249 = .ok (.getfield 77, 3) := by decide +kernel
theorem dX9_init_252 : decode cX9_init 252 = .ok (.invokevirtual 95, 3) := by decide +kernel
theorem dX9_init_255 : decode cX9_init 255 = .ok (.aload_n 0, 1) := by decide +kernel
theorem dX9_init_256 : decode cX9_init 256 = .ok (.iconst 1, 1) := by decide +kernel
theorem dX9_init_257 : decode cX9_init 257 = .ok (.putfield 98, 3) := by decide +kernel
theorem dX9_init_260 : decode cX9_init 260 = .ok (.return_, 1) := by decide +kernel
theorem dX9_set_0 : decode cX9_set 0 = .ok (.iload_n 3, 1) := by decide +kernel
theorem dX9_set_1 : decode cX9_set 1 = .ok (.ifCond .lt 11, 3) := by decide +kernel
theorem dX9_set_4 : decode cX9_set 4 = .ok (.iload_n 3, 1) := by decide +kernel
theorem dX9_set_5 : decode cX9_set 5 = .ok (.iload_n 1, 1) := by decide +kernel
theorem dX9_set_6 : decode cX9_set 6 = .ok (.invokestatic 102, 3) := by decide +kernel
theorem dX9_set_9 : decode cX9_set 9 = .ok (.if_icmp .lt 6, 3) := by decide +kernel
theorem dX9_set_12 : decode cX9_set 12 = .ok (.bipush (-2), 2) := by decide +kernel
theorem dX9_set_14 : decode cX9_set 14 = .ok (.ireturn, 1) := by decide +kernel
theorem dX9_set_15 : decode cX9_set 15 = .ok (.iload_n 1, 1) := by decide +kernel
theorem dX9_set_16 : decode cX9_set 16 = .ok (.iconst 2, 1) := by decide +kernel
theorem dX9_set_17 : decode cX9_set 17 = .ok (.if_icmp .gt 10, 3) := by decide +kernel
theorem dX9_set_20 : decode cX9_set 20 = .ok (.aload_n 0, 1) := by decide +kernel
theorem dX9_set_21 : decode cX9_set 21 = .ok (.iload_n 1, 1) := by decide +kernel
theorem dX9_set_22 : decode cX9_set 22 = .ok (.iload_n 3, 1) := by decide +kernel
theorem dX9_set_23 : decode cX9_set 23 = .ok (.invokevirtual 106, 3) := by decide +kernel
theorem dX9_set_26 : decode cX9_set 26 = .ok (.ireturn, 1) := by decide +kernel
theorem dX9_set_27 : decode cX9_set 27 = .ok (.aload_n 0, 1) := by decide +kernel
theorem dX9_set_28 : decode cX9_set 28 = .ok (.iload_n 2, 1) := by decide +kernel
theorem dX9_set_29 : decode cX9_set 29 = .ok (.invokevirtual 110, 3) := by decide +kernel
theorem dX9_set_32 : decode cX9_set 32 = .ok (.astore 4, 2) := by decide +kernel
theorem dX9_set_34 : decode cX9_set 34 = .ok (.aload 4, 2) := by decide +kernel
theorem dX9_set_36 : decode cX9_set 36 = .ok (.ifnonnull 8, 3) := by decide +kernel
theorem dX9_set_39 : decode cX9_set 39 = .ok (.bipush (-2), 2) := by decide +kernel
theorem dX9_set_41 : decode cX9_set 41 = .ok (.goto 10, 3) := by decide +kernel
theorem dX9_set_44 : decode cX9_set 44 = .ok (.aload 4, 2) := by decide +kernel
theorem dX9_set_46 : decode cX9_set 46 = .ok (.iload_n 1, 1) := by decide +kernel
theorem dX9_set_47 : decode cX9_set 47 = .ok (.iload_n 3, 1) := by decide +kernel
theorem dX9_set_48 : decode cX9_set 48 = .ok (.invokestatic 114, 3) := by decide +kernel
theorem dX9_set_51 : decode cX9_set 51 = .ok (.ireturn, 1) := by decide +kernel
theorem dX9_countOf_0 : decode cX9_countOf 0 = .ok (.iload_n 0, 1) := by decide +kernel
theorem dX9_countOf_1 : decode cX9_countOf 1 = .ok (.tableswitch 53 0 6 #[43, 43, 46, 48, 43, 51, 46], 43) := by decide +kernel
theorem dX9_countOf_44 : decode cX9_countOf 44 = .ok (.bipush 20, 2) := by decide +kernel
theorem dX9_countOf_46 : decode cX9_countOf 46 = .ok (.ireturn, 1) := by decide +kernel
theorem dX9_countOf_47 : decode cX9_countOf 47 = .ok (.iconst 2, 1) := by decide +kernel
theorem dX9_countOf_48 : decode cX9_countOf 48 = .ok (.ireturn, 1) := by decide +kernel
theorem dX9_countOf_49 : decode cX9_countOf 49 = .ok (.bipush 10, 2) := by decide +kernel
theorem dX9_countOf_51 : decode cX9_countOf 51 = .ok (.ireturn, 1) := by decide +kernel
theorem dX9_countOf_52 : decode cX9_countOf 52 = .ok (.iconst 5, 1) := by decide +kernel
theorem dX9_countOf_53 : decode cX9_countOf 53 = .ok (.ireturn, 1) := by decide +kernel
theorem dX9_countOf_54 : decode cX9_countOf 54 = .ok (.iconst 0, 1) := by decide +kernel
theorem dX9_countOf_55 : decode cX9_countOf 55 = .ok (.ireturn, 1) := by decide +kernel
theorem dX9_setWalk_0 : decode cX9_setWalk 0 = .ok (.aload_n 0, 1) := by decide +kernel
theorem dX9_setWalk_1 : decode cX9_setWalk 1 = .ok (.iload_n 1, 1) := by decide +kernel
theorem dX9_setWalk_2 : decode cX9_setWalk 2 = .ok (.invokevirtual 118, 3) := by decide +kernel
theorem dX9_setWalk_5 : decode cX9_setWalk 5 = .ok (.istore_n 3, 1) := by decide +kernel
theorem dX9_setWalk_6 : decode cX9_setWalk 6 = .ok (.iload_n 1, 1) := by decide +kernel
theorem dX9_setWalk_7 : decode cX9_setWalk 7 = .ok (.ifCond .ne 14, 3) := by decide +kernel
theorem dX9_setWalk_10 : decode cX9_setWalk 10 = .ok (.aload_n 0, 1) := by decide +kernel
theorem dX9_setWalk_11 : decode cX9_setWalk 11 = .ok (.getfield 18, 3) := by decide +kernel
theorem dX9_setWalk_14 : decode cX9_setWalk 14 = .ok (.iload_n 2, 1) := by decide +kernel
theorem dX9_setWalk_15 : decode cX9_setWalk 15 = .ok (.putfield 121, 3) := by decide +kernel
theorem dX9_setWalk_18 : decode cX9_setWalk 18 = .ok (.goto 27, 3) := by decide +kernel
theorem dX9_setWalk_21 : decode cX9_setWalk 21 = .ok (.iload_n 1, 1) := by decide +kernel
theorem dX9_setWalk_22 : decode cX9_setWalk 22 = .ok (.iconst 1, 1) := by decide +kernel
theorem dX9_setWalk_23 : decode cX9_setWalk 23 = .ok (.if_icmp .ne 14, 3) := by decide +kernel
theorem dX9_setWalk_26 : decode cX9_setWalk 26 = .ok (.aload_n 0, 1) := by decide +kernel
theorem dX9_setWalk_27 : decode cX9_setWalk 27 = .ok (.getfield 18, 3) := by decide +kernel
theorem dX9_setWalk_30 : decode cX9_setWalk 30 = .ok (.iload_n 2, 1) := by decide +kernel
theorem dX9_setWalk_31 : decode cX9_setWalk 31 = .ok (.putfield 124, 3) := by decide +kernel
theorem dX9_setWalk_34 : decode cX9_setWalk 34 = .ok (.goto 11, 3) := by decide +kernel
theorem dX9_setWalk_37 : decode cX9_setWalk 37 = .ok (.aload_n 0, 1) := by decide +kernel
theorem dX9_setWalk_38 : decode cX9_setWalk 38 = .ok (.getfield 18, 3) := by decide +kernel
theorem dX9_setWalk_41 : decode cX9_setWalk 41 = .ok (.iload_n 2, 1) := by decide +kernel
theorem dX9_setWalk_42 : decode cX9_setWalk 42 = .ok (.putfield 127, 3) := by decide +kernel
theorem dX9_setWalk_45 : decode cX9_setWalk 45 = .ok (.iload_n 3, 1) := by decide +kernel
theorem dX9_setWalk_46 : decode cX9_setWalk 46 = .ok (.ireturn, 1) := by decide +kernel
theorem dX9_setGlove_0 : decode cX9_setGlove 0 = .ok (.aload_n 0, 1) := by decide +kernel
theorem dX9_setGlove_1 : decode cX9_setGlove 1 = .ok (.iload_n 1, 1) := by decide +kernel
theorem dX9_setGlove_2 : decode cX9_setGlove 2 = .ok (.invokestatic 130, 3) := by decide +kernel
theorem dX9_setGlove_5 : decode cX9_setGlove 5 = .ok (.istore_n 3, 1) := by decide +kernel
theorem dX9_setGlove_6 : decode cX9_setGlove 6 = .ok (.iload_n 1, 1) := by decide +kernel
theorem dX9_setGlove_7 : decode cX9_setGlove 7 = .ok (.tableswitch 49 3 5 #[25, 33, 41], 25) := by decide +kernel
theorem dX9_setGlove_32 : decode cX9_setGlove 32 = .ok (.aload_n 0, 1) := by decide +kernel
theorem dX9_setGlove_33 : decode cX9_setGlove 33 = .ok (.iload_n 2, 1) := by decide +kernel
theorem dX9_setGlove_34 : decode cX9_setGlove 34 = .ok (.putfield 134, 3) := by decide +kernel
theorem dX9_setGlove_37 : decode cX9_setGlove 37 = .ok (.goto 24, 3) := by decide +kernel
theorem dX9_setGlove_40 : decode cX9_setGlove 40 = .ok (.aload_n 0, 1) := by decide +kernel
theorem dX9_setGlove_41 : decode cX9_setGlove 41 = .ok (.iload_n 2, 1) := by decide +kernel
theorem dX9_setGlove_42 : decode cX9_setGlove 42 = .ok (.putfield 137, 3) := by decide +kernel
theorem dX9_setGlove_45 : decode cX9_setGlove 45 = .ok (.goto 16, 3) := by decide +kernel
theorem dX9_setGlove_48 : decode cX9_setGlove 48 = .ok (.aload_n 0, 1) := by decide +kernel
theorem dX9_setGlove_49 : decode cX9_setGlove 49 = .ok (.iload_n 2, 1) := by decide +kernel
theorem dX9_setGlove_50 : decode cX9_setGlove 50 = .ok (.putfield 140, 3) := by decide +kernel
theorem dX9_setGlove_53 : decode cX9_setGlove 53 = .ok (.goto 8, 3) := by decide +kernel
theorem dX9_setGlove_56 : decode cX9_setGlove 56 = .ok (.aload_n 0, 1) := by decide +kernel
theorem dX9_setGlove_57 : decode cX9_setGlove 57 = .ok (.iload_n 2, 1) := by decide +kernel
theorem dX9_setGlove_58 : decode cX9_setGlove 58 = .ok (.putfield 143, 3) := by decide +kernel
theorem dX9_setGlove_61 : decode cX9_setGlove 61 = .ok (.iload_n 3, 1) := by decide +kernel
theorem dX9_setGlove_62 : decode cX9_setGlove 62 = .ok (.ireturn, 1) := by decide +kernel
theorem dX9_glove_0 : decode cX9_glove 0 = .ok (.iload_n 1, 1) := by decide +kernel
theorem dX9_glove_1 : decode cX9_glove 1 = .ok (.iload_n 2, 1) := by decide +kernel
theorem dX9_glove_2 : decode cX9_glove 2 = .ok (.iload_n 3, 1) := by decide +kernel
theorem dX9_glove_3 : decode cX9_glove 3 = .ok (.invokestatic 144, 3) := by decide +kernel
theorem dX9_glove_6 : decode cX9_glove 6 = .ok (.ifCond .ne 6, 3) := by decide +kernel
theorem dX9_glove_9 : decode cX9_glove 9 = .ok (.bipush (-2), 2) := by decide +kernel
theorem dX9_glove_11 : decode cX9_glove 11 = .ok (.ireturn, 1) := by decide +kernel
theorem dX9_glove_12 : decode cX9_glove 12 = .ok (.aload_n 0, 1) := by decide +kernel
theorem dX9_glove_13 : decode cX9_glove 13 = .ok (.iload_n 1, 1) := by decide +kernel
theorem dX9_glove_14 : decode cX9_glove 14 = .ok (.iload_n 2, 1) := by decide +kernel
theorem dX9_glove_15 : decode cX9_glove 15 = .ok (.iload_n 3, 1) := by decide +kernel
theorem dX9_glove_16 : decode cX9_glove 16 = .ok (.invokevirtual 148, 3) := by decide +kernel
theorem dX9_glove_19 : decode cX9_glove 19 = .ok (.ifCond .eq 12, 3) := by decide +kernel
theorem dX9_glove_22 : decode cX9_glove 22 = .ok (.aload_n 0, 1) := by decide +kernel
theorem dX9_glove_23 : decode cX9_glove 23 = .ok (.getfield 151, 3) := by decide +kernel
theorem dX9_glove_26 : decode cX9_glove 26 = .ok (.iconst 1, 1) := by decide +kernel
theorem dX9_glove_27 : decode cX9_glove 27 = .ok (.isub, 1) := by decide +kernel
theorem dX9_glove_28 : decode cX9_glove 28 = .ok (.goto 5, 3) := by decide +kernel
theorem dX9_glove_31 : decode cX9_glove 31 = .ok (.bipush (-4), 2) := by decide +kernel
theorem dX9_glove_33 : decode cX9_glove 33 = .ok (.ireturn, 1) := by decide +kernel
theorem dX9_isGlove_0 : decode cX9_isGlove 0 = .ok (.iload_n 0, 1) := by decide +kernel
theorem dX9_isGlove_1 : decode cX9_isGlove 1 = .ok (.bipush 6, 2) := by decide +kernel
theorem dX9_isGlove_3 : decode cX9_isGlove 3 = .ok (.invokestatic 154, 3) := by decide +kernel
theorem dX9_isGlove_6 : decode cX9_isGlove 6 = .ok (.ifCond .eq 25, 3) := by decide +kernel
theorem dX9_isGlove_9 : decode cX9_isGlove 9 = .ok (.iload_n 1, 1) := by decide +kernel
theorem dX9_isGlove_10 : decode cX9_isGlove 10 = .ok (.bipush 10, 2) := by decide +kernel
theorem dX9_isGlove_12 : decode cX9_isGlove 12 = .ok (.invokestatic 154, 3) := by decide +kernel
theorem dX9_isGlove_15 : decode cX9_isGlove 15 = .ok (.ifCond .eq 16, 3) := by decide +kernel
theorem dX9_isGlove_18 : decode cX9_isGlove 18 = .ok (.iload_n 2, 1) := by decide +kernel
theorem dX9_isGlove_19 : decode cX9_isGlove 19 = .ok (.bipush 20, 2) := by decide +kernel
theorem dX9_isGlove_21 : decode cX9_isGlove 21 = .ok (.invokestatic 154, 3) := by decide +kernel
theorem dX9_isGlove_24 : decode cX9_isGlove 24 = .ok (.ifCond .eq 7, 3) := by decide +kernel
theorem dX9_isGlove_27 : decode cX9_isGlove 27 = .ok (.iconst 1, 1) := by decide +kernel
theorem dX9_isGlove_28 : decode cX9_isGlove 28 = .ok (.goto 4, 3) := by decide +kernel
theorem dX9_isGlove_31 : decode cX9_isGlove 31 = .ok (.iconst 0, 1) := by decide +kernel
theorem dX9_isGlove_32 : decode cX9_isGlove 32 = .ok (.ireturn, 1) := by decide +kernel
theorem dX9_hangUp_0 : decode cX9_hangUp 0 = .ok (.aload_n 0, 1) := by decide +kernel
theorem dX9_hangUp_1 : decode cX9_hangUp 1 = .ok (.getfield 151, 3) := by decide +kernel
theorem dX9_hangUp_4 : decode cX9_hangUp 4 = .ok (.ifCond .lt 15, 3) := by decide +kernel
theorem dX9_hangUp_7 : decode cX9_hangUp 7 = .ok (.aload_n 0, 1) := by decide +kernel
theorem dX9_hangUp_8 : decode cX9_hangUp 8 = .ok (.getfield 151, 3) := by decide +kernel
theorem dX9_hangUp_11 : decode cX9_hangUp 11 = .ok (.aload_n 0, 1) := by decide +kernel
theorem dX9_hangUp_12 : decode cX9_hangUp 12 = .ok (.getfield 11, 3) := by decide +kernel
theorem dX9_hangUp_15 : decode cX9_hangUp 15 = .ok (.arraylength, 1) := by decide +kernel
theorem dX9_hangUp_16 : decode cX9_hangUp 16 = .ok (.if_icmp .lt 5, 3) := by decide +kernel
theorem dX9_hangUp_19 : decode cX9_hangUp 19 = .ok (.iconst 0, 1) := by decide +kernel
theorem dX9_hangUp_20 : decode cX9_hangUp 20 = .ok (.ireturn, 1) := by decide +kernel
theorem dX9_hangUp_21 : decode cX9_hangUp 21 = .ok (.aload_n 0, 1) := by decide +kernel
theorem dX9_hangUp_22 : decode cX9_hangUp 22 = .ok (.getfield 11, 3) := by decide +kernel
theorem dX9_hangUp_25 : decode cX9_hangUp 25 = .ok (.aload_n 0, 1) := by decide +kernel
theorem dX9_hangUp_26 : decode cX9_hangUp 26 = .ok (.getfield 151, 3) := by decide +kernel
theorem dX9_hangUp_29 : decode cX9_hangUp 29 = .ok (.aaload, 1) := by decide +kernel
theorem dX9_hangUp_30 : decode cX9_hangUp 30 = .ok (.iload_n 1, 1) := by decide +kernel
theorem dX9_hangUp_31 : decode cX9_hangUp 31 = .ok (.iload_n 2, 1) := by decide +kernel
theorem dX9_hangUp_32 : decode cX9_hangUp 32 = .ok (.iload_n 3, 1) := by decide +kernel
theorem dX9_hangUp_33 : decode cX9_hangUp 33 = .ok (.invokevirtual 158, 3) := by decide +kernel
theorem dX9_hangUp_36 : decode cX9_hangUp 36 = .ok (.aload_n 0, 1) := by decide +kernel
theorem dX9_hangUp_37 : decode cX9_hangUp 37 = .ok (.dup, 1) := by decide +kernel
theorem dX9_hangUp_38 : decode cX9_hangUp 38 = .ok (.getfield 151, 3) := by decide +kernel
theorem dX9_hangUp_41 : decode cX9_hangUp 41 = .ok (.iconst 1, 1) := by decide +kernel
theorem dX9_hangUp_42 : decode cX9_hangUp 42 = .ok (.iadd, 1) := by decide +kernel
theorem dX9_hangUp_43 : decode cX9_hangUp 43 = .ok (.putfield 151, 3) := by decide +kernel
theorem dX9_hangUp_46 : decode cX9_hangUp 46 = .ok (.iconst 1, 1) := by decide +kernel
theorem dX9_hangUp_47 : decode cX9_hangUp 47 = .ok (.ireturn, 1) := by decide +kernel
theorem dX9_told_0 : decode cX9_told 0 = .ok (.iload_n 2, 1) := by decide +kernel
theorem dX9_told_1 : decode cX9_told 1 = .ok (.ifCond .lt 9, 3) := by decide +kernel
theorem dX9_told_4 : decode cX9_told 4 = .ok (.iload_n 2, 1) := by decide +kernel
theorem dX9_told_5 : decode cX9_told 5 = .ok (.bipush 8, 2) := by decide +kernel
theorem dX9_told_7 : decode cX9_told 7 = .ok (.if_icmp .le 6, 3) := by decide +kernel
theorem dX9_told_10 : decode cX9_told 10 = .ok (.bipush (-2), 2) := by decide +kernel
theorem dX9_told_12 : decode cX9_told 12 = .ok (.ireturn, 1) := by decide +kernel
theorem dX9_told_13 : decode cX9_told 13 = .ok (.iload_n 2, 1) := by decide +kernel
theorem dX9_told_14 : decode cX9_told 14 = .ok (.iconst 2, 1) := by decide +kernel
theorem dX9_told_15 : decode cX9_told 15 = .ok (.if_icmp .gt 9, 3) := by decide +kernel
theorem dX9_told_18 : decode cX9_told 18 = .ok (.aload_n 0, 1) := by decide +kernel
theorem dX9_told_19 : decode cX9_told 19 = .ok (.iload_n 2, 1) := by decide +kernel
theorem dX9_told_20 : decode cX9_told 20 = .ok (.invokevirtual 118, 3) := by decide +kernel
theorem dX9_told_23 : decode cX9_told 23 = .ok (.ireturn, 1) := by decide +kernel
theorem dX9_told_24 : decode cX9_told 24 = .ok (.aload_n 0, 1) := by decide +kernel
theorem dX9_told_25 : decode cX9_told 25 = .ok (.iload_n 1, 1) := by decide +kernel
theorem dX9_told_26 : decode cX9_told 26 = .ok (.invokevirtual 110, 3) := by decide +kernel
theorem dX9_told_29 : decode cX9_told 29 = .ok (.astore_n 3, 1) := by decide +kernel
theorem dX9_told_30 : decode cX9_told 30 = .ok (.aload_n 3, 1) := by decide +kernel
theorem dX9_told_31 : decode cX9_told 31 = .ok (.ifnonnull 8, 3) := by decide +kernel
theorem dX9_told_34 : decode cX9_told 34 = .ok (.bipush (-2), 2) := by decide +kernel
theorem dX9_told_36 : decode cX9_told 36 = .ok (.goto 8, 3) := by decide +kernel
theorem dX9_told_39 : decode cX9_told 39 = .ok (.aload_n 3, 1) := by decide +kernel
theorem dX9_told_40 : decode cX9_told 40 = .ok (.iload_n 2, 1) := by decide +kernel
theorem dX9_told_41 : decode cX9_told 41 = .ok (.invokestatic 130, 3) := by decide +kernel
theorem dX9_told_44 : decode cX9_told 44 = .ok (.ireturn, 1) := by decide +kernel
theorem dX9_toldOfWalk_0 : decode cX9_toldOfWalk 0 = .ok (.iload_n 1, 1) := by decide +kernel
theorem dX9_toldOfWalk_1 : decode cX9_toldOfWalk 1 = .ok (.ifCond .ne 11, 3) := by decide +kernel
theorem dX9_toldOfWalk_4 : decode cX9_toldOfWalk 4 = .ok (.aload_n 0, 1) := by decide +kernel
theorem dX9_toldOfWalk_5 : decode cX9_toldOfWalk 5 = .ok (.getfield 18, 3) := by decide +kernel
theorem dX9_toldOfWalk_8 : decode cX9_toldOfWalk 8 = .ok (.getfield 121, 3) := by decide +kernel
theorem dX9_toldOfWalk_11 : decode cX9_toldOfWalk 11 = .ok (.ireturn, 1) := by decide +kernel
theorem dX9_toldOfWalk_12 : decode cX9_toldOfWalk 12 = .ok (.iload_n 1, 1) := by decide +kernel
theorem dX9_toldOfWalk_13 : decode cX9_toldOfWalk 13 = .ok (.iconst 1, 1) := by decide +kernel
theorem dX9_toldOfWalk_14 : decode cX9_toldOfWalk 14 = .ok (.if_icmp .ne 13, 3) := by decide +kernel
theorem dX9_toldOfWalk_17 : decode cX9_toldOfWalk 17 = .ok (.aload_n 0, 1) := by decide +kernel
theorem dX9_toldOfWalk_18 : decode cX9_toldOfWalk 18 = .ok (.getfield 18, 3) := by decide +kernel
theorem dX9_toldOfWalk_21 : decode cX9_toldOfWalk 21 = .ok (.getfield 124, 3) := by decide +kernel
theorem dX9_toldOfWalk_24 : decode cX9_toldOfWalk 24 = .ok (.goto 10, 3) := by decide +kernel
theorem dX9_toldOfWalk_27 : decode cX9_toldOfWalk 27 = .ok (.aload_n 0, 1) := by decide +kernel
theorem dX9_toldOfWalk_28 : decode cX9_toldOfWalk 28 = .ok (.getfield 18, 3) := by decide +kernel
theorem dX9_toldOfWalk_31 : decode cX9_toldOfWalk 31 = .ok (.getfield 127, 3) := by decide +kernel
theorem dX9_toldOfWalk_34 : decode cX9_toldOfWalk 34 = .ok (.ireturn, 1) := by decide +kernel
theorem dX9_toldOfGlove_0 : decode cX9_toldOfGlove 0 = .ok (.iload_n 1, 1) := by decide +kernel
theorem dX9_toldOfGlove_1 : decode cX9_toldOfGlove 1 = .ok (.tableswitch 60 3 7 #[35, 40, 45, 50, 55], 35) := by decide +kernel
theorem dX9_toldOfGlove_36 : decode cX9_toldOfGlove 36 = .ok (.aload_n 0, 1) := by decide +kernel
theorem dX9_toldOfGlove_37 : decode cX9_toldOfGlove 37 = .ok (.getfield 134, 3) := by decide +kernel
theorem dX9_toldOfGlove_40 : decode cX9_toldOfGlove 40 = .ok (.ireturn, 1) := by decide +kernel
theorem dX9_toldOfGlove_41 : decode cX9_toldOfGlove 41 = .ok (.aload_n 0, 1) := by decide +kernel
theorem dX9_toldOfGlove_42 : decode cX9_toldOfGlove 42 = .ok (.getfield 137, 3) := by decide +kernel
theorem dX9_toldOfGlove_45 : decode cX9_toldOfGlove 45 = .ok (.ireturn, 1) := by decide +kernel
theorem dX9_toldOfGlove_46 : decode cX9_toldOfGlove 46 = .ok (.aload_n 0, 1) := by decide +kernel
theorem dX9_toldOfGlove_47 : decode cX9_toldOfGlove 47 = .ok (.getfield 140, 3) := by decide +kernel
theorem dX9_toldOfGlove_50 : decode cX9_toldOfGlove 50 = .ok (.ireturn, 1) := by decide +kernel
theorem dX9_toldOfGlove_51 : decode cX9_toldOfGlove 51 = .ok (.aload_n 0, 1) := by decide +kernel
theorem dX9_toldOfGlove_52 : decode cX9_toldOfGlove 52 = .ok (.getfield 143, 3) := by decide +kernel
theorem dX9_toldOfGlove_55 : decode cX9_toldOfGlove 55 = .ok (.ireturn, 1) := by decide +kernel
theorem dX9_toldOfGlove_56 : decode cX9_toldOfGlove 56 = .ok (.aload_n 0, 1) := by decide +kernel
theorem dX9_toldOfGlove_57 : decode cX9_toldOfGlove 57 = .ok (.getfield 161, 3) := by decide +kernel
theorem dX9_toldOfGlove_60 : decode cX9_toldOfGlove 60 = .ok (.ireturn, 1) := by decide +kernel
theorem dX9_toldOfGlove_61 : decode cX9_toldOfGlove 61 = .ok (.aload_n 0, 1) := by decide +kernel
theorem dX9_toldOfGlove_62 : decode cX9_toldOfGlove 62 = .ok (.invokevirtual 164, 3) := by decide +kernel
theorem dX9_toldOfGlove_65 : decode cX9_toldOfGlove 65 = .ok (.ireturn, 1) := by decide +kernel
theorem dX9_feed_0 : decode cX9_feed 0 = .ok (.iload_n 1, 1) := by decide +kernel
theorem dX9_feed_1 : decode cX9_feed 1 = .ok (.sipush 256, 3) := by decide +kernel
theorem dX9_feed_4 : decode cX9_feed 4 = .ok (.invokestatic 154, 3) := by decide +kernel
theorem dX9_feed_7 : decode cX9_feed 7 = .ok (.ifCond .ne 6, 3) := by decide +kernel
theorem dX9_feed_10 : decode cX9_feed 10 = .ok (.bipush (-2), 2) := by decide +kernel
theorem dX9_feed_12 : decode cX9_feed 12 = .ok (.ireturn, 1) := by decide +kernel
theorem dX9_feed_13 : decode cX9_feed 13 = .ok (.aload_n 0, 1) := by decide +kernel
theorem dX9_feed_14 : decode cX9_feed 14 = .ok (.getfield 31, 3) := by decide +kernel
theorem dX9_feed_17 : decode cX9_feed 17 = .ok (.getfield 77, 3) := by decide +kernel
theorem dX9_feed_20 : decode cX9_feed 20 = .ok (.iload_n 1, 1) := by decide +kernel
theorem dX9_feed_21 : decode cX9_feed 21 = .ok (.invokevirtual 85, 3) := by decide +kernel
theorem dX9_feed_24 : decode cX9_feed 24 = .ok (.ifCond .eq 16, 3) := by decide +kernel
theorem dX9_feed_27 : decode cX9_feed 27 = .ok (.aload_n 0, 1) := by decide +kernel
theorem dX9_feed_28 : decode cX9_feed 28 = .ok (.getfield 31, 3) := by decide +kernel
theorem dX9_feed_31 : decode cX9_feed 31 = .ok (.getfield 77, 3) := by decide +kernel
theorem dX9_feed_34 : decode cX9_feed 34 = .ok (.getfield 167, 3) := by decide +kernel
theorem dX9_feed_37 : decode cX9_feed 37 = .ok (.goto 5, 3) := by decide +kernel
theorem dX9_feed_40 : decode cX9_feed 40 = .ok (.bipush (-4), 2) := by decide +kernel
theorem dX9_feed_42 : decode cX9_feed 42 = .ok (.ireturn, 1) := by decide +kernel
theorem dX9_text_0 : decode cX9_text 0 = .ok (.aload_n 0, 1) := by decide +kernel
theorem dX9_text_1 : decode cX9_text 1 = .ok (.getfield 98, 3) := by decide +kernel
theorem dX9_text_4 : decode cX9_text 4 = .ok (.ifCond .lt 15, 3) := by decide +kernel
theorem dX9_text_7 : decode cX9_text 7 = .ok (.aload_n 0, 1) := by decide +kernel
theorem dX9_text_8 : decode cX9_text 8 = .ok (.getfield 98, 3) := by decide +kernel
theorem dX9_text_11 : decode cX9_text 11 = .ok (.aload_n 0, 1) := by decide +kernel
theorem dX9_text_12 : decode cX9_text 12 = .ok (.getfield 24, 3) := by decide +kernel
theorem dX9_text_15 : decode cX9_text 15 = .ok (.arraylength, 1) := by decide +kernel
theorem dX9_text_16 : decode cX9_text 16 = .ok (.if_icmp .lt 6, 3) := by decide +kernel
theorem dX9_text_19 : decode cX9_text 19 = .ok (.bipush (-4), 2) := by decide +kernel
theorem dX9_text_21 : decode cX9_text 21 = .ok (.ireturn, 1) := by decide +kernel
theorem dX9_text_22 : decode cX9_text 22 = .ok (.aload_n 0, 1) := by decide +kernel
theorem dX9_text_23 : decode cX9_text 23 = .ok (.getfield 31, 3) := by decide +kernel
theorem dX9_text_26 : decode cX9_text 26 = .ok (.aload_n 0, 1) := by decide +kernel
theorem dX9_text_27 : decode cX9_text 27 = .ok (.getfield 24, 3) := by decide +kernel
theorem dX9_text_30 : decode cX9_text 30 = .ok (.aload_n 0, 1) := by decide +kernel
theorem dX9_text_31 : decode cX9_text 31 = .ok (.getfield 98, 3) := by decide +kernel
theorem dX9_text_34 : decode cX9_text 34 = .ok (.aaload, 1) := by decide +kernel
theorem dX9_text_35 : decode cX9_text 35 = .ok (.invokevirtual 91, 3) := by decide +kernel
theorem dX9_text_38 : decode cX9_text 38 = .ok (.istore_n 1, 1) := by decide +kernel
theorem dX9_text_39 : decode cX9_text 39 = .ok (.aload_n 0, 1) := by decide +kernel
theorem dX9_text_40 : decode cX9_text 40 = .ok (.getfield 31, 3) := by decide +kernel
theorem dX9_text_43 : decode cX9_text 43 = .ok (.getfield 77, 3) := by decide +kernel
theorem dX9_text_46 : decode cX9_text 46 = .ok (.invokevirtual 95, 3) := by decide +kernel
theorem dX9_text_49 : decode cX9_text 49 = .ok (.iload_n 1, 1) := by decide +kernel
theorem dX9_text_50 : decode cX9_text 50 = .ok (.iconst (-1), 1) := by decide +kernel
theorem dX9_text_51 : decode cX9_text 51 = .ok (.if_icmp .eq 8, 3) := by decide +kernel
theorem dX9_text_54 : decode cX9_text 54 = .ok (.bipush (-100), 2) := by decide +kernel
theorem dX9_text_56 : decode cX9_text 56 = .ok (.iload_n 1, 1) := by decide +kernel
theorem dX9_text_57 : decode cX9_text 57 = .ok (.isub, 1) := by decide +kernel
theorem dX9_text_58 : decode cX9_text 58 = .ok (.ireturn, 1) := by decide +kernel
theorem dX9_text_59 : decode cX9_text 59 = .ok (.aload_n 0, 1) := by decide +kernel
theorem dX9_text_60 : decode cX9_text 60 = .ok (.dup, 1) := by decide +kernel
theorem dX9_text_61 : decode cX9_text 61 = .ok (.getfield 98, 3) := by decide +kernel
theorem dX9_text_64 : decode cX9_text 64 = .ok (.iconst 1, 1) := by decide +kernel
theorem dX9_text_65 : decode cX9_text 65 = .ok (.iadd, 1) := by decide +kernel
theorem dX9_text_66 : decode cX9_text 66 = .ok (.putfield 98, 3) := by decide +kernel
theorem dX9_text_69 : decode cX9_text 69 = .ok (.aload_n 0, 1) := by decide +kernel
theorem dX9_text_70 : decode cX9_text 70 = .ok (.getfield 98, 3) := by decide +kernel
theorem dX9_text_73 : decode cX9_text 73 = .ok (.iconst 1, 1) := by decide +kernel
theorem dX9_text_74 : decode cX9_text 74 = .ok (.isub, 1) := by decide +kernel
theorem dX9_text_75 : decode cX9_text 75 = .ok (.ireturn, 1) := by decide +kernel
theorem dX9_force_0 : decode cX9_force 0 = .ok (.iload_n 1, 1) := by decide +kernel
theorem dX9_force_1 : decode cX9_force 1 = .ok (.aload_n 0, 1) := by decide +kernel
theorem dX9_force_2 : decode cX9_force 2 = .ok (.getfield 98, 3) := by decide +kernel
theorem dX9_force_5 : decode cX9_force 5 = .ok (.invokestatic 154, 3) := by decide +kernel
theorem dX9_force_8 : decode cX9_force 8 = .ok (.ifCond .ne 6, 3) := by decide +kernel
theorem dX9_force_11 : decode cX9_force 11 = .ok (.bipush (-2), 2) := by decide +kernel
theorem dX9_force_13 : decode cX9_force 13 = .ok (.ireturn, 1) := by decide +kernel
theorem dX9_force_14 : decode cX9_force 14 = .ok (.aload_n 0, 1) := by decide +kernel
theorem dX9_force_15 : decode cX9_force 15 = .ok (.getfield 170, 3) := by decide +kernel
theorem dX9_force_18 : decode cX9_force 18 = .ok (.istore_n 2, 1) := by decide +kernel
theorem dX9_force_19 : decode cX9_force 19 = .ok (.aload_n 0, 1) := by decide +kernel
theorem dX9_force_20 : decode cX9_force 20 = .ok (.iload_n 1, 1) := by decide +kernel
theorem dX9_force_21 : decode cX9_force 21 = .ok (.putfield 170, 3) := by decide +kernel
theorem dX9_force_24 : decode cX9_force 24 = .ok (.iload_n 2, 1) := by decide +kernel
theorem dX9_force_25 : decode cX9_force 25 = .ok (.ireturn, 1) := by decide +kernel
theorem dX9_day_0 : decode cX9_day 0 = .ok (.aload_n 0, 1) := by decide +kernel
theorem dX9_day_1 : decode cX9_day 1 = .ok (.iload_n 1, 1) := by decide +kernel
theorem dX9_day_2 : decode cX9_day 2 = .ok (.invokevirtual 110, 3) := by decide +kernel
theorem dX9_day_5 : decode cX9_day 5 = .ok (.astore 4, 2) := by decide +kernel
theorem dX9_day_7 : decode cX9_day 7 = .ok (.aload 4, 2) := by decide +kernel
theorem dX9_day_9 : decode cX9_day 9 = .ok (.ifnull 20, 3) := by decide +kernel
theorem dX9_day_12 : decode cX9_day 12 = .ok (.iload_n 2, 1) := by decide +kernel
theorem dX9_day_13 : decode cX9_day 13 = .ok (.bipush 30, 2) := by decide +kernel
theorem dX9_day_15 : decode cX9_day 15 = .ok (.invokestatic 154, 3) := by decide +kernel
theorem dX9_day_18 : decode cX9_day 18 = .ok (.ifCond .eq 11, 3) := by decide +kernel
theorem dX9_day_21 : decode cX9_day 21 = .ok (.iload_n 3, 1) := by decide +kernel
theorem dX9_day_22 : decode cX9_day 22 = .ok (.iconst 3, 1) := by decide +kernel
theorem dX9_day_23 : decode cX9_day 23 = .ok (.invokestatic 154, 3) := by decide +kernel
theorem dX9_day_26 : decode cX9_day 26 = .ok (.ifCond .ne 6, 3) := by decide +kernel
theorem dX9_day_29 : decode cX9_day 29 = .ok (.bipush (-2), 2) := by decide +kernel
theorem dX9_day_31 : decode cX9_day 31 = .ok (.ireturn, 1) := by decide +kernel
theorem dX9_day_32 : decode cX9_day 32 = .ok (.aload_n 0, 1) := by decide +kernel
theorem dX9_day_33 : decode cX9_day 33 = .ok (.aload 4, 2) := by decide +kernel
theorem dX9_day_35 : decode cX9_day 35 = .ok (.invokevirtual 173, 3) := by decide +kernel
theorem dX9_day_38 : decode cX9_day 38 = .ok (.iload_n 3, 1) := by decide +kernel
theorem dX9_day_39 : decode cX9_day 39 = .ok (.ifCond .ne 12, 3) := by decide +kernel
theorem dX9_day_42 : decode cX9_day 42 = .ok (.aload_n 0, 1) := by decide +kernel
theorem dX9_day_43 : decode cX9_day 43 = .ok (.getfield 51, 3) := by decide +kernel
theorem dX9_day_46 : decode cX9_day 46 = .ok (.iload_n 2, 1) := by decide +kernel
theorem dX9_day_47 : decode cX9_day 47 = .ok (.invokevirtual 177, 3) := by decide +kernel
theorem dX9_day_50 : decode cX9_day 50 = .ok (.ireturn, 1) := by decide +kernel
theorem dX9_day_51 : decode cX9_day 51 = .ok (.iload_n 3, 1) := by decide +kernel
theorem dX9_day_52 : decode cX9_day 52 = .ok (.iconst 1, 1) := by decide +kernel
theorem dX9_day_53 : decode cX9_day 53 = .ok (.if_icmp .ne 14, 3) := by decide +kernel
theorem dX9_day_56 : decode cX9_day 56 = .ok (.aload_n 0, 1) := by decide +kernel
theorem dX9_day_57 : decode cX9_day 57 = .ok (.getfield 51, 3) := by decide +kernel
theorem dX9_day_60 : decode cX9_day 60 = .ok (.iload_n 2, 1) := by decide +kernel
theorem dX9_day_61 : decode cX9_day 61 = .ok (.invokevirtual 180, 3) := by decide +kernel
theorem dX9_day_64 : decode cX9_day 64 = .ok (.goto 10, 3) := by decide +kernel
theorem dX9_day_67 : decode cX9_day 67 = .ok (.aload_n 0, 1) := by decide +kernel
theorem dX9_day_68 : decode cX9_day 68 = .ok (.iload_n 2, 1) := by decide +kernel
theorem dX9_day_69 : decode cX9_day 69 = .ok (.aload 4, 2) := by decide +kernel
theorem dX9_day_71 : decode cX9_day 71 = .ok (.invokevirtual 183, 3) := by decide +kernel
theorem dX9_day_74 : decode cX9_day 74 = .ok (.ireturn, 1) := by decide +kernel
theorem dX9_found_0 : decode cX9_found 0 = .ok (.aload_n 0, 1) := by decide +kernel
theorem dX9_found_1 : decode cX9_found 1 = .ok (.iload_n 1, 1) := by decide +kernel
theorem dX9_found_2 : decode cX9_found 2 = .ok (.invokevirtual 110, 3) := by decide +kernel
theorem dX9_found_5 : decode cX9_found 5 = .ok (.astore 4, 2) := by decide +kernel
theorem dX9_found_7 : decode cX9_found 7 = .ok (.aload 4, 2) := by decide +kernel
theorem dX9_found_9 : decode cX9_found 9 = .ok (.ifnull 20, 3) := by decide +kernel
theorem dX9_found_12 : decode cX9_found 12 = .ok (.iload_n 2, 1) := by decide +kernel
theorem dX9_found_13 : decode cX9_found 13 = .ok (.bipush 9, 2) := by decide +kernel
theorem dX9_found_15 : decode cX9_found 15 = .ok (.invokestatic 154, 3) := by decide +kernel
theorem dX9_found_18 : decode cX9_found 18 = .ok (.ifCond .eq 11, 3) := by decide +kernel
theorem dX9_found_21 : decode cX9_found 21 = .ok (.iload_n 3, 1) := by decide +kernel
theorem dX9_found_22 : decode cX9_found 22 = .ok (.iconst 2, 1) := by decide +kernel
theorem dX9_found_23 : decode cX9_found 23 = .ok (.invokestatic 154, 3) := by decide +kernel
theorem dX9_found_26 : decode cX9_found 26 = .ok (.ifCond .ne 7, 3) := by decide +kernel
theorem dX9_found_29 : decode cX9_found 29 = .ok (.ldc2_w 187, 3) := by decide +kernel
theorem dX9_found_32 : decode cX9_found 32 = .ok (.lreturn, 1) := by decide +kernel
theorem dX9_found_33 : decode cX9_found 33 = .ok (.aload_n 0, 1) := by decide +kernel
theorem dX9_found_34 : decode cX9_found 34 = .ok (.aload 4, 2) := by decide +kernel
theorem dX9_found_36 : decode cX9_found 36 = .ok (.invokevirtual 173, 3) := by decide +kernel
theorem dX9_found_39 : decode cX9_found 39 = .ok (.lconst 1, 1) := by decide +kernel
theorem dX9_found_40 : decode cX9_found 40 = .ok (.lstore 5, 2) := by decide +kernel
theorem dX9_found_42 : decode cX9_found 42 = .ok (.lconst 1, 1) := by decide +kernel
theorem dX9_found_43 : decode cX9_found 43 = .ok (.lstore 7, 2) := by decide +kernel
theorem dX9_found_45 : decode cX9_found 45 = .ok (.iconst 0, 1) := by decide +kernel
theorem dX9_found_46 : decode cX9_found 46 = .ok (.istore 9, 2) := by decide +kernel
theorem dX9_found_48 : decode cX9_found 48 = .ok (.iload 9, 2) := by decide +kernel
theorem dX9_found_50 : decode cX9_found 50 = .ok (.iload_n 2, 1) := by decide +kernel
theorem dX9_found_51 : decode cX9_found 51 = .ok (.if_icmp .ge 42, 3) := by decide +kernel
theorem dX9_found_54 : decode cX9_found 54 = .ok (.iload 9, 2) := by decide +kernel
theorem dX9_found_56 : decode cX9_found 56 = .ok (.bipush 8, 2) := by decide +kernel
theorem dX9_found_58 : decode cX9_found 58 = .ok (.if_icmp .ge 35, 3) := by decide +kernel
theorem dX9_found_61 : decode cX9_found 61 = .ok (.lload 5, 2) := by decide +kernel
theorem dX9_found_63 : decode cX9_found 63 = .ok (.ldc2_w 189, 3) := by decide +kernel
theorem dX9_found_66 : decode cX9_found 66 = .ok (.lmul, 1) := by decide +kernel
theorem dX9_found_67 : decode cX9_found 67 = .ok (.lstore 5, 2) := by decide +kernel
theorem dX9_found_69 : decode cX9_found 69 = .ok (.lload 7, 2) := by decide +kernel
theorem dX9_found_71 : decode cX9_found 71 = .ok (.bipush 100, 2) := by decide +kernel
theorem dX9_found_73 : decode cX9_found 73 = .ok (.aload_n 0, 1) := by decide +kernel
theorem dX9_found_74 : decode cX9_found 74 = .ok (.getfield 51, 3) := by decide +kernel
theorem dX9_found_77 : decode cX9_found 77 = .ok (.iload 9, 2) := by decide +kernel
theorem dX9_found_79 : decode cX9_found 79 = .ok (.invokevirtual 180, 3) := by decide +kernel
theorem dX9_found_82 : decode cX9_found 82 = .ok (.isub, 1) := by decide +kernel
theorem dX9_found_83 : decode cX9_found 83 = .ok (.i2l, 1) := by decide +kernel
theorem dX9_found_84 : decode cX9_found 84 = .ok (.lmul, 1) := by decide +kernel
theorem dX9_found_85 : decode cX9_found 85 = .ok (.lstore 7, 2) := by decide +kernel
theorem dX9_found_87 : decode cX9_found 87 = .ok (.iinc 9 1, 3) := by decide +kernel
theorem dX9_found_90 : decode cX9_found 90 = .ok (.goto (-42), 3) := by decide +kernel
theorem dX9_found_93 : decode cX9_found 93 = .ok (.lload 5, 2) := by decide +kernel
theorem dX9_found_95 : decode cX9_found 95 = .ok (.lload 7, 2) := by decide +kernel
theorem dX9_found_97 : decode cX9_found 97 = .ok (.lsub, 1) := by decide +kernel
theorem dX9_found_98 : decode cX9_found 98 = .ok (.lload 5, 2) := by decide +kernel
theorem dX9_found_100 : decode cX9_found 100 = .ok (.iload_n 3, 1) := by decide +kernel
theorem dX9_found_101 : decode cX9_found 101 = .ok (.invokestatic 191, 3) := by decide +kernel
theorem dX9_found_104 : decode cX9_found 104 = .ok (.lreturn, 1) := by decide +kernel
theorem dX9_parts_0 : decode cX9_parts 0 = .ok (.aload_n 0, 1) := by decide +kernel
theorem dX9_parts_1 : decode cX9_parts 1 = .ok (.iload_n 1, 1) := by decide +kernel
theorem dX9_parts_2 : decode cX9_parts 2 = .ok (.invokevirtual 110, 3) := by decide +kernel
theorem dX9_parts_5 : decode cX9_parts 5 = .ok (.astore_n 3, 1) := by decide +kernel
theorem dX9_parts_6 : decode cX9_parts 6 = .ok (.aload_n 3, 1) := by decide +kernel
theorem dX9_parts_7 : decode cX9_parts 7 = .ok (.ifnull 12, 3) := by decide +kernel
theorem dX9_parts_10 : decode cX9_parts 10 = .ok (.iload_n 2, 1) := by decide +kernel
theorem dX9_parts_11 : decode cX9_parts 11 = .ok (.bipush 31, 2) := by decide +kernel
theorem dX9_parts_13 : decode cX9_parts 13 = .ok (.invokestatic 154, 3) := by decide +kernel
theorem dX9_parts_16 : decode cX9_parts 16 = .ok (.ifCond .ne 7, 3) := by decide +kernel
theorem dX9_parts_19 : decode cX9_parts 19 = .ok (.ldc2_w 187, 3) := by decide +kernel
theorem dX9_parts_22 : decode cX9_parts 22 = .ok (.lreturn, 1) := by decide +kernel
theorem dX9_parts_23 : decode cX9_parts 23 = .ok (.aload_n 0, 1) := by decide +kernel
theorem dX9_parts_24 : decode cX9_parts 24 = .ok (.aload_n 3, 1) := by decide +kernel
theorem dX9_parts_25 : decode cX9_parts 25 = .ok (.iload_n 2, 1) := by decide +kernel
theorem dX9_parts_26 : decode cX9_parts 26 = .ok (.invokevirtual 195, 3) := by decide +kernel
theorem dX9_parts_29 : decode cX9_parts 29 = .ok (.lreturn, 1) := by decide +kernel
theorem dX9_waiting_0 : decode cX9_waiting 0 = .ok (.aload_n 0, 1) := by decide +kernel
theorem dX9_waiting_1 : decode cX9_waiting 1 = .ok (.iload_n 1, 1) := by decide +kernel
theorem dX9_waiting_2 : decode cX9_waiting 2 = .ok (.invokevirtual 110, 3) := by decide +kernel
theorem dX9_waiting_5 : decode cX9_waiting 5 = .ok (.astore_n 3, 1) := by decide +kernel
theorem dX9_waiting_6 : decode cX9_waiting 6 = .ok (.aload_n 3, 1) := by decide +kernel
theorem dX9_waiting_7 : decode cX9_waiting 7 = .ok (.ifnull 12, 3) := by decide +kernel
theorem dX9_waiting_10 : decode cX9_waiting 10 = .ok (.iload_n 2, 1) := by decide +kernel
theorem dX9_waiting_11 : decode cX9_waiting 11 = .ok (.bipush 31, 2) := by decide +kernel
theorem dX9_waiting_13 : decode cX9_waiting 13 = .ok (.invokestatic 154, 3) := by decide +kernel
theorem dX9_waiting_16 : decode cX9_waiting 16 = .ok (.ifCond .ne 7, 3) := by decide +kernel
theorem dX9_waiting_19 : decode cX9_waiting 19 = .ok (.ldc2_w 187, 3) := by decide +kernel
theorem dX9_waiting_22 : decode cX9_waiting 22 = .ok (.lreturn, 1) := by decide +kernel
theorem dX9_waiting_23 : decode cX9_waiting 23 = .ok (.aload_n 0, 1) := by decide +kernel
theorem dX9_waiting_24 : decode cX9_waiting 24 = .ok (.aload_n 3, 1) := by decide +kernel
theorem dX9_waiting_25 : decode cX9_waiting 25 = .ok (.invokevirtual 173, 3) := by decide +kernel
theorem dX9_waiting_28 : decode cX9_waiting 28 = .ok (.lconst 0, 1) := by decide +kernel
theorem dX9_waiting_29 : decode cX9_waiting 29 = .ok (.lstore 4, 2) := by decide +kernel
theorem dX9_waiting_31 : decode cX9_waiting 31 = .ok (.ldc2_w 199, 3) := by decide +kernel
theorem dX9_waiting_34 : decode cX9_waiting 34 = .ok (.lstore 6, 2) := by decide +kernel
theorem dX9_waiting_36 : decode cX9_waiting 36 = .ok (.iconst 0, 1) := by decide +kernel
theorem dX9_waiting_37 : decode cX9_waiting 37 = .ok (.istore 8, 2) := by decide +kernel
theorem dX9_waiting_39 : decode cX9_waiting 39 = .ok (.iload 8, 2) := by decide +kernel
theorem dX9_waiting_41 : decode cX9_waiting 41 = .ok (.iload_n 2, 1) := by decide +kernel
theorem dX9_waiting_42 : decode cX9_waiting 42 = .ok (.if_icmp .ge 54, 3) := by decide +kernel
theorem dX9_waiting_45 : decode cX9_waiting 45 = .ok (.iload 8, 2) := by decide +kernel
theorem dX9_waiting_47 : decode cX9_waiting 47 = .ok (.bipush 30, 2) := by decide +kernel
theorem dX9_waiting_49 : decode cX9_waiting 49 = .ok (.if_icmp .ge 47, 3) := by decide +kernel
theorem dX9_waiting_52 : decode cX9_waiting 52 = .ok (.lload 4, 2) := by decide +kernel
theorem dX9_waiting_54 : decode cX9_waiting 54 = .ok (.lload 6, 2) := by decide +kernel
theorem dX9_waiting_56 : decode cX9_waiting 56 = .ok (.aload_n 0, 1) := by decide +kernel
theorem dX9_waiting_57 : decode cX9_waiting 57 = .ok (.iload 8, 2) := by decide +kernel
theorem dX9_waiting_59 : decode cX9_waiting 59 = .ok (.aload_n 3, 1) := by decide +kernel
theorem dX9_waiting_60 : decode cX9_waiting 60 = .ok (.invokevirtual 183, 3) := by decide +kernel
theorem dX9_waiting_63 : decode cX9_waiting 63 = .ok (.i2l, 1) := by decide +kernel
theorem dX9_waiting_64 : decode cX9_waiting 64 = .ok (.lmul, 1) := by decide +kernel
theorem dX9_waiting_65 : decode cX9_waiting 65 = .ok (.ladd, 1) := by decide +kernel
theorem dX9_waiting_66 : decode cX9_waiting 66 = .ok (.lstore 4, 2) := by decide +kernel
theorem dX9_waiting_68 : decode cX9_waiting 68 = .ok (.lload 6, 2) := by decide +kernel
theorem dX9_waiting_70 : decode cX9_waiting 70 = .ok (.bipush 100, 2) := by decide +kernel
theorem dX9_waiting_72 : decode cX9_waiting 72 = .ok (.aload_n 0, 1) := by decide +kernel
theorem dX9_waiting_73 : decode cX9_waiting 73 = .ok (.getfield 51, 3) := by decide +kernel
theorem dX9_waiting_76 : decode cX9_waiting 76 = .ok (.iload 8, 2) := by decide +kernel
theorem dX9_waiting_78 : decode cX9_waiting 78 = .ok (.invokevirtual 180, 3) := by decide +kernel
theorem dX9_waiting_81 : decode cX9_waiting 81 = .ok (.isub, 1) := by decide +kernel
theorem dX9_waiting_82 : decode cX9_waiting 82 = .ok (.i2l, 1) := by decide +kernel
theorem dX9_waiting_83 : decode cX9_waiting 83 = .ok (.lmul, 1) := by decide +kernel
theorem dX9_waiting_84 : decode cX9_waiting 84 = .ok (.ldc2_w 189, 3) := by decide +kernel
theorem dX9_waiting_87 : decode cX9_waiting 87 = .ok (.ldiv, 1) := by decide +kernel
theorem dX9_waiting_88 : decode cX9_waiting 88 = .ok (.lstore 6, 2) := by decide +kernel
theorem dX9_waiting_90 : decode cX9_waiting 90 = .ok (.iinc 8 1, 3) := by decide +kernel
theorem dX9_waiting_93 : decode cX9_waiting 93 = .ok (.goto (-54), 3) := by decide +kernel
theorem dX9_waiting_96 : decode cX9_waiting 96 = .ok (.lload 4, 2) := by decide +kernel
theorem dX9_waiting_98 : decode cX9_waiting 98 = .ok (.lreturn, 1) := by decide +kernel
theorem dX9_hang_0 : decode cX9_hang 0 = .ok (.aload_n 0, 1) := by decide +kernel
theorem dX9_hang_1 : decode cX9_hang 1 = .ok (.iload_n 1, 1) := by decide +kernel
theorem dX9_hang_2 : decode cX9_hang 2 = .ok (.invokevirtual 110, 3) := by decide +kernel
theorem dX9_hang_5 : decode cX9_hang 5 = .ok (.astore_n 3, 1) := by decide +kernel
theorem dX9_hang_6 : decode cX9_hang 6 = .ok (.aload_n 3, 1) := by decide +kernel
theorem dX9_hang_7 : decode cX9_hang 7 = .ok (.ifnull 11, 3) := by decide +kernel
theorem dX9_hang_10 : decode cX9_hang 10 = .ok (.iload_n 2, 1) := by decide +kernel
theorem dX9_hang_11 : decode cX9_hang 11 = .ok (.iconst 2, 1) := by decide +kernel
theorem dX9_hang_12 : decode cX9_hang 12 = .ok (.invokestatic 154, 3) := by decide +kernel
theorem dX9_hang_15 : decode cX9_hang 15 = .ok (.ifCond .ne 7, 3) := by decide +kernel
theorem dX9_hang_18 : decode cX9_hang 18 = .ok (.ldc2_w 187, 3) := by decide +kernel
theorem dX9_hang_21 : decode cX9_hang 21 = .ok (.lreturn, 1) := by decide +kernel
theorem dX9_hang_22 : decode cX9_hang 22 = .ok (.aload_n 0, 1) := by decide +kernel
theorem dX9_hang_23 : decode cX9_hang 23 = .ok (.getfield 56, 3) := by decide +kernel
theorem dX9_hang_26 : decode cX9_hang 26 = .ok (.aload_n 3, 1) := by decide +kernel
theorem dX9_hang_27 : decode cX9_hang 27 = .ok (.invokevirtual 201, 3) := by decide +kernel
theorem dX9_hang_30 : decode cX9_hang 30 = .ok (.ldc2_w 203, 3) := by decide +kernel
theorem dX9_hang_33 : decode cX9_hang 33 = .ok (.lstore 4, 2) := by decide +kernel
theorem dX9_hang_35 : decode cX9_hang 35 = .ok (.iconst 0, 1) := by decide +kernel
theorem dX9_hang_36 : decode cX9_hang 36 = .ok (.istore 6, 2) := by decide +kernel
theorem dX9_hang_38 : decode cX9_hang 38 = .ok (.iconst 0, 1) := by decide +kernel
theorem dX9_hang_39 : decode cX9_hang 39 = .ok (.istore 7, 2) := by decide +kernel
theorem dX9_hang_41 : decode cX9_hang 41 = .ok (.iload 7, 2) := by decide +kernel
theorem dX9_hang_43 : decode cX9_hang 43 = .ok (.bipush 20, 2) := by decide +kernel
theorem dX9_hang_45 : decode cX9_hang 45 = .ok (.if_icmp .ge 76, 3) := by decide +kernel
theorem dX9_hang_48 : decode cX9_hang 48 = .ok (.iconst 0, 1) := by decide +kernel
theorem dX9_hang_49 : decode cX9_hang 49 = .ok (.istore 8, 2) := by decide +kernel
theorem dX9_hang_51 : decode cX9_hang 51 = .ok (.iload 8, 2) := by decide +kernel
theorem dX9_hang_53 : decode cX9_hang 53 = .ok (.iconst 5, 1) := by decide +kernel
theorem dX9_hang_54 : decode cX9_hang 54 = .ok (.if_icmp .ge 61, 3) := by decide +kernel
theorem dX9_hang_57 : decode cX9_hang 57 = .ok (.aload_n 0, 1) := by decide +kernel
theorem dX9_hang_58 : decode cX9_hang 58 = .ok (.getfield 56, 3) := by decide +kernel
theorem dX9_hang_61 : decode cX9_hang 61 = .ok (.iload 7, 2) := by decide +kernel
theorem dX9_hang_63 : decode cX9_hang 63 = .ok (.putfield 137, 3) := by decide +kernel
theorem dX9_hang_66 : decode cX9_hang 66 = .ok (.aload_n 0, 1) := by decide +kernel
theorem dX9_hang_67 : decode cX9_hang 67 = .ok (.getfield 56, 3) := by decide +kernel
theorem dX9_hang_70 : decode cX9_hang 70 = .ok (.iload 8, 2) := by decide +kernel
theorem dX9_hang_72 : decode cX9_hang 72 = .ok (.putfield 140, 3) := by decide +kernel
theorem dX9_hang_75 : decode cX9_hang 75 = .ok (.aload_n 0, 1) := by decide +kernel
theorem dX9_hang_76 : decode cX9_hang 76 = .ok (.aload_n 0, 1) := by decide +kernel
theorem dX9_hang_77 : decode cX9_hang 77 = .ok (.getfield 56, 3) := by decide +kernel
theorem dX9_hang_80 : decode cX9_hang 80 = .ok (.bipush 30, 2) := by decide +kernel
theorem dX9_hang_82 : decode cX9_hang 82 = .ok (.invokevirtual 195, 3) := by decide +kernel
theorem dX9_hang_85 : decode cX9_hang 85 = .ok (.lstore 9, 2) := by decide +kernel
theorem dX9_hang_87 : decode cX9_hang 87 = .ok (.lload 9, 2) := by decide +kernel
theorem dX9_hang_89 : decode cX9_hang 89 = .ok (.lload 4, 2) := by decide +kernel
theorem dX9_hang_91 : decode cX9_hang 91 = .ok (.lcmp, 1) := by decide +kernel
theorem dX9_hang_92 : decode cX9_hang 92 = .ok (.ifCond .le 17, 3) := by decide +kernel
theorem dX9_hang_95 : decode cX9_hang 95 = .ok (.lload 9, 2) := by decide +kernel
theorem dX9_hang_97 : decode cX9_hang 97 = .ok (.lstore 4, 2) := by decide +kernel
theorem dX9_hang_99 : decode cX9_hang 99 = .ok (.bipush 10, 2) := by decide +kernel
theorem dX9_hang_101 : decode cX9_hang 101 = .ok (.iload 7, 2) := by decide +kernel
theorem dX9_hang_103 : decode cX9_hang 103 = .ok (.imul, 1) := by decide +kernel
theorem dX9_hang_104 : decode cX9_hang 104 = .ok (.iload 8, 2) := by decide +kernel
theorem dX9_hang_106 : decode cX9_hang 106 = .ok (.iadd, 1) := by decide +kernel
theorem dX9_hang_107 : decode cX9_hang 107 = .ok (.istore 6, 2) := by decide +kernel
theorem dX9_hang_109 : decode cX9_hang 109 = .ok (.iinc 8 1, 3) := by decide +kernel
theorem dX9_hang_112 : decode cX9_hang 112 = .ok (.goto (-61), 3) := by decide +kernel
theorem dX9_hang_115 : decode cX9_hang 115 = .ok (.iinc 7 1, 3) := by decide +kernel
theorem dX9_hang_118 : decode cX9_hang 118 = .ok (.goto (-77), 3) := by decide +kernel
theorem dX9_hang_121 : decode cX9_hang 121 = .ok (.iload_n 2, 1) := by decide +kernel
theorem dX9_hang_122 : decode cX9_hang 122 = .ok (.ifCond .ne 9, 3) := by decide +kernel
theorem dX9_hang_125 : decode cX9_hang 125 = .ok (.iload 6, 2) := by decide +kernel
theorem dX9_hang_127 : decode cX9_hang 127 = .ok (.i2l, 1) := by decide +kernel
theorem dX9_hang_128 : decode cX9_hang 128 = .ok (.goto 5, 3) := by decide +kernel
theorem dX9_hang_131 : decode cX9_hang 131 = .ok (.lload 4, 2) := by decide +kernel
theorem dX9_hang_133 : decode cX9_hang 133 = .ok (.lreturn, 1) := by decide +kernel
theorem dX9_walk_0 : decode cX9_walk 0 = .ok (.aload_n 0, 1) := by decide +kernel
theorem dX9_walk_1 : decode cX9_walk 1 = .ok (.iload_n 1, 1) := by decide +kernel
theorem dX9_walk_2 : decode cX9_walk 2 = .ok (.invokevirtual 110, 3) := by decide +kernel
theorem dX9_walk_5 : decode cX9_walk 5 = .ok (.astore_n 3, 1) := by decide +kernel
theorem dX9_walk_6 : decode cX9_walk 6 = .ok (.aload_n 3, 1) := by decide +kernel
theorem dX9_walk_7 : decode cX9_walk 7 = .ok (.ifnull 11, 3) := by decide +kernel
theorem dX9_walk_10 : decode cX9_walk 10 = .ok (.iload_n 2, 1) := by decide +kernel
theorem dX9_walk_11 : decode cX9_walk 11 = .ok (.iconst 2, 1) := by decide +kernel
theorem dX9_walk_12 : decode cX9_walk 12 = .ok (.invokestatic 154, 3) := by decide +kernel
theorem dX9_walk_15 : decode cX9_walk 15 = .ok (.ifCond .ne 7, 3) := by decide +kernel
theorem dX9_walk_18 : decode cX9_walk 18 = .ok (.ldc2_w 187, 3) := by decide +kernel
theorem dX9_walk_21 : decode cX9_walk 21 = .ok (.lreturn, 1) := by decide +kernel
theorem dX9_walk_22 : decode cX9_walk 22 = .ok (.ldc2_w 187, 3) := by decide +kernel
theorem dX9_walk_25 : decode cX9_walk 25 = .ok (.lstore 4, 2) := by decide +kernel
theorem dX9_walk_27 : decode cX9_walk 27 = .ok (.lconst 0, 1) := by decide +kernel
theorem dX9_walk_28 : decode cX9_walk 28 = .ok (.lstore 6, 2) := by decide +kernel
theorem dX9_walk_30 : decode cX9_walk 30 = .ok (.iconst 0, 1) := by decide +kernel
theorem dX9_walk_31 : decode cX9_walk 31 = .ok (.istore 8, 2) := by decide +kernel
theorem dX9_walk_33 : decode cX9_walk 33 = .ok (.iconst 0, 1) := by decide +kernel
theorem dX9_walk_34 : decode cX9_walk 34 = .ok (.istore 9, 2) := by decide +kernel
theorem dX9_walk_36 : decode cX9_walk 36 = .ok (.iload 9, 2) := by decide +kernel
theorem dX9_walk_38 : decode cX9_walk 38 = .ok (.bipush 20, 2) := by decide +kernel
theorem dX9_walk_40 : decode cX9_walk 40 = .ok (.if_icmp .ge 156, 3) := by decide +kernel
theorem dX9_walk_43 : decode cX9_walk 43 = .ok (.aload_n 0, 1) := by decide +kernel
theorem dX9_walk_44 : decode cX9_walk 44 = .ok (.getfield 51, 3) := by decide +kernel
theorem dX9_walk_47 : decode cX9_walk 47 = .ok (.aload_n 0, 1) := by decide +kernel
theorem dX9_walk_48 : decode cX9_walk 48 = .ok (.invokevirtual 205, 3) := by decide +kernel
theorem dX9_walk_51 : decode cX9_walk 51 = .ok (.aload_n 3, 1) := by decide +kernel
theorem dX9_walk_52 : decode cX9_walk 52 = .ok (.iload 9, 2) := by decide +kernel
theorem dX9_walk_54 : decode cX9_walk 54 = .ok (.invokevirtual 209, 3) := by decide +kernel
theorem dX9_walk_57 : decode cX9_walk 57 = .ok (.aload_n 0, 1) := by decide +kernel
theorem dX9_walk_58 : decode cX9_walk 58 = .ok (.getfield 51, 3) := by decide +kernel
theorem dX9_walk_61 : decode cX9_walk 61 = .ok (.aload_n 0, 1) := by decide +kernel
theorem dX9_walk_62 : decode cX9_walk 62 = .ok (.invokevirtual 205, 3) := by decide +kernel
theorem dX9_walk_65 : decode cX9_walk 65 = .ok (.aload_n 3, 1) := by decide +kernel
theorem dX9_walk_66 : decode cX9_walk 66 = .ok (.iload 9, 2) := by decide +kernel
theorem dX9_walk_68 : decode cX9_walk 68 = .ok (.invokevirtual 212, 3) := by decide +kernel
theorem dX9_walk_71 : decode cX9_walk 71 = .ok (.iload 9, 2) := by decide +kernel
theorem dX9_walk_73 : decode cX9_walk 73 = .ok (.iconst 2, 1) := by decide +kernel
theorem dX9_walk_74 : decode cX9_walk 74 = .ok (.imul, 1) := by decide +kernel
theorem dX9_walk_75 : decode cX9_walk 75 = .ok (.istore 10, 2) := by decide +kernel
theorem dX9_walk_77 : decode cX9_walk 77 = .ok (.iload 10, 2) := by decide +kernel
theorem dX9_walk_79 : decode cX9_walk 79 = .ok (.bipush 40, 2) := by decide +kernel
theorem dX9_walk_81 : decode cX9_walk 81 = .ok (.if_icmp .ge 109, 3) := by decide +kernel
theorem dX9_walk_84 : decode cX9_walk 84 = .ok (.aload_n 0, 1) := by decide +kernel
theorem dX9_walk_85 : decode cX9_walk 85 = .ok (.getfield 60, 3) := by decide +kernel
theorem dX9_walk_88 : decode cX9_walk 88 = .ok (.iload 9, 2) := by decide +kernel
theorem dX9_walk_90 : decode cX9_walk 90 = .ok (.iload 10, 2) := by decide +kernel
theorem dX9_walk_92 : decode cX9_walk 92 = .ok (.iconst 2, 1) := by decide +kernel
theorem dX9_walk_93 : decode cX9_walk 93 = .ok (.idiv, 1) := by decide +kernel
theorem dX9_walk_94 : decode cX9_walk 94 = .ok (.iload 10, 2) := by decide +kernel
theorem dX9_walk_96 : decode cX9_walk 96 = .ok (.iconst 2, 1) := by decide +kernel
theorem dX9_walk_97 : decode cX9_walk 97 = .ok (.irem, 1) := by decide +kernel
theorem dX9_walk_98 : decode cX9_walk 98 = .ok (.invokevirtual 65, 3) := by decide +kernel
theorem dX9_walk_101 : decode cX9_walk 101 = .ok (.aload_n 0, 1) := by decide +kernel
theorem dX9_walk_102 : decode cX9_walk 102 = .ok (.getfield 51, 3) := by decide +kernel
theorem dX9_walk_105 : decode cX9_walk 105 = .ok (.aload_n 3, 1) := by decide +kernel
theorem dX9_walk_106 : decode cX9_walk 106 = .ok (.aload_n 0, 1) := by decide +kernel
theorem dX9_walk_107 : decode cX9_walk 107 = .ok (.getfield 60, 3) := by decide +kernel
theorem dX9_walk_110 : decode cX9_walk 110 = .ok (.invokevirtual 215, 3) := by decide +kernel
theorem dX9_walk_113 : decode cX9_walk 113 = .ok (.aload_n 0, 1) := by decide +kernel
theorem dX9_walk_114 : decode cX9_walk 114 = .ok (.getfield 51, 3) := by decide +kernel
theorem dX9_walk_117 : decode cX9_walk 117 = .ok (.bipush 30, 2) := by decide +kernel
theorem dX9_walk_119 : decode cX9_walk 119 = .ok (.invokevirtual 219, 3) := by decide +kernel
theorem dX9_walk_122 : decode cX9_walk 122 = .ok (.lstore 11, 2) := by decide +kernel
theorem dX9_walk_124 : decode cX9_walk 124 = .ok (.lload 11, 2) := by decide +kernel
theorem dX9_walk_126 : decode cX9_walk 126 = .ok (.ldc2_w 199, 3) := by decide +kernel
theorem dX9_walk_129 : decode cX9_walk 129 = .ok (.aload_n 0, 1) := by decide +kernel
theorem dX9_walk_130 : decode cX9_walk 130 = .ok (.getfield 60, 3) := by decide +kernel
theorem dX9_walk_133 : decode cX9_walk 133 = .ok (.invokevirtual 223, 3) := by decide +kernel
theorem dX9_walk_136 : decode cX9_walk 136 = .ok (.i2l, 1) := by decide +kernel
theorem dX9_walk_137 : decode cX9_walk 137 = .ok (.lmul, 1) := by decide +kernel
theorem dX9_walk_138 : decode cX9_walk 138 = .ok (.lsub, 1) := by decide +kernel
theorem dX9_walk_139 : decode cX9_walk 139 = .ok (.lstore 13, 2) := by decide +kernel
theorem dX9_walk_141 : decode cX9_walk 141 = .ok (.lload 13, 2) := by decide +kernel
theorem dX9_walk_143 : decode cX9_walk 143 = .ok (.lload 4, 2) := by decide +kernel
theorem dX9_walk_145 : decode cX9_walk 145 = .ok (.lcmp, 1) := by decide +kernel
theorem dX9_walk_146 : decode cX9_walk 146 = .ok (.ifCond .le 38, 3) := by decide +kernel
theorem dX9_walk_149 : decode cX9_walk 149 = .ok (.lload 13, 2) := by decide +kernel
theorem dX9_walk_151 : decode cX9_walk 151 = .ok (.lstore 4, 2) := by decide +kernel
theorem dX9_walk_153 : decode cX9_walk 153 = .ok (.lload 11, 2) := by decide +kernel
theorem dX9_walk_155 : decode cX9_walk 155 = .ok (.lstore 6, 2) := by decide +kernel
theorem dX9_walk_157 : decode cX9_walk 157 = .ok (.sipush 1000, 3) := by decide +kernel
theorem dX9_walk_160 : decode cX9_walk 160 = .ok (.iload 9, 2) := by decide +kernel
theorem dX9_walk_162 : decode cX9_walk 162 = .ok (.imul, 1) := by decide +kernel
theorem dX9_walk_163 : decode cX9_walk 163 = .ok (.bipush 10, 2) := by decide +kernel
theorem dX9_walk_165 : decode cX9_walk 165 = .ok (.aload_n 0, 1) := by decide +kernel
theorem dX9_walk_166 : decode cX9_walk 166 = .ok (.getfield 60, 3) := by decide +kernel
theorem dX9_walk_169 : decode cX9_walk 169 = .ok (.getfield 124, 3) := by decide +kernel
theorem dX9_walk_172 : decode cX9_walk 172 = .ok (.imul, 1) := by decide +kernel
theorem dX9_walk_173 : decode cX9_walk 173 = .ok (.iadd, 1) := by decide +kernel
theorem dX9_walk_174 : decode cX9_walk 174 = .ok (.aload_n 0, 1) := by decide +kernel
theorem dX9_walk_175 : decode cX9_walk 175 = .ok (.getfield 60, 3) := by decide +kernel
theorem dX9_walk_178 : decode cX9_walk 178 = .ok (.getfield 127, 3) := by decide +kernel
theorem dX9_walk_181 : decode cX9_walk 181 = .ok (.iadd, 1) := by decide +kernel
theorem dX9_walk_182 : decode cX9_walk 182 = .ok (.istore 8, 2) := by decide +kernel
theorem dX9_walk_184 : decode cX9_walk 184 = .ok (.iinc 10 1, 3) := by decide +kernel
theorem dX9_walk_187 : decode cX9_walk 187 = .ok (.goto (-110), 3) := by decide +kernel
theorem dX9_walk_190 : decode cX9_walk 190 = .ok (.iinc 9 1, 3) := by decide +kernel
theorem dX9_walk_193 : decode cX9_walk 193 = .ok (.goto (-157), 3) := by decide +kernel
theorem dX9_walk_196 : decode cX9_walk 196 = .ok (.iload_n 2, 1) := by decide +kernel
theorem dX9_walk_197 : decode cX9_walk 197 = .ok (.ifCond .ne 9, 3) := by decide +kernel
theorem dX9_walk_200 : decode cX9_walk 200 = .ok (.iload 8, 2) := by decide +kernel
theorem dX9_walk_202 : decode cX9_walk 202 = .ok (.i2l, 1) := by decide +kernel
theorem dX9_walk_203 : decode cX9_walk 203 = .ok (.goto 5, 3) := by decide +kernel
theorem dX9_walk_206 : decode cX9_walk 206 = .ok (.lload 6, 2) := by decide +kernel
theorem dX9_walk_208 : decode cX9_walk 208 = .ok (.lreturn, 1) := by decide +kernel
theorem dX9_best_0 : decode cX9_best 0 = .ok (.aload_n 0, 1) := by decide +kernel
theorem dX9_best_1 : decode cX9_best 1 = .ok (.iload_n 1, 1) := by decide +kernel
theorem dX9_best_2 : decode cX9_best 2 = .ok (.invokevirtual 110, 3) := by decide +kernel
theorem dX9_best_5 : decode cX9_best 5 = .ok (.astore_n 3, 1) := by decide +kernel
theorem dX9_best_6 : decode cX9_best 6 = .ok (.aload_n 3, 1) := by decide +kernel
theorem dX9_best_7 : decode cX9_best 7 = .ok (.ifnull 11, 3) := by decide +kernel
theorem dX9_best_10 : decode cX9_best 10 = .ok (.iload_n 2, 1) := by decide +kernel
theorem dX9_best_11 : decode cX9_best 11 = .ok (.iconst 2, 1) := by decide +kernel
theorem dX9_best_12 : decode cX9_best 12 = .ok (.invokestatic 154, 3) := by decide +kernel
theorem dX9_best_15 : decode cX9_best 15 = .ok (.ifCond .ne 6, 3) := by decide +kernel
theorem dX9_best_18 : decode cX9_best 18 = .ok (.bipush (-2), 2) := by decide +kernel
theorem dX9_best_20 : decode cX9_best 20 = .ok (.ireturn, 1) := by decide +kernel
theorem dX9_best_21 : decode cX9_best 21 = .ok (.aload_n 0, 1) := by decide +kernel
theorem dX9_best_22 : decode cX9_best 22 = .ok (.aload_n 3, 1) := by decide +kernel
theorem dX9_best_23 : decode cX9_best 23 = .ok (.invokevirtual 173, 3) := by decide +kernel
theorem dX9_best_26 : decode cX9_best 26 = .ok (.iconst 0, 1) := by decide +kernel
theorem dX9_best_27 : decode cX9_best 27 = .ok (.istore 4, 2) := by decide +kernel
theorem dX9_best_29 : decode cX9_best 29 = .ok (.iconst 1, 1) := by decide +kernel
theorem dX9_best_30 : decode cX9_best 30 = .ok (.istore 5, 2) := by decide +kernel
theorem dX9_best_32 : decode cX9_best 32 = .ok (.iload 5, 2) := by decide +kernel
theorem dX9_best_34 : decode cX9_best 34 = .ok (.bipush 30, 2) := by decide +kernel
theorem dX9_best_36 : decode cX9_best 36 = .ok (.if_icmp .ge 34, 3) := by decide +kernel
theorem dX9_best_39 : decode cX9_best 39 = .ok (.aload_n 0, 1) := by decide +kernel
theorem dX9_best_40 : decode cX9_best 40 = .ok (.getfield 51, 3) := by decide +kernel
theorem dX9_best_43 : decode cX9_best 43 = .ok (.iload 5, 2) := by decide +kernel
theorem dX9_best_45 : decode cX9_best 45 = .ok (.invokevirtual 180, 3) := by decide +kernel
theorem dX9_best_48 : decode cX9_best 48 = .ok (.aload_n 0, 1) := by decide +kernel
theorem dX9_best_49 : decode cX9_best 49 = .ok (.getfield 51, 3) := by decide +kernel
theorem dX9_best_52 : decode cX9_best 52 = .ok (.iload 4, 2) := by decide +kernel
theorem dX9_best_54 : decode cX9_best 54 = .ok (.invokevirtual 180, 3) := by decide +kernel
theorem dX9_best_57 : decode cX9_best 57 = .ok (.if_icmp .le 7, 3) := by decide +kernel
theorem dX9_best_60 : decode cX9_best 60 = .ok (.iload 5, 2) := by decide +kernel
theorem dX9_best_62 : decode cX9_best 62 = .ok (.istore 4, 2) := by decide +kernel
theorem dX9_best_64 : decode cX9_best 64 = .ok (.iinc 5 1, 3) := by decide +kernel
theorem dX9_best_67 : decode cX9_best 67 = .ok (.goto (-35), 3) := by decide +kernel
theorem dX9_best_70 : decode cX9_best 70 = .ok (.iload_n 2, 1) := by decide +kernel
theorem dX9_best_71 : decode cX9_best 71 = .ok (.ifCond .ne 8, 3) := by decide +kernel
theorem dX9_best_74 : decode cX9_best 74 = .ok (.iload 4, 2) := by decide +kernel
theorem dX9_best_76 : decode cX9_best 76 = .ok (.goto 12, 3) := by decide +kernel
theorem dX9_best_79 : decode cX9_best 79 = .ok (.aload_n 0, 1) := by decide +kernel
theorem dX9_best_80 : decode cX9_best 80 = .ok (.getfield 51, 3) := by decide +kernel
theorem dX9_best_83 : decode cX9_best 83 = .ok (.iload 4, 2) := by decide +kernel
theorem dX9_best_85 : decode cX9_best 85 = .ok (.invokevirtual 180, 3) := by decide +kernel
theorem dX9_best_88 : decode cX9_best 88 = .ok (.ireturn, 1) := by decide +kernel
theorem dX9_first_0 : decode cX9_first 0 = .ok (.iload_n 1, 1) := by decide +kernel
theorem dX9_first_1 : decode cX9_first 1 = .ok (.bipush 31, 2) := by decide +kernel
theorem dX9_first_3 : decode cX9_first 3 = .ok (.invokestatic 154, 3) := by decide +kernel
theorem dX9_first_6 : decode cX9_first 6 = .ok (.ifCond .eq 11, 3) := by decide +kernel
theorem dX9_first_9 : decode cX9_first 9 = .ok (.iload_n 2, 1) := by decide +kernel
theorem dX9_first_10 : decode cX9_first 10 = .ok (.iconst 2, 1) := by decide +kernel
theorem dX9_first_11 : decode cX9_first 11 = .ok (.invokestatic 154, 3) := by decide +kernel
theorem dX9_first_14 : decode cX9_first 14 = .ok (.ifCond .ne 7, 3) := by decide +kernel
theorem dX9_first_17 : decode cX9_first 17 = .ok (.ldc2_w 187, 3) := by decide +kernel
theorem dX9_first_20 : decode cX9_first 20 = .ok (.lreturn, 1) := by decide +kernel
theorem dX9_first_21 : decode cX9_first 21 = .ok (.ldc2_w 203, 3) := by decide +kernel
theorem dX9_first_24 : decode cX9_first 24 = .ok (.lstore_n 3, 1) := by decide +kernel
theorem dX9_first_25 : decode cX9_first 25 = .ok (.iconst (-1), 1) := by decide +kernel
theorem dX9_first_26 : decode cX9_first 26 = .ok (.istore 5, 2) := by decide +kernel
theorem dX9_first_28 : decode cX9_first 28 = .ok (.iconst 0, 1) := by decide +kernel
theorem dX9_first_29 : decode cX9_first 29 = .ok (.istore 6, 2) := by decide +kernel
theorem dX9_first_31 : decode cX9_first 31 = .ok (.iload 6, 2) := by decide +kernel
theorem dX9_first_33 : decode cX9_first 33 = .ok (.bipush 6, 2) := by decide +kernel
theorem dX9_first_35 : decode cX9_first 35 = .ok (.if_icmp .ge 51, 3) := by decide +kernel
theorem dX9_first_38 : decode cX9_first 38 = .ok (.aload_n 0, 1) := by decide +kernel
theorem dX9_first_39 : decode cX9_first 39 = .ok (.iload 6, 2) := by decide +kernel
theorem dX9_first_41 : decode cX9_first 41 = .ok (.invokevirtual 110, 3) := by decide +kernel
theorem dX9_first_44 : decode cX9_first 44 = .ok (.astore 7, 2) := by decide +kernel
theorem dX9_first_46 : decode cX9_first 46 = .ok (.aload 7, 2) := by decide +kernel
theorem dX9_first_48 : decode cX9_first 48 = .ok (.ifnonnull 9, 3) := by decide +kernel
theorem dX9_first_51 : decode cX9_first 51 = .ok (.ldc2_w 203, 3) := by decide +kernel
theorem dX9_first_54 : decode cX9_first 54 = .ok (.goto 10, 3) := by decide +kernel
theorem dX9_first_57 : decode cX9_first 57 = .ok (.aload_n 0, 1) := by decide +kernel
theorem dX9_first_58 : decode cX9_first 58 = .ok (.aload 7, 2) := by decide +kernel
theorem dX9_first_60 : decode cX9_first 60 = .ok (.iload_n 1, 1) := by decide +kernel
theorem dX9_first_61 : decode cX9_first 61 = .ok (.invokevirtual 195, 3) := by decide +kernel
theorem dX9_first_64 : decode cX9_first 64 = .ok (.lstore 8, 2) := by decide +kernel
theorem dX9_first_66 : decode cX9_first 66 = .ok (.lload 8, 2) := by decide +kernel
theorem dX9_first_68 : decode cX9_first 68 = .ok (.lload_n 3, 1) := by decide +kernel
theorem dX9_first_69 : decode cX9_first 69 = .ok (.lcmp, 1) := by decide +kernel
theorem dX9_first_70 : decode cX9_first 70 = .ok (.ifCond .le 10, 3) := by decide +kernel
theorem dX9_first_73 : decode cX9_first 73 = .ok (.lload 8, 2) := by decide +kernel
theorem dX9_first_75 : decode cX9_first 75 = .ok (.lstore_n 3, 1) := by decide +kernel
theorem dX9_first_76 : decode cX9_first 76 = .ok (.iload 6, 2) := by decide +kernel
theorem dX9_first_78 : decode cX9_first 78 = .ok (.istore 5, 2) := by decide +kernel
theorem dX9_first_80 : decode cX9_first 80 = .ok (.iinc 6 1, 3) := by decide +kernel
theorem dX9_first_83 : decode cX9_first 83 = .ok (.goto (-52), 3) := by decide +kernel
theorem dX9_first_86 : decode cX9_first 86 = .ok (.iload_n 2, 1) := by decide +kernel
theorem dX9_first_87 : decode cX9_first 87 = .ok (.ifCond .ne 9, 3) := by decide +kernel
theorem dX9_first_90 : decode cX9_first 90 = .ok (.iload 5, 2) := by decide +kernel
theorem dX9_first_92 : decode cX9_first 92 = .ok (.i2l, 1) := by decide +kernel
theorem dX9_first_93 : decode cX9_first 93 = .ok (.goto 4, 3) := by decide +kernel
theorem dX9_first_96 : decode cX9_first 96 = .ok (.lload_n 3, 1) := by decide +kernel
theorem dX9_first_97 : decode cX9_first 97 = .ok (.lreturn, 1) := by decide +kernel
theorem dX9_giveUp_0 : decode cX9_giveUp 0 = .ok (.aload_n 0, 1) := by decide +kernel
theorem dX9_giveUp_1 : decode cX9_giveUp 1 = .ok (.iload_n 1, 1) := by decide +kernel
theorem dX9_giveUp_2 : decode cX9_giveUp 2 = .ok (.invokevirtual 110, 3) := by decide +kernel
theorem dX9_giveUp_5 : decode cX9_giveUp 5 = .ok (.astore_n 3, 1) := by decide +kernel
theorem dX9_giveUp_6 : decode cX9_giveUp 6 = .ok (.aload_n 3, 1) := by decide +kernel
theorem dX9_giveUp_7 : decode cX9_giveUp 7 = .ok (.ifnull 14, 3) := by decide +kernel
theorem dX9_giveUp_10 : decode cX9_giveUp 10 = .ok (.iload_n 2, 1) := by decide +kernel
theorem dX9_giveUp_11 : decode cX9_giveUp 11 = .ok (.iconst 1, 1) := by decide +kernel
theorem dX9_giveUp_12 : decode cX9_giveUp 12 = .ok (.if_icmp .lt 9, 3) := by decide +kernel
theorem dX9_giveUp_15 : decode cX9_giveUp 15 = .ok (.iload_n 2, 1) := by decide +kernel
theorem dX9_giveUp_16 : decode cX9_giveUp 16 = .ok (.bipush 100, 2) := by decide +kernel
theorem dX9_giveUp_18 : decode cX9_giveUp 18 = .ok (.if_icmp .le 6, 3) := by decide +kernel
theorem dX9_giveUp_21 : decode cX9_giveUp 21 = .ok (.bipush (-2), 2) := by decide +kernel
theorem dX9_giveUp_23 : decode cX9_giveUp 23 = .ok (.ireturn, 1) := by decide +kernel
theorem dX9_giveUp_24 : decode cX9_giveUp 24 = .ok (.aload_n 0, 1) := by decide +kernel
theorem dX9_giveUp_25 : decode cX9_giveUp 25 = .ok (.aload_n 3, 1) := by decide +kernel
theorem dX9_giveUp_26 : decode cX9_giveUp 26 = .ok (.invokevirtual 173, 3) := by decide +kernel
theorem dX9_giveUp_29 : decode cX9_giveUp 29 = .ok (.bipush 30, 2) := by decide +kernel
theorem dX9_giveUp_31 : decode cX9_giveUp 31 = .ok (.istore 4, 2) := by decide +kernel
theorem dX9_giveUp_33 : decode cX9_giveUp 33 = .ok (.iload 4, 2) := by decide +kernel
theorem dX9_giveUp_35 : decode cX9_giveUp 35 = .ok (.ifCond .le 24, 3) := by decide +kernel
theorem dX9_giveUp_38 : decode cX9_giveUp 38 = .ok (.aload_n 0, 1) := by decide +kernel
theorem dX9_giveUp_39 : decode cX9_giveUp 39 = .ok (.getfield 51, 3) := by decide +kernel
theorem dX9_giveUp_42 : decode cX9_giveUp 42 = .ok (.iload 4, 2) := by decide +kernel
theorem dX9_giveUp_44 : decode cX9_giveUp 44 = .ok (.iconst 1, 1) := by decide +kernel
theorem dX9_giveUp_45 : decode cX9_giveUp 45 = .ok (.isub, 1) := by decide +kernel
theorem dX9_giveUp_46 : decode cX9_giveUp 46 = .ok (.invokevirtual 180, 3) := by decide +kernel
theorem dX9_giveUp_49 : decode cX9_giveUp 49 = .ok (.iload_n 2, 1) := by decide +kernel
theorem dX9_giveUp_50 : decode cX9_giveUp 50 = .ok (.if_icmp .ge 9, 3) := by decide +kernel
theorem dX9_giveUp_53 : decode cX9_giveUp 53 = .ok (.iinc 4 (-1), 3) := by decide +kernel
theorem dX9_giveUp_56 : decode cX9_giveUp 56 = .ok (.goto (-23), 3) := by decide +kernel
theorem dX9_giveUp_59 : decode cX9_giveUp 59 = .ok (.iload 4, 2) := by decide +kernel
theorem dX9_giveUp_61 : decode cX9_giveUp 61 = .ok (.ireturn, 1) := by decide +kernel
theorem dX9_tells_0 : decode cX9_tells 0 = .ok (.aload_n 0, 1) := by decide +kernel
theorem dX9_tells_1 : decode cX9_tells 1 = .ok (.iload_n 1, 1) := by decide +kernel
theorem dX9_tells_2 : decode cX9_tells 2 = .ok (.invokevirtual 226, 3) := by decide +kernel
theorem dX9_tells_5 : decode cX9_tells 5 = .ok (.astore 4, 2) := by decide +kernel
theorem dX9_tells_7 : decode cX9_tells 7 = .ok (.aload_n 0, 1) := by decide +kernel
theorem dX9_tells_8 : decode cX9_tells 8 = .ok (.iload_n 2, 1) := by decide +kernel
theorem dX9_tells_9 : decode cX9_tells 9 = .ok (.invokevirtual 110, 3) := by decide +kernel
theorem dX9_tells_12 : decode cX9_tells 12 = .ok (.astore 5, 2) := by decide +kernel
theorem dX9_tells_14 : decode cX9_tells 14 = .ok (.aload 4, 2) := by decide +kernel
theorem dX9_tells_16 : decode cX9_tells 16 = .ok (.ifnull 17, 3) := by decide +kernel
theorem dX9_tells_19 : decode cX9_tells 19 = .ok (.aload 5, 2) := by decide +kernel
theorem dX9_tells_21 : decode cX9_tells 21 = .ok (.ifnull 12, 3) := by decide +kernel
theorem dX9_tells_24 : decode cX9_tells 24 = .ok (.iload_n 3, 1) := by decide +kernel
theorem dX9_tells_25 : decode cX9_tells 25 = .ok (.ifCond .lt 8, 3) := by decide +kernel
theorem dX9_tells_28 : decode cX9_tells 28 = .ok (.iload_n 3, 1) := by decide +kernel
theorem dX9_tells_29 : decode cX9_tells 29 = .ok (.iconst 5, 1) := by decide +kernel
theorem dX9_tells_30 : decode cX9_tells 30 = .ok (.if_icmp .le 6, 3) := by decide +kernel
theorem dX9_tells_33 : decode cX9_tells 33 = .ok (.bipush (-2), 2) := by decide +kernel
theorem dX9_tells_35 : decode cX9_tells 35 = .ok (.ireturn, 1) := by decide +kernel
theorem dX9_tells_36 : decode cX9_tells 36 = .ok (.aload 4, 2) := by decide +kernel
theorem dX9_tells_38 : decode cX9_tells 38 = .ok (.invokevirtual 230, 3) := by decide +kernel
theorem dX9_tells_41 : decode cX9_tells 41 = .ok (.ifCond .eq 6, 3) := by decide +kernel
theorem dX9_tells_44 : decode cX9_tells 44 = .ok (.bipush (-11), 2) := by decide +kernel
theorem dX9_tells_46 : decode cX9_tells 46 = .ok (.ireturn, 1) := by decide +kernel
theorem dX9_tells_47 : decode cX9_tells 47 = .ok (.aload 4, 2) := by decide +kernel
theorem dX9_tells_49 : decode cX9_tells 49 = .ok (.getfield 234, 3) := by decide +kernel
theorem dX9_tells_52 : decode cX9_tells 52 = .ok (.bipush 30, 2) := by decide +kernel
theorem dX9_tells_54 : decode cX9_tells 54 = .ok (.if_icmp .le 6, 3) := by decide +kernel
theorem dX9_tells_57 : decode cX9_tells 57 = .ok (.bipush (-2), 2) := by decide +kernel
theorem dX9_tells_59 : decode cX9_tells 59 = .ok (.ireturn, 1) := by decide +kernel
theorem dX9_tells_60 : decode cX9_tells 60 = .ok (.iload_n 3, 1) := by decide +kernel
theorem dX9_tells_61 : decode cX9_tells 61 = .ok (.ifCond .ne 18, 3) := by decide +kernel
theorem dX9_tells_64 : decode cX9_tells 64 = .ok (.aload_n 0, 1) := by decide +kernel
theorem dX9_tells_65 : decode cX9_tells 65 = .ok (.aload 4, 2) := by decide +kernel
theorem dX9_tells_67 : decode cX9_tells 67 = .ok (.aload 5, 2) := by decide +kernel
theorem dX9_tells_69 : decode cX9_tells 69 = .ok (.aload_n 0, 1) := by decide +kernel
theorem dX9_tells_70 : decode cX9_tells 70 = .ok (.invokevirtual 205, 3) := by decide +kernel
theorem dX9_tells_73 : decode cX9_tells 73 = .ok (.invokevirtual 235, 3) := by decide +kernel
theorem dX9_tells_76 : decode cX9_tells 76 = .ok (.goto 12, 3) := by decide +kernel
theorem dX9_tells_79 : decode cX9_tells 79 = .ok (.aload_n 0, 1) := by decide +kernel
theorem dX9_tells_80 : decode cX9_tells 80 = .ok (.aload 4, 2) := by decide +kernel
theorem dX9_tells_82 : decode cX9_tells 82 = .ok (.aload 5, 2) := by decide +kernel
theorem dX9_tells_84 : decode cX9_tells 84 = .ok (.iload_n 3, 1) := by decide +kernel
theorem dX9_tells_85 : decode cX9_tells 85 = .ok (.invokevirtual 239, 3) := by decide +kernel
theorem dX9_tells_88 : decode cX9_tells 88 = .ok (.ireturn, 1) := by decide +kernel
theorem dX9_otherwiseOn_0 : decode cX9_otherwiseOn 0 = .ok (.aload_n 0, 1) := by decide +kernel
theorem dX9_otherwiseOn_1 : decode cX9_otherwiseOn 1 = .ok (.getfield 51, 3) := by decide +kernel
theorem dX9_otherwiseOn_4 : decode cX9_otherwiseOn 4 = .ok (.aload_n 3, 1) := by decide +kernel
theorem dX9_otherwiseOn_5 : decode cX9_otherwiseOn 5 = .ok (.aload_n 2, 1) := by decide +kernel
theorem dX9_otherwiseOn_6 : decode cX9_otherwiseOn 6 = .ok (.aload_n 0, 1) := by decide +kernel
theorem dX9_otherwiseOn_7 : decode cX9_otherwiseOn 7 = .ok (.getfield 18, 3) := by decide +kernel
theorem dX9_otherwiseOn_10 : decode cX9_otherwiseOn 10 = .ok (.getfield 121, 3) := by decide +kernel
theorem dX9_otherwiseOn_13 : decode cX9_otherwiseOn 13 = .ok (.invokevirtual 209, 3) := by decide +kernel
theorem dX9_otherwiseOn_16 : decode cX9_otherwiseOn 16 = .ok (.iconst 0, 1) := by decide +kernel
theorem dX9_otherwiseOn_17 : decode cX9_otherwiseOn 17 = .ok (.istore 4, 2) := by decide +kernel
theorem dX9_otherwiseOn_19 : decode cX9_otherwiseOn 19 = .ok (.iload 4, 2) := by decide +kernel
theorem dX9_otherwiseOn_21 : decode cX9_otherwiseOn 21 = .ok (.aload_n 1, 1) := by decide +kernel
theorem dX9_otherwiseOn_22 : decode cX9_otherwiseOn 22 = .ok (.getfield 234, 3) := by decide +kernel
theorem dX9_otherwiseOn_25 : decode cX9_otherwiseOn 25 = .ok (.if_icmp .ge 37, 3) := by decide +kernel
theorem dX9_otherwiseOn_28 : decode cX9_otherwiseOn 28 = .ok (.iload 4, 2) := by decide +kernel
theorem dX9_otherwiseOn_30 : decode cX9_otherwiseOn 30 = .ok (.bipush 30, 2) := by decide +kernel
theorem dX9_otherwiseOn_32 : decode cX9_otherwiseOn 32 = .ok (.if_icmp .ge 30, 3) := by decide +kernel
theorem dX9_otherwiseOn_35 : decode cX9_otherwiseOn 35 = .ok (.aload_n 1, 1) := by decide +kernel
theorem dX9_otherwiseOn_36 : decode cX9_otherwiseOn 36 = .ok (.iload 4, 2) := by decide +kernel
theorem dX9_otherwiseOn_38 : decode cX9_otherwiseOn 38 = .ok (.invokevirtual 243, 3) := by decide +kernel
theorem dX9_otherwiseOn_41 : decode cX9_otherwiseOn 41 = .ok (.aload_n 0, 1) := by decide +kernel
theorem dX9_otherwiseOn_42 : decode cX9_otherwiseOn 42 = .ok (.getfield 51, 3) := by decide +kernel
theorem dX9_otherwiseOn_45 : decode cX9_otherwiseOn 45 = .ok (.iload 4, 2) := by decide +kernel
theorem dX9_otherwiseOn_47 : decode cX9_otherwiseOn 47 = .ok (.invokevirtual 177, 3) := by decide +kernel
theorem dX9_otherwiseOn_50 : decode cX9_otherwiseOn 50 = .ok (.if_icmp .eq 6, 3) := by decide +kernel
theorem dX9_otherwiseOn_53 : decode cX9_otherwiseOn 53 = .ok (.iload 4, 2) := by decide +kernel
theorem dX9_otherwiseOn_55 : decode cX9_otherwiseOn 55 = .ok (.ireturn, 1) := by decide +kernel
theorem dX9_otherwiseOn_56 : decode cX9_otherwiseOn 56 = .ok (.iinc 4 1, 3) := by decide +kernel
theorem dX9_otherwiseOn_59 : decode cX9_otherwiseOn 59 = .ok (.goto (-40), 3) := by decide +kernel
theorem dX9_otherwiseOn_62 : decode cX9_otherwiseOn 62 = .ok (.iconst (-1), 1) := by decide +kernel
theorem dX9_otherwiseOn_63 : decode cX9_otherwiseOn 63 = .ok (.ireturn, 1) := by decide +kernel
theorem dX9_allThatTell_0 : decode cX9_allThatTell 0 = .ok (.iconst 0, 1) := by decide +kernel
theorem dX9_allThatTell_1 : decode cX9_allThatTell 1 = .ok (.istore 4, 2) := by decide +kernel
theorem dX9_allThatTell_3 : decode cX9_allThatTell 3 = .ok (.aload_n 0, 1) := by decide +kernel
theorem dX9_allThatTell_4 : decode cX9_allThatTell 4 = .ok (.iload_n 3, 1) := by decide +kernel
theorem dX9_allThatTell_5 : decode cX9_allThatTell 5 = .ok (.invokevirtual 246, 3) := by decide +kernel
theorem dX9_allThatTell_8 : decode cX9_allThatTell 8 = .ok (.istore 5, 2) := by decide +kernel
theorem dX9_allThatTell_10 : decode cX9_allThatTell 10 = .ok (.iconst 0, 1) := by decide +kernel
theorem dX9_allThatTell_11 : decode cX9_allThatTell 11 = .ok (.istore 6, 2) := by decide +kernel
theorem dX9_allThatTell_13 : decode cX9_allThatTell 13 = .ok (.iload 6, 2) := by decide +kernel
theorem dX9_allThatTell_15 : decode cX9_allThatTell 15 = .ok (.iload 5, 2) := by decide +kernel
theorem dX9_allThatTell_17 : decode cX9_allThatTell 17 = .ok (.if_icmp .ge 71, 3) := by decide +kernel
theorem dX9_allThatTell_20 : decode cX9_allThatTell 20 = .ok (.aload_n 0, 1) := by decide +kernel
theorem dX9_allThatTell_21 : decode cX9_allThatTell 21 = .ok (.getfield 56, 3) := by decide +kernel
theorem dX9_allThatTell_24 : decode cX9_allThatTell 24 = .ok (.aload_n 2, 1) := by decide +kernel
theorem dX9_allThatTell_25 : decode cX9_allThatTell 25 = .ok (.invokevirtual 201, 3) := by decide +kernel
theorem dX9_allThatTell_28 : decode cX9_allThatTell 28 = .ok (.aload_n 0, 1) := by decide +kernel
theorem dX9_allThatTell_29 : decode cX9_allThatTell 29 = .ok (.getfield 56, 3) := by decide +kernel
theorem dX9_allThatTell_32 : decode cX9_allThatTell 32 = .ok (.iload_n 3, 1) := by decide +kernel
theorem dX9_allThatTell_33 : decode cX9_allThatTell 33 = .ok (.iload 6, 2) := by decide +kernel
theorem dX9_allThatTell_35 : decode cX9_allThatTell 35 = .ok (.invokestatic 249, 3) := by decide +kernel
theorem dX9_allThatTell_38 : decode cX9_allThatTell 38 = .ok (.iload_n 3, 1) := by decide +kernel
theorem dX9_allThatTell_39 : decode cX9_allThatTell 39 = .ok (.iconst 5, 1) := by decide +kernel
theorem dX9_allThatTell_40 : decode cX9_allThatTell 40 = .ok (.if_icmp .ne 12, 3) := by decide +kernel
theorem dX9_allThatTell_43 : decode cX9_allThatTell 43 = .ok (.aload_n 0, 1) := by decide +kernel
theorem dX9_allThatTell_44 : decode cX9_allThatTell 44 = .ok (.iload 6, 2) := by decide +kernel
theorem dX9_allThatTell_46 : decode cX9_allThatTell 46 = .ok (.invokevirtual 253, 3) := by decide +kernel
theorem dX9_allThatTell_49 : decode cX9_allThatTell 49 = .ok (.goto 7, 3) := by decide +kernel
theorem dX9_allThatTell_52 : decode cX9_allThatTell 52 = .ok (.aload_n 0, 1) := by decide +kernel
theorem dX9_allThatTell_53 : decode cX9_allThatTell 53 = .ok (.invokevirtual 205, 3) := by decide +kernel
theorem dX9_allThatTell_56 : decode cX9_allThatTell 56 = .ok (.astore 7, 2) := by decide +kernel
theorem dX9_allThatTell_58 : decode cX9_allThatTell 58 = .ok (.aload_n 0, 1) := by decide +kernel
theorem dX9_allThatTell_59 : decode cX9_allThatTell 59 = .ok (.aload_n 1, 1) := by decide +kernel
theorem dX9_allThatTell_60 : decode cX9_allThatTell 60 = .ok (.aload_n 0, 1) := by decide +kernel
theorem dX9_allThatTell_61 : decode cX9_allThatTell 61 = .ok (.getfield 56, 3) := by decide +kernel
theorem dX9_allThatTell_64 : decode cX9_allThatTell 64 = .ok (.aload 7, 2) := by decide +kernel
theorem dX9_allThatTell_66 : decode cX9_allThatTell 66 = .ok (.invokevirtual 235, 3) := by decide +kernel
theorem dX9_allThatTell_69 : decode cX9_allThatTell 69 = .ok (.iconst (-1), 1) := by decide +kernel
theorem dX9_allThatTell_70 : decode cX9_allThatTell 70 = .ok (.if_icmp .ne 12, 3) := by decide +kernel
theorem dX9_allThatTell_73 : decode cX9_allThatTell 73 = .ok (.iload 4, 2) := by decide +kernel
theorem dX9_allThatTell_75 : decode cX9_allThatTell 75 = .ok (.iconst 1, 1) := by decide +kernel
theorem dX9_allThatTell_76 : decode cX9_allThatTell 76 = .ok (.iload 6, 2) := by decide +kernel
theorem dX9_allThatTell_78 : decode cX9_allThatTell 78 = .ok (.ishl, 1) := by decide +kernel
theorem dX9_allThatTell_79 : decode cX9_allThatTell 79 = .ok (.ior, 1) := by decide +kernel
theorem dX9_allThatTell_80 : decode cX9_allThatTell 80 = .ok (.istore 4, 2) := by decide +kernel
theorem dX9_allThatTell_82 : decode cX9_allThatTell 82 = .ok (.iinc 6 1, 3) := by decide +kernel
theorem dX9_allThatTell_85 : decode cX9_allThatTell 85 = .ok (.goto (-72), 3) := by decide +kernel
theorem dX9_allThatTell_88 : decode cX9_allThatTell 88 = .ok (.iload 4, 2) := by decide +kernel
theorem dX9_allThatTell_90 : decode cX9_allThatTell 90 = .ok (.ireturn, 1) := by decide +kernel
theorem dX9_triesOf_0 : decode cX9_triesOf 0 = .ok (.iload_n 1, 1) := by decide +kernel
theorem dX9_triesOf_1 : decode cX9_triesOf 1 = .ok (.tableswitch 42 1 4 #[31, 34, 37, 40], 31) := by decide +kernel
theorem dX9_triesOf_32 : decode cX9_triesOf 32 = .ok (.bipush 6, 2) := by decide +kernel
theorem dX9_triesOf_34 : decode cX9_triesOf 34 = .ok (.ireturn, 1) := by decide +kernel
theorem dX9_triesOf_35 : decode cX9_triesOf 35 = .ok (.bipush 10, 2) := by decide +kernel
theorem dX9_triesOf_37 : decode cX9_triesOf 37 = .ok (.ireturn, 1) := by decide +kernel
theorem dX9_triesOf_38 : decode cX9_triesOf 38 = .ok (.bipush 20, 2) := by decide +kernel
theorem dX9_triesOf_40 : decode cX9_triesOf 40 = .ok (.ireturn, 1) := by decide +kernel
theorem dX9_triesOf_41 : decode cX9_triesOf 41 = .ok (.iconst 5, 1) := by decide +kernel
theorem dX9_triesOf_42 : decode cX9_triesOf 42 = .ok (.ireturn, 1) := by decide +kernel
theorem dX9_triesOf_43 : decode cX9_triesOf 43 = .ok (.aload_n 0, 1) := by decide +kernel
theorem dX9_triesOf_44 : decode cX9_triesOf 44 = .ok (.getfield 98, 3) := by decide +kernel
theorem dX9_triesOf_47 : decode cX9_triesOf 47 = .ok (.ireturn, 1) := by decide +kernel
theorem dX9_change_0 : decode cX9_change 0 = .ok (.iload_n 1, 1) := by decide +kernel
theorem dX9_change_1 : decode cX9_change 1 = .ok (.tableswitch 63 1 4 #[31, 39, 47, 55], 31) := by decide +kernel
theorem dX9_change_32 : decode cX9_change 32 = .ok (.aload_n 0, 1) := by decide +kernel
theorem dX9_change_33 : decode cX9_change 33 = .ok (.iload_n 2, 1) := by decide +kernel
theorem dX9_change_34 : decode cX9_change 34 = .ok (.putfield 161, 3) := by decide +kernel
theorem dX9_change_37 : decode cX9_change 37 = .ok (.goto 27, 3) := by decide +kernel
theorem dX9_change_40 : decode cX9_change 40 = .ok (.aload_n 0, 1) := by decide +kernel
theorem dX9_change_41 : decode cX9_change 41 = .ok (.iload_n 2, 1) := by decide +kernel
theorem dX9_change_42 : decode cX9_change 42 = .ok (.putfield 134, 3) := by decide +kernel
theorem dX9_change_45 : decode cX9_change 45 = .ok (.goto 19, 3) := by decide +kernel
theorem dX9_change_48 : decode cX9_change 48 = .ok (.aload_n 0, 1) := by decide +kernel
theorem dX9_change_49 : decode cX9_change 49 = .ok (.iload_n 2, 1) := by decide +kernel
theorem dX9_change_50 : decode cX9_change 50 = .ok (.putfield 137, 3) := by decide +kernel
theorem dX9_change_53 : decode cX9_change 53 = .ok (.goto 11, 3) := by decide +kernel
theorem dX9_change_56 : decode cX9_change 56 = .ok (.aload_n 0, 1) := by decide +kernel
theorem dX9_change_57 : decode cX9_change 57 = .ok (.iload_n 2, 1) := by decide +kernel
theorem dX9_change_58 : decode cX9_change 58 = .ok (.putfield 140, 3) := by decide +kernel
theorem dX9_change_61 : decode cX9_change 61 = .ok (.goto 3, 3) := by decide +kernel
theorem dX9_change_64 : decode cX9_change 64 = .ok (.return_, 1) := by decide +kernel
theorem dX9_film_0 : decode cX9_film 0 = .ok (.aload_n 0, 1) := by decide +kernel
theorem dX9_film_1 : decode cX9_film 1 = .ok (.iload_n 1, 1) := by decide +kernel
theorem dX9_film_2 : decode cX9_film 2 = .ok (.invokevirtual 226, 3) := by decide +kernel
theorem dX9_film_5 : decode cX9_film 5 = .ok (.astore 4, 2) := by decide +kernel
theorem dX9_film_7 : decode cX9_film 7 = .ok (.aload_n 0, 1) := by decide +kernel
theorem dX9_film_8 : decode cX9_film 8 = .ok (.iload_n 2, 1) := by decide +kernel
theorem dX9_film_9 : decode cX9_film 9 = .ok (.invokevirtual 110, 3) := by decide +kernel
theorem dX9_film_12 : decode cX9_film 12 = .ok (.astore 5, 2) := by decide +kernel
theorem dX9_film_14 : decode cX9_film 14 = .ok (.aload 4, 2) := by decide +kernel
theorem dX9_film_16 : decode cX9_film 16 = .ok (.ifnull 17, 3) := by decide +kernel
theorem dX9_film_19 : decode cX9_film 19 = .ok (.aload 5, 2) := by decide +kernel
theorem dX9_film_21 : decode cX9_film 21 = .ok (.ifnull 12, 3) := by decide +kernel
theorem dX9_film_24 : decode cX9_film 24 = .ok (.iload_n 3, 1) := by decide +kernel
theorem dX9_film_25 : decode cX9_film 25 = .ok (.bipush 31, 2) := by decide +kernel
theorem dX9_film_27 : decode cX9_film 27 = .ok (.invokestatic 154, 3) := by decide +kernel
theorem dX9_film_30 : decode cX9_film 30 = .ok (.ifCond .ne 6, 3) := by decide +kernel
theorem dX9_film_33 : decode cX9_film 33 = .ok (.bipush (-2), 2) := by decide +kernel
theorem dX9_film_35 : decode cX9_film 35 = .ok (.ireturn, 1) := by decide +kernel
theorem dX9_film_36 : decode cX9_film 36 = .ok (.aload_n 0, 1) := by decide +kernel
theorem dX9_film_37 : decode cX9_film 37 = .ok (.getfield 51, 3) := by decide +kernel
theorem dX9_film_40 : decode cX9_film 40 = .ok (.aload_n 0, 1) := by decide +kernel
theorem dX9_film_41 : decode cX9_film 41 = .ok (.invokevirtual 205, 3) := by decide +kernel
theorem dX9_film_44 : decode cX9_film 44 = .ok (.aload 5, 2) := by decide +kernel
theorem dX9_film_46 : decode cX9_film 46 = .ok (.aload_n 0, 1) := by decide +kernel
theorem dX9_film_47 : decode cX9_film 47 = .ok (.getfield 18, 3) := by decide +kernel
theorem dX9_film_50 : decode cX9_film 50 = .ok (.getfield 121, 3) := by decide +kernel
theorem dX9_film_53 : decode cX9_film 53 = .ok (.invokevirtual 209, 3) := by decide +kernel
theorem dX9_film_56 : decode cX9_film 56 = .ok (.aload 4, 2) := by decide +kernel
theorem dX9_film_58 : decode cX9_film 58 = .ok (.iconst 0, 1) := by decide +kernel
theorem dX9_film_59 : decode cX9_film 59 = .ok (.iload_n 3, 1) := by decide +kernel
theorem dX9_film_60 : decode cX9_film 60 = .ok (.invokevirtual 257, 3) := by decide +kernel
theorem dX9_film_63 : decode cX9_film 63 = .ok (.iconst 0, 1) := by decide +kernel
theorem dX9_film_64 : decode cX9_film 64 = .ok (.istore 6, 2) := by decide +kernel
theorem dX9_film_66 : decode cX9_film 66 = .ok (.iload 6, 2) := by decide +kernel
theorem dX9_film_68 : decode cX9_film 68 = .ok (.iload_n 3, 1) := by decide +kernel
theorem dX9_film_69 : decode cX9_film 69 = .ok (.if_icmp .ge 32, 3) := by decide +kernel
theorem dX9_film_72 : decode cX9_film 72 = .ok (.iload 6, 2) := by decide +kernel
theorem dX9_film_74 : decode cX9_film 74 = .ok (.bipush 30, 2) := by decide +kernel
theorem dX9_film_76 : decode cX9_film 76 = .ok (.if_icmp .ge 25, 3) := by decide +kernel
theorem dX9_film_79 : decode cX9_film 79 = .ok (.aload 4, 2) := by decide +kernel
theorem dX9_film_81 : decode cX9_film 81 = .ok (.iload 6, 2) := by decide +kernel
theorem dX9_film_83 : decode cX9_film 83 = .ok (.aload_n 0, 1) := by decide +kernel
theorem dX9_film_84 : decode cX9_film 84 = .ok (.getfield 51, 3) := by decide +kernel
theorem dX9_film_87 : decode cX9_film 87 = .ok (.iload 6, 2) := by decide +kernel
theorem dX9_film_89 : decode cX9_film 89 = .ok (.invokevirtual 177, 3) := by decide +kernel
theorem dX9_film_92 : decode cX9_film 92 = .ok (.invokevirtual 260, 3) := by decide +kernel
theorem dX9_film_95 : decode cX9_film 95 = .ok (.iinc 6 1, 3) := by decide +kernel
theorem dX9_film_98 : decode cX9_film 98 = .ok (.goto (-32), 3) := by decide +kernel
theorem dX9_film_101 : decode cX9_film 101 = .ok (.iload_n 3, 1) := by decide +kernel
theorem dX9_film_102 : decode cX9_film 102 = .ok (.ireturn, 1) := by decide +kernel
theorem dX9_lot_0 : decode cX9_lot 0 = .ok (.aload_n 0, 1) := by decide +kernel
theorem dX9_lot_1 : decode cX9_lot 1 = .ok (.iload_n 1, 1) := by decide +kernel
theorem dX9_lot_2 : decode cX9_lot 2 = .ok (.invokevirtual 110, 3) := by decide +kernel
theorem dX9_lot_5 : decode cX9_lot 5 = .ok (.astore_n 3, 1) := by decide +kernel
theorem dX9_lot_6 : decode cX9_lot 6 = .ok (.aload_n 3, 1) := by decide +kernel
theorem dX9_lot_7 : decode cX9_lot 7 = .ok (.ifnonnull 6, 3) := by decide +kernel
theorem dX9_lot_10 : decode cX9_lot 10 = .ok (.bipush (-2), 2) := by decide +kernel
theorem dX9_lot_12 : decode cX9_lot 12 = .ok (.ireturn, 1) := by decide +kernel
theorem dX9_lot_13 : decode cX9_lot 13 = .ok (.aload_n 0, 1) := by decide +kernel
theorem dX9_lot_14 : decode cX9_lot 14 = .ok (.aload_n 3, 1) := by decide +kernel
theorem dX9_lot_15 : decode cX9_lot 15 = .ok (.invokevirtual 173, 3) := by decide +kernel
theorem dX9_lot_18 : decode cX9_lot 18 = .ok (.aload_n 0, 1) := by decide +kernel
theorem dX9_lot_19 : decode cX9_lot 19 = .ok (.getfield 51, 3) := by decide +kernel
theorem dX9_lot_22 : decode cX9_lot 22 = .ok (.iload_n 2, 1) := by decide +kernel
theorem dX9_lot_23 : decode cX9_lot 23 = .ok (.invokevirtual 263, 3) := by decide +kernel
theorem dX9_lot_26 : decode cX9_lot 26 = .ok (.ireturn, 1) := by decide +kernel
theorem dX9_chance_0 : decode cX9_chance 0 = .ok (.aload_n 0, 1) := by decide +kernel
theorem dX9_chance_1 : decode cX9_chance 1 = .ok (.iload_n 1, 1) := by decide +kernel
theorem dX9_chance_2 : decode cX9_chance 2 = .ok (.invokevirtual 110, 3) := by decide +kernel
theorem dX9_chance_5 : decode cX9_chance 5 = .ok (.astore 5, 2) := by decide +kernel
theorem dX9_chance_7 : decode cX9_chance 7 = .ok (.aload 5, 2) := by decide +kernel
theorem dX9_chance_9 : decode cX9_chance 9 = .ok (.ifnull 23, 3) := by decide +kernel
theorem dX9_chance_12 : decode cX9_chance 12 = .ok (.iload_n 3, 1) := by decide +kernel
theorem dX9_chance_13 : decode cX9_chance 13 = .ok (.iconst 1, 1) := by decide +kernel
theorem dX9_chance_14 : decode cX9_chance 14 = .ok (.if_icmp .lt 18, 3) := by decide +kernel
theorem dX9_chance_17 : decode cX9_chance 17 = .ok (.iload_n 3, 1) := by decide +kernel
theorem dX9_chance_18 : decode cX9_chance 18 = .ok (.bipush 20, 2) := by decide +kernel
theorem dX9_chance_20 : decode cX9_chance 20 = .ok (.if_icmp .gt 12, 3) := by decide +kernel
theorem dX9_chance_23 : decode cX9_chance 23 = .ok (.iload 4, 2) := by decide +kernel
theorem dX9_chance_25 : decode cX9_chance 25 = .ok (.iconst 2, 1) := by decide +kernel
theorem dX9_chance_26 : decode cX9_chance 26 = .ok (.invokestatic 154, 3) := by decide +kernel
theorem dX9_chance_29 : decode cX9_chance 29 = .ok (.ifCond .ne 7, 3) := by decide +kernel
theorem dX9_chance_32 : decode cX9_chance 32 = .ok (.ldc2_w 187, 3) := by decide +kernel
theorem dX9_chance_35 : decode cX9_chance 35 = .ok (.lreturn, 1) := by decide +kernel
theorem dX9_chance_36 : decode cX9_chance 36 = .ok (.aload_n 0, 1) := by decide +kernel
theorem dX9_chance_37 : decode cX9_chance 37 = .ok (.aload 5, 2) := by decide +kernel
theorem dX9_chance_39 : decode cX9_chance 39 = .ok (.invokevirtual 173, 3) := by decide +kernel
theorem dX9_chance_42 : decode cX9_chance 42 = .ok (.iconst 0, 1) := by decide +kernel
theorem dX9_chance_43 : decode cX9_chance 43 = .ok (.istore 6, 2) := by decide +kernel
theorem dX9_chance_45 : decode cX9_chance 45 = .ok (.iconst 0, 1) := by decide +kernel
theorem dX9_chance_46 : decode cX9_chance 46 = .ok (.istore 7, 2) := by decide +kernel
theorem dX9_chance_48 : decode cX9_chance 48 = .ok (.iload 7, 2) := by decide +kernel
theorem dX9_chance_50 : decode cX9_chance 50 = .ok (.iload_n 3, 1) := by decide +kernel
theorem dX9_chance_51 : decode cX9_chance 51 = .ok (.if_icmp .ge 34, 3) := by decide +kernel
theorem dX9_chance_54 : decode cX9_chance 54 = .ok (.iload 7, 2) := by decide +kernel
theorem dX9_chance_56 : decode cX9_chance 56 = .ok (.bipush 20, 2) := by decide +kernel
theorem dX9_chance_58 : decode cX9_chance 58 = .ok (.if_icmp .ge 27, 3) := by decide +kernel
theorem dX9_chance_61 : decode cX9_chance 61 = .ok (.aload_n 0, 1) := by decide +kernel
theorem dX9_chance_62 : decode cX9_chance 62 = .ok (.getfield 51, 3) := by decide +kernel
theorem dX9_chance_65 : decode cX9_chance 65 = .ok (.iload_n 2, 1) := by decide +kernel
theorem dX9_chance_66 : decode cX9_chance 66 = .ok (.iload 7, 2) := by decide +kernel
theorem dX9_chance_68 : decode cX9_chance 68 = .ok (.iadd, 1) := by decide +kernel
theorem dX9_chance_69 : decode cX9_chance 69 = .ok (.invokevirtual 263, 3) := by decide +kernel
theorem dX9_chance_72 : decode cX9_chance 72 = .ok (.iconst (-1), 1) := by decide +kernel
theorem dX9_chance_73 : decode cX9_chance 73 = .ok (.if_icmp .eq 6, 3) := by decide +kernel
theorem dX9_chance_76 : decode cX9_chance 76 = .ok (.iinc 6 1, 3) := by decide +kernel
theorem dX9_chance_79 : decode cX9_chance 79 = .ok (.iinc 7 1, 3) := by decide +kernel
theorem dX9_chance_82 : decode cX9_chance 82 = .ok (.goto (-34), 3) := by decide +kernel
theorem dX9_chance_85 : decode cX9_chance 85 = .ok (.iload 6, 2) := by decide +kernel
theorem dX9_chance_87 : decode cX9_chance 87 = .ok (.i2l, 1) := by decide +kernel
theorem dX9_chance_88 : decode cX9_chance 88 = .ok (.iload_n 3, 1) := by decide +kernel
theorem dX9_chance_89 : decode cX9_chance 89 = .ok (.i2l, 1) := by decide +kernel
theorem dX9_chance_90 : decode cX9_chance 90 = .ok (.iload 4, 2) := by decide +kernel
theorem dX9_chance_92 : decode cX9_chance 92 = .ok (.invokestatic 191, 3) := by decide +kernel
theorem dX9_chance_95 : decode cX9_chance 95 = .ok (.lreturn, 1) := by decide +kernel
theorem dX9_image_0 : decode cX9_image 0 = .ok (.aload_n 0, 1) := by decide +kernel
theorem dX9_image_1 : decode cX9_image 1 = .ok (.getfield 44, 3) := by decide +kernel
theorem dX9_image_4 : decode cX9_image 4 = .ok (.aload_n 0, 1) := by decide +kernel
theorem dX9_image_5 : decode cX9_image 5 = .ok (.getfield 18, 3) := by decide +kernel
theorem dX9_image_8 : decode cX9_image 8 = .ok (.aload_n 0, 1) := by decide +kernel
theorem dX9_image_9 : decode cX9_image 9 = .ok (.getfield 170, 3) := by decide +kernel
theorem dX9_image_12 : decode cX9_image 12 = .ok (.aload_n 0, 1) := by decide +kernel
theorem dX9_image_13 : decode cX9_image 13 = .ok (.getfield 151, 3) := by decide +kernel
theorem dX9_image_16 : decode cX9_image 16 = .ok (.invokevirtual 266, 3) := by decide +kernel
theorem dX9_image_19 : decode cX9_image 19 = .ok (.iconst 0, 1) := by decide +kernel
theorem dX9_image_20 : decode cX9_image 20 = .ok (.istore_n 1, 1) := by decide +kernel
theorem dX9_image_21 : decode cX9_image 21 = .ok (.iload_n 1, 1) := by decide +kernel
theorem dX9_image_22 : decode cX9_image 22 = .ok (.bipush 6, 2) := by decide +kernel
theorem dX9_image_24 : decode cX9_image 24 = .ok (.if_icmp .ge 37, 3) := by decide +kernel
theorem dX9_image_27 : decode cX9_image 27 = .ok (.aload_n 0, 1) := by decide +kernel
theorem dX9_image_28 : decode cX9_image 28 = .ok (.iload_n 1, 1) := by decide +kernel
theorem dX9_image_29 : decode cX9_image 29 = .ok (.invokevirtual 110, 3) := by decide +kernel
theorem dX9_image_32 : decode cX9_image 32 = .ok (.astore_n 2, 1) := by decide +kernel
theorem dX9_image_33 : decode cX9_image 33 = .ok (.aload_n 0, 1) := by decide +kernel
theorem dX9_image_34 : decode cX9_image 34 = .ok (.getfield 44, 3) := by decide +kernel
theorem dX9_image_37 : decode cX9_image 37 = .ok (.iload_n 1, 1) := by decide +kernel
theorem dX9_image_38 : decode cX9_image 38 = .ok (.invokevirtual 270, 3) := by decide +kernel
theorem dX9_image_41 : decode cX9_image 41 = .ok (.astore_n 3, 1) := by decide +kernel
theorem dX9_image_42 : decode cX9_image 42 = .ok (.aload_n 2, 1) := by decide +kernel
theorem dX9_image_43 : decode cX9_image 43 = .ok (.ifnull 12, 3) := by decide +kernel
theorem dX9_image_46 : decode cX9_image 46 = .ok (.aload_n 3, 1) := by decide +kernel
theorem dX9_image_47 : decode cX9_image 47 = .ok (.ifnull 8, 3) := by decide +kernel
theorem dX9_image_50 : decode cX9_image 50 = .ok (.aload_n 3, 1) := by decide +kernel
theorem dX9_image_51 : decode cX9_image 51 = .ok (.aload_n 2, 1) := by decide +kernel
theorem dX9_image_52 : decode cX9_image 52 = .ok (.invokevirtual 201, 3) := by decide +kernel
theorem dX9_image_55 : decode cX9_image 55 = .ok (.iinc 1 1, 3) := by decide +kernel
theorem dX9_image_58 : decode cX9_image 58 = .ok (.goto (-37), 3) := by decide +kernel
theorem dX9_image_61 : decode cX9_image 61 = .ok (.aload_n 0, 1) := by decide +kernel
theorem dX9_image_62 : decode cX9_image 62 = .ok (.getfield 151, 3) := by decide +kernel
theorem dX9_image_65 : decode cX9_image 65 = .ok (.ireturn, 1) := by decide +kernel
theorem dX9_back_0 : decode cX9_back 0 = .ok (.aload_n 0, 1) := by decide +kernel
theorem dX9_back_1 : decode cX9_back 1 = .ok (.getfield 44, 3) := by decide +kernel
theorem dX9_back_4 : decode cX9_back 4 = .ok (.getfield 273, 3) := by decide +kernel
theorem dX9_back_7 : decode cX9_back 7 = .ok (.ifCond .ne 6, 3) := by decide +kernel
theorem dX9_back_10 : decode cX9_back 10 = .ok (.bipush (-3), 2) := by decide +kernel
theorem dX9_back_12 : decode cX9_back 12 = .ok (.ireturn, 1) := by decide +kernel
theorem dX9_back_13 : decode cX9_back 13 = .ok (.aload_n 0, 1) := by decide +kernel
theorem dX9_back_14 : decode cX9_back 14 = .ok (.getfield 18, 3) := by decide +kernel
theorem dX9_back_17 : decode cX9_back 17 = .ok (.aload_n 0, 1) := by decide +kernel
theorem dX9_back_18 : decode cX9_back 18 = .ok (.getfield 44, 3) := by decide +kernel
theorem dX9_back_21 : decode cX9_back 21 = .ok (.getfield 277, 3) := by decide +kernel
theorem dX9_back_24 : decode cX9_back 24 = .ok (.getfield 121, 3) := by decide +kernel
theorem dX9_back_27 : decode cX9_back 27 = .ok (.aload_n 0, 1) := by decide +kernel
theorem dX9_back_28 : decode cX9_back 28 = .ok (.getfield 44, 3) := by decide +kernel
theorem dX9_back_31 : decode cX9_back 31 = .ok (.getfield 277, 3) := by decide +kernel
theorem dX9_back_34 : decode cX9_back 34 = .ok (.getfield 124, 3) := by decide +kernel
theorem dX9_back_37 : decode cX9_back 37 = .ok (.aload_n 0, 1) := by decide +kernel
theorem dX9_back_38 : decode cX9_back 38 = .ok (.getfield 44, 3) := by decide +kernel
theorem dX9_back_41 : decode cX9_back 41 = .ok (.getfield 277, 3) := by decide +kernel
theorem dX9_back_44 : decode cX9_back 44 = .ok (.getfield 127, 3) := by decide +kernel
theorem dX9_back_47 : decode cX9_back 47 = .ok (.invokevirtual 65, 3) := by decide +kernel
theorem dX9_back_50 : decode cX9_back 50 = .ok (.aload_n 0, 1) := by decide +kernel
theorem dX9_back_51 : decode cX9_back 51 = .ok (.aload_n 0, 1) := by decide +kernel
theorem dX9_back_52 : decode cX9_back 52 = .ok (.getfield 44, 3) := by decide +kernel
theorem dX9_back_55 : decode cX9_back 55 = .ok (.getfield 280, 3) := by decide +kernel
theorem dX9_back_58 : decode cX9_back 58 = .ok (.putfield 170, 3) := by decide +kernel
theorem dX9_back_61 : decode cX9_back 61 = .ok (.aload_n 0, 1) := by decide +kernel
theorem dX9_back_62 : decode cX9_back 62 = .ok (.aload_n 0, 1) := by decide +kernel
theorem dX9_back_63 : decode cX9_back 63 = .ok (.getfield 44, 3) := by decide +kernel
theorem dX9_back_66 : decode cX9_back 66 = .ok (.getfield 281, 3) := by decide +kernel
theorem dX9_back_69 : decode cX9_back 69 = .ok (.putfield 151, 3) := by decide +kernel
theorem dX9_back_72 : decode cX9_back 72 = .ok (.iconst 0, 1) := by decide +kernel
theorem dX9_back_73 : decode cX9_back 73 = .ok (.istore_n 1, 1) := by decide +kernel
theorem dX9_back_74 : decode cX9_back 74 = .ok (.iload_n 1, 1) := by decide +kernel
theorem dX9_back_75 : decode cX9_back 75 = .ok (.bipush 6, 2) := by decide +kernel
theorem dX9_back_77 : decode cX9_back 77 = .ok (.if_icmp .ge 37, 3) := by decide +kernel
theorem dX9_back_80 : decode cX9_back 80 = .ok (.aload_n 0, 1) := by decide +kernel
theorem dX9_back_81 : decode cX9_back 81 = .ok (.iload_n 1, 1) := by decide +kernel
theorem dX9_back_82 : decode cX9_back 82 = .ok (.invokevirtual 110, 3) := by decide +kernel
theorem dX9_back_85 : decode cX9_back 85 = .ok (.astore_n 2, 1) := by decide +kernel
theorem dX9_back_86 : decode cX9_back 86 = .ok (.aload_n 0, 1) := by decide +kernel
theorem dX9_back_87 : decode cX9_back 87 = .ok (.getfield 44, 3) := by decide +kernel
theorem dX9_back_90 : decode cX9_back 90 = .ok (.iload_n 1, 1) := by decide +kernel
theorem dX9_back_91 : decode cX9_back 91 = .ok (.invokevirtual 270, 3) := by decide +kernel
theorem dX9_back_94 : decode cX9_back 94 = .ok (.astore_n 3, 1) := by decide +kernel
theorem dX9_back_95 : decode cX9_back 95 = .ok (.aload_n 2, 1) := by decide +kernel
theorem dX9_back_96 : decode cX9_back 96 = .ok (.ifnull 12, 3) := by decide +kernel
theorem dX9_back_99 : decode cX9_back 99 = .ok (.aload_n 3, 1) := by decide +kernel
theorem dX9_back_100 : decode cX9_back 100 = .ok (.ifnull 8, 3) := by decide +kernel
theorem dX9_back_103 : decode cX9_back 103 = .ok (.aload_n 2, 1) := by decide +kernel
theorem dX9_back_104 : decode cX9_back 104 = .ok (.aload_n 3, 1) := by decide +kernel
theorem dX9_back_105 : decode cX9_back 105 = .ok (.invokevirtual 201, 3) := by decide +kernel
theorem dX9_back_108 : decode cX9_back 108 = .ok (.iinc 1 1, 3) := by decide +kernel
theorem dX9_back_111 : decode cX9_back 111 = .ok (.goto (-37), 3) := by decide +kernel
theorem dX9_back_114 : decode cX9_back 114 = .ok (.aload_n 0, 1) := by decide +kernel
theorem dX9_back_115 : decode cX9_back 115 = .ok (.getfield 151, 3) := by decide +kernel
theorem dX9_back_118 : decode cX9_back 118 = .ok (.ireturn, 1) := by decide +kernel
theorem dX9_count_0 : decode cX9_count 0 = .ok (.iload_n 1, 1) := by decide +kernel
theorem dX9_count_1 : decode cX9_count 1 = .ok (.tableswitch 69 0 4 #[35, 40, 48, 53, 64], 35) := by decide +kernel
theorem dX9_count_36 : decode cX9_count 36 = .ok (.aload_n 0, 1) := by decide +kernel
theorem dX9_count_37 : decode cX9_count 37 = .ok (.getfield 151, 3) := by decide +kernel
theorem dX9_count_40 : decode cX9_count 40 = .ok (.ireturn, 1) := by decide +kernel
theorem dX9_count_41 : decode cX9_count 41 = .ok (.aload_n 0, 1) := by decide +kernel
theorem dX9_count_42 : decode cX9_count 42 = .ok (.getfield 18, 3) := by decide +kernel
theorem dX9_count_45 : decode cX9_count 45 = .ok (.invokevirtual 223, 3) := by decide +kernel
theorem dX9_count_48 : decode cX9_count 48 = .ok (.ireturn, 1) := by decide +kernel
theorem dX9_count_49 : decode cX9_count 49 = .ok (.aload_n 0, 1) := by decide +kernel
theorem dX9_count_50 : decode cX9_count 50 = .ok (.getfield 98, 3) := by decide +kernel
theorem dX9_count_53 : decode cX9_count 53 = .ok (.ireturn, 1) := by decide +kernel
theorem dX9_count_54 : decode cX9_count 54 = .ok (.aload_n 0, 1) := by decide +kernel
theorem dX9_count_55 : decode cX9_count 55 = .ok (.getfield 31, 3) := by decide +kernel
theorem dX9_count_58 : decode cX9_count 58 = .ok (.getfield 77, 3) := by decide +kernel
theorem dX9_count_61 : decode cX9_count 61 = .ok (.getfield 167, 3) := by decide +kernel
theorem dX9_count_64 : decode cX9_count 64 = .ok (.ireturn, 1) := by decide +kernel
theorem dX9_count_65 : decode cX9_count 65 = .ok (.aload_n 0, 1) := by decide +kernel
theorem dX9_count_66 : decode cX9_count 66 = .ok (.getfield 170, 3) := by decide +kernel
theorem dX9_count_69 : decode cX9_count 69 = .ok (.ireturn, 1) := by decide +kernel
theorem dX9_count_70 : decode cX9_count 70 = .ok (.bipush (-2), 2) := by decide +kernel
theorem dX9_count_72 : decode cX9_count 72 = .ok (.ireturn, 1) := by decide +kernel
theorem dX9_sheet_0 : decode cX9_sheet 0 = .ok (.aload_n 0, 1) := by decide +kernel
theorem dX9_sheet_1 : decode cX9_sheet 1 = .ok (.iload_n 1, 1) := by decide +kernel
theorem dX9_sheet_2 : decode cX9_sheet 2 = .ok (.invokevirtual 226, 3) := by decide +kernel
theorem dX9_sheet_5 : decode cX9_sheet 5 = .ok (.astore 4, 2) := by decide +kernel
theorem dX9_sheet_7 : decode cX9_sheet 7 = .ok (.aload 4, 2) := by decide +kernel
theorem dX9_sheet_9 : decode cX9_sheet 9 = .ok (.ifnull 13, 3) := by decide +kernel
theorem dX9_sheet_12 : decode cX9_sheet 12 = .ok (.iload_n 2, 1) := by decide +kernel
theorem dX9_sheet_13 : decode cX9_sheet 13 = .ok (.iconst (-1), 1) := by decide +kernel
theorem dX9_sheet_14 : decode cX9_sheet 14 = .ok (.if_icmp .lt 8, 3) := by decide +kernel
theorem dX9_sheet_17 : decode cX9_sheet 17 = .ok (.iload_n 2, 1) := by decide +kernel
theorem dX9_sheet_18 : decode cX9_sheet 18 = .ok (.iconst 2, 1) := by decide +kernel
theorem dX9_sheet_19 : decode cX9_sheet 19 = .ok (.if_icmp .le 6, 3) := by decide +kernel
theorem dX9_sheet_22 : decode cX9_sheet 22 = .ok (.bipush (-2), 2) := by decide +kernel
theorem dX9_sheet_24 : decode cX9_sheet 24 = .ok (.ireturn, 1) := by decide +kernel
theorem dX9_sheet_25 : decode cX9_sheet 25 = .ok (.iload_n 2, 1) := by decide +kernel
theorem dX9_sheet_26 : decode cX9_sheet 26 = .ok (.iconst (-1), 1) := by decide +kernel
theorem dX9_sheet_27 : decode cX9_sheet 27 = .ok (.if_icmp .ne 12, 3) := by decide +kernel
theorem dX9_sheet_30 : decode cX9_sheet 30 = .ok (.aload 4, 2) := by decide +kernel
theorem dX9_sheet_32 : decode cX9_sheet 32 = .ok (.iconst (-1), 1) := by decide +kernel
theorem dX9_sheet_33 : decode cX9_sheet 33 = .ok (.iconst 0, 1) := by decide +kernel
theorem dX9_sheet_34 : decode cX9_sheet 34 = .ok (.invokevirtual 257, 3) := by decide +kernel
theorem dX9_sheet_37 : decode cX9_sheet 37 = .ok (.iconst 1, 1) := by decide +kernel
theorem dX9_sheet_38 : decode cX9_sheet 38 = .ok (.ireturn, 1) := by decide +kernel
theorem dX9_sheet_39 : decode cX9_sheet 39 = .ok (.iload_n 3, 1) := by decide +kernel
theorem dX9_sheet_40 : decode cX9_sheet 40 = .ok (.bipush 40, 2) := by decide +kernel
theorem dX9_sheet_42 : decode cX9_sheet 42 = .ok (.if_icmp .le 6, 3) := by decide +kernel
theorem dX9_sheet_45 : decode cX9_sheet 45 = .ok (.bipush (-2), 2) := by decide +kernel
theorem dX9_sheet_47 : decode cX9_sheet 47 = .ok (.ireturn, 1) := by decide +kernel
theorem dX9_sheet_48 : decode cX9_sheet 48 = .ok (.iload_n 3, 1) := by decide +kernel
theorem dX9_sheet_49 : decode cX9_sheet 49 = .ok (.ifCond .ge 6, 3) := by decide +kernel
theorem dX9_sheet_52 : decode cX9_sheet 52 = .ok (.bipush (-14), 2) := by decide +kernel
theorem dX9_sheet_54 : decode cX9_sheet 54 = .ok (.ireturn, 1) := by decide +kernel
theorem dX9_sheet_55 : decode cX9_sheet 55 = .ok (.aload 4, 2) := by decide +kernel
theorem dX9_sheet_57 : decode cX9_sheet 57 = .ok (.iload_n 2, 1) := by decide +kernel
theorem dX9_sheet_58 : decode cX9_sheet 58 = .ok (.iload_n 3, 1) := by decide +kernel
theorem dX9_sheet_59 : decode cX9_sheet 59 = .ok (.invokevirtual 257, 3) := by decide +kernel
theorem dX9_sheet_62 : decode cX9_sheet 62 = .ok (.iconst 1, 1) := by decide +kernel
theorem dX9_sheet_63 : decode cX9_sheet 63 = .ok (.ireturn, 1) := by decide +kernel
theorem dX9_cell_0 : decode cX9_cell 0 = .ok (.aload_n 0, 1) := by decide +kernel
theorem dX9_cell_1 : decode cX9_cell 1 = .ok (.iload_n 1, 1) := by decide +kernel
theorem dX9_cell_2 : decode cX9_cell 2 = .ok (.invokevirtual 226, 3) := by decide +kernel
theorem dX9_cell_5 : decode cX9_cell 5 = .ok (.astore 4, 2) := by decide +kernel
theorem dX9_cell_7 : decode cX9_cell 7 = .ok (.aload 4, 2) := by decide +kernel
theorem dX9_cell_9 : decode cX9_cell 9 = .ok (.ifnonnull 6, 3) := by decide +kernel
theorem dX9_cell_12 : decode cX9_cell 12 = .ok (.bipush (-2), 2) := by decide +kernel
theorem dX9_cell_14 : decode cX9_cell 14 = .ok (.ireturn, 1) := by decide +kernel
theorem dX9_cell_15 : decode cX9_cell 15 = .ok (.aload 4, 2) := by decide +kernel
theorem dX9_cell_17 : decode cX9_cell 17 = .ok (.invokevirtual 230, 3) := by decide +kernel
theorem dX9_cell_20 : decode cX9_cell 20 = .ok (.ifCond .eq 6, 3) := by decide +kernel
theorem dX9_cell_23 : decode cX9_cell 23 = .ok (.bipush (-11), 2) := by decide +kernel
theorem dX9_cell_25 : decode cX9_cell 25 = .ok (.ireturn, 1) := by decide +kernel
theorem dX9_cell_26 : decode cX9_cell 26 = .ok (.aload 4, 2) := by decide +kernel
theorem dX9_cell_28 : decode cX9_cell 28 = .ok (.iload_n 2, 1) := by decide +kernel
theorem dX9_cell_29 : decode cX9_cell 29 = .ok (.invokevirtual 284, 3) := by decide +kernel
theorem dX9_cell_32 : decode cX9_cell 32 = .ok (.ifCond .ne 6, 3) := by decide +kernel
theorem dX9_cell_35 : decode cX9_cell 35 = .ok (.bipush (-12), 2) := by decide +kernel
theorem dX9_cell_37 : decode cX9_cell 37 = .ok (.ireturn, 1) := by decide +kernel
theorem dX9_cell_38 : decode cX9_cell 38 = .ok (.aload 4, 2) := by decide +kernel
theorem dX9_cell_40 : decode cX9_cell 40 = .ok (.iload_n 2, 1) := by decide +kernel
theorem dX9_cell_41 : decode cX9_cell 41 = .ok (.iload_n 3, 1) := by decide +kernel
theorem dX9_cell_42 : decode cX9_cell 42 = .ok (.invokevirtual 260, 3) := by decide +kernel
theorem dX9_cell_45 : decode cX9_cell 45 = .ok (.iconst 1, 1) := by decide +kernel
theorem dX9_cell_46 : decode cX9_cell 46 = .ok (.ireturn, 1) := by decide +kernel
theorem dX9_copy_0 : decode cX9_copy 0 = .ok (.aload_n 0, 1) := by decide +kernel
theorem dX9_copy_1 : decode cX9_copy 1 = .ok (.iload_n 1, 1) := by decide +kernel
theorem dX9_copy_2 : decode cX9_copy 2 = .ok (.invokevirtual 226, 3) := by decide +kernel
theorem dX9_copy_5 : decode cX9_copy 5 = .ok (.astore 6, 2) := by decide +kernel
theorem dX9_copy_7 : decode cX9_copy 7 = .ok (.aload_n 0, 1) := by decide +kernel
theorem dX9_copy_8 : decode cX9_copy 8 = .ok (.iload_n 3, 1) := by decide +kernel
theorem dX9_copy_9 : decode cX9_copy 9 = .ok (.invokevirtual 226, 3) := by decide +kernel
theorem dX9_copy_12 : decode cX9_copy 12 = .ok (.astore 7, 2) := by decide +kernel
theorem dX9_copy_14 : decode cX9_copy 14 = .ok (.aload 6, 2) := by decide +kernel
theorem dX9_copy_16 : decode cX9_copy 16 = .ok (.ifnull 8, 3) := by decide +kernel
theorem dX9_copy_19 : decode cX9_copy 19 = .ok (.aload 7, 2) := by decide +kernel
theorem dX9_copy_21 : decode cX9_copy 21 = .ok (.ifnonnull 6, 3) := by decide +kernel
theorem dX9_copy_24 : decode cX9_copy 24 = .ok (.bipush (-2), 2) := by decide +kernel
theorem dX9_copy_26 : decode cX9_copy 26 = .ok (.ireturn, 1) := by decide +kernel
theorem dX9_copy_27 : decode cX9_copy 27 = .ok (.aload 6, 2) := by decide +kernel
theorem dX9_copy_29 : decode cX9_copy 29 = .ok (.invokevirtual 230, 3) := by decide +kernel
theorem dX9_copy_32 : decode cX9_copy 32 = .ok (.ifCond .ne 11, 3) := by decide +kernel
theorem dX9_copy_35 : decode cX9_copy 35 = .ok (.aload 7, 2) := by decide +kernel
theorem dX9_copy_37 : decode cX9_copy 37 = .ok (.invokevirtual 230, 3) := by decide +kernel
theorem dX9_copy_40 : decode cX9_copy 40 = .ok (.ifCond .eq 6, 3) := by decide +kernel
theorem dX9_copy_43 : decode cX9_copy 43 = .ok (.bipush (-11), 2) := by decide +kernel
theorem dX9_copy_45 : decode cX9_copy 45 = .ok (.ireturn, 1) := by decide +kernel
theorem dX9_copy_46 : decode cX9_copy 46 = .ok (.aload 6, 2) := by decide +kernel
theorem dX9_copy_48 : decode cX9_copy 48 = .ok (.getfield 287, 3) := by decide +kernel
theorem dX9_copy_51 : decode cX9_copy 51 = .ok (.aload 7, 2) := by decide +kernel
theorem dX9_copy_53 : decode cX9_copy 53 = .ok (.getfield 287, 3) := by decide +kernel
theorem dX9_copy_56 : decode cX9_copy 56 = .ok (.if_icmp .eq 6, 3) := by decide +kernel
theorem dX9_copy_59 : decode cX9_copy 59 = .ok (.bipush (-13), 2) := by decide +kernel
theorem dX9_copy_61 : decode cX9_copy 61 = .ok (.ireturn, 1) := by decide +kernel
theorem dX9_copy_62 : decode cX9_copy 62 = .ok (.aload 6, 2) := by decide +kernel
theorem dX9_copy_64 : decode cX9_copy 64 = .ok (.iload_n 2, 1) := by decide +kernel
theorem dX9_copy_65 : decode cX9_copy 65 = .ok (.iload 5, 2) := by decide +kernel
theorem dX9_copy_67 : decode cX9_copy 67 = .ok (.invokevirtual 290, 3) := by decide +kernel
theorem dX9_copy_70 : decode cX9_copy 70 = .ok (.ifCond .eq 15, 3) := by decide +kernel
theorem dX9_copy_73 : decode cX9_copy 73 = .ok (.aload 7, 2) := by decide +kernel
theorem dX9_copy_75 : decode cX9_copy 75 = .ok (.iload 4, 2) := by decide +kernel
theorem dX9_copy_77 : decode cX9_copy 77 = .ok (.iload 5, 2) := by decide +kernel
theorem dX9_copy_79 : decode cX9_copy 79 = .ok (.invokevirtual 290, 3) := by decide +kernel
theorem dX9_copy_82 : decode cX9_copy 82 = .ok (.ifCond .ne 6, 3) := by decide +kernel
theorem dX9_copy_85 : decode cX9_copy 85 = .ok (.bipush (-12), 2) := by decide +kernel
theorem dX9_copy_87 : decode cX9_copy 87 = .ok (.ireturn, 1) := by decide +kernel
theorem dX9_copy_88 : decode cX9_copy 88 = .ok (.aload 7, 2) := by decide +kernel
theorem dX9_copy_90 : decode cX9_copy 90 = .ok (.aload 6, 2) := by decide +kernel
theorem dX9_copy_92 : decode cX9_copy 92 = .ok (.iload_n 2, 1) := by decide +kernel
theorem dX9_copy_93 : decode cX9_copy 93 = .ok (.iload 4, 2) := by decide +kernel
theorem dX9_copy_95 : decode cX9_copy 95 = .ok (.iload 5, 2) := by decide +kernel
theorem dX9_copy_97 : decode cX9_copy 97 = .ok (.invokevirtual 293, 3) := by decide +kernel
theorem dX9_copy_100 : decode cX9_copy 100 = .ok (.iload 5, 2) := by decide +kernel
theorem dX9_copy_102 : decode cX9_copy 102 = .ok (.ireturn, 1) := by decide +kernel
theorem dX9_gloves_0 : decode cX9_gloves 0 = .ok (.aload_n 0, 1) := by decide +kernel
theorem dX9_gloves_1 : decode cX9_gloves 1 = .ok (.iload_n 1, 1) := by decide +kernel
theorem dX9_gloves_2 : decode cX9_gloves 2 = .ok (.invokevirtual 226, 3) := by decide +kernel
theorem dX9_gloves_5 : decode cX9_gloves 5 = .ok (.astore 5, 2) := by decide +kernel
theorem dX9_gloves_7 : decode cX9_gloves 7 = .ok (.aload 5, 2) := by decide +kernel
theorem dX9_gloves_9 : decode cX9_gloves 9 = .ok (.ifnull 21, 3) := by decide +kernel
theorem dX9_gloves_12 : decode cX9_gloves 12 = .ok (.iload_n 2, 1) := by decide +kernel
theorem dX9_gloves_13 : decode cX9_gloves 13 = .ok (.iconst 3, 1) := by decide +kernel
theorem dX9_gloves_14 : decode cX9_gloves 14 = .ok (.invokestatic 154, 3) := by decide +kernel
theorem dX9_gloves_17 : decode cX9_gloves 17 = .ok (.ifCond .eq 13, 3) := by decide +kernel
theorem dX9_gloves_20 : decode cX9_gloves 20 = .ok (.iload 4, 2) := by decide +kernel
theorem dX9_gloves_22 : decode cX9_gloves 22 = .ok (.bipush 7, 2) := by decide +kernel
theorem dX9_gloves_24 : decode cX9_gloves 24 = .ok (.invokestatic 154, 3) := by decide +kernel
theorem dX9_gloves_27 : decode cX9_gloves 27 = .ok (.ifCond .ne 6, 3) := by decide +kernel
theorem dX9_gloves_30 : decode cX9_gloves 30 = .ok (.bipush (-2), 2) := by decide +kernel
theorem dX9_gloves_32 : decode cX9_gloves 32 = .ok (.ireturn, 1) := by decide +kernel
theorem dX9_gloves_33 : decode cX9_gloves 33 = .ok (.aload 5, 2) := by decide +kernel
theorem dX9_gloves_35 : decode cX9_gloves 35 = .ok (.invokevirtual 230, 3) := by decide +kernel
theorem dX9_gloves_38 : decode cX9_gloves 38 = .ok (.ifCond .ne 15, 3) := by decide +kernel
theorem dX9_gloves_41 : decode cX9_gloves 41 = .ok (.aload 5, 2) := by decide +kernel
theorem dX9_gloves_43 : decode cX9_gloves 43 = .ok (.getfield 287, 3) := by decide +kernel
theorem dX9_gloves_46 : decode cX9_gloves 46 = .ok (.iload_n 2, 1) := by decide +kernel
theorem dX9_gloves_47 : decode cX9_gloves 47 = .ok (.if_icmp .eq 6, 3) := by decide +kernel
theorem dX9_gloves_50 : decode cX9_gloves 50 = .ok (.bipush (-13), 2) := by decide +kernel
theorem dX9_gloves_52 : decode cX9_gloves 52 = .ok (.ireturn, 1) := by decide +kernel
theorem dX9_gloves_53 : decode cX9_gloves 53 = .ok (.aload 5, 2) := by decide +kernel
theorem dX9_gloves_55 : decode cX9_gloves 55 = .ok (.invokevirtual 230, 3) := by decide +kernel
theorem dX9_gloves_58 : decode cX9_gloves 58 = .ok (.ifCond .eq 6, 3) := by decide +kernel
theorem dX9_gloves_61 : decode cX9_gloves 61 = .ok (.bipush (-11), 2) := by decide +kernel
theorem dX9_gloves_63 : decode cX9_gloves 63 = .ok (.ireturn, 1) := by decide +kernel
theorem dX9_gloves_64 : decode cX9_gloves 64 = .ok (.iconst 0, 1) := by decide +kernel
theorem dX9_gloves_65 : decode cX9_gloves 65 = .ok (.istore 6, 2) := by decide +kernel
theorem dX9_gloves_67 : decode cX9_gloves 67 = .ok (.iload_n 3, 1) := by decide +kernel
theorem dX9_gloves_68 : decode cX9_gloves 68 = .ok (.istore 7, 2) := by decide +kernel
theorem dX9_gloves_70 : decode cX9_gloves 70 = .ok (.iconst 0, 1) := by decide +kernel
theorem dX9_gloves_71 : decode cX9_gloves 71 = .ok (.istore 8, 2) := by decide +kernel
theorem dX9_gloves_73 : decode cX9_gloves 73 = .ok (.iload 8, 2) := by decide +kernel
theorem dX9_gloves_75 : decode cX9_gloves 75 = .ok (.iload 4, 2) := by decide +kernel
theorem dX9_gloves_77 : decode cX9_gloves 77 = .ok (.if_icmp .ge 92, 3) := by decide +kernel
theorem dX9_gloves_80 : decode cX9_gloves 80 = .ok (.iload 8, 2) := by decide +kernel
theorem dX9_gloves_82 : decode cX9_gloves 82 = .ok (.bipush 6, 2) := by decide +kernel
theorem dX9_gloves_84 : decode cX9_gloves 84 = .ok (.if_icmp .ge 85, 3) := by decide +kernel
theorem dX9_gloves_87 : decode cX9_gloves 87 = .ok (.aload 5, 2) := by decide +kernel
theorem dX9_gloves_89 : decode cX9_gloves 89 = .ok (.iload 7, 2) := by decide +kernel
theorem dX9_gloves_91 : decode cX9_gloves 91 = .ok (.iconst 3, 1) := by decide +kernel
theorem dX9_gloves_92 : decode cX9_gloves 92 = .ok (.invokevirtual 290, 3) := by decide +kernel
theorem dX9_gloves_95 : decode cX9_gloves 95 = .ok (.ifCond .ne 6, 3) := by decide +kernel
theorem dX9_gloves_98 : decode cX9_gloves 98 = .ok (.bipush (-12), 2) := by decide +kernel
theorem dX9_gloves_100 : decode cX9_gloves 100 = .ok (.ireturn, 1) := by decide +kernel
theorem dX9_gloves_101 : decode cX9_gloves 101 = .ok (.aload 5, 2) := by decide +kernel
theorem dX9_gloves_103 : decode cX9_gloves 103 = .ok (.iload 7, 2) := by decide +kernel
theorem dX9_gloves_105 : decode cX9_gloves 105 = .ok (.invokevirtual 243, 3) := by decide +kernel
theorem dX9_gloves_108 : decode cX9_gloves 108 = .ok (.istore 9, 2) := by decide +kernel
theorem dX9_gloves_110 : decode cX9_gloves 110 = .ok (.aload 5, 2) := by decide +kernel
theorem dX9_gloves_112 : decode cX9_gloves 112 = .ok (.iload 7, 2) := by decide +kernel
theorem dX9_gloves_114 : decode cX9_gloves 114 = .ok (.iconst 1, 1) := by decide +kernel
theorem dX9_gloves_115 : decode cX9_gloves 115 = .ok (.iadd, 1) := by decide +kernel
theorem dX9_gloves_116 : decode cX9_gloves 116 = .ok (.invokevirtual 243, 3) := by decide +kernel
theorem dX9_gloves_119 : decode cX9_gloves 119 = .ok (.istore 10, 2) := by decide +kernel
theorem dX9_gloves_121 : decode cX9_gloves 121 = .ok (.aload 5, 2) := by decide +kernel
theorem dX9_gloves_123 : decode cX9_gloves 123 = .ok (.iload 7, 2) := by decide +kernel
theorem dX9_gloves_125 : decode cX9_gloves 125 = .ok (.iconst 2, 1) := by decide +kernel
theorem dX9_gloves_126 : decode cX9_gloves 126 = .ok (.iadd, 1) := by decide +kernel
theorem dX9_gloves_127 : decode cX9_gloves 127 = .ok (.invokevirtual 243, 3) := by decide +kernel
theorem dX9_gloves_130 : decode cX9_gloves 130 = .ok (.istore 11, 2) := by decide +kernel
theorem dX9_gloves_132 : decode cX9_gloves 132 = .ok (.iload 9, 2) := by decide +kernel
theorem dX9_gloves_134 : decode cX9_gloves 134 = .ok (.iload 10, 2) := by decide +kernel
theorem dX9_gloves_136 : decode cX9_gloves 136 = .ok (.iload 11, 2) := by decide +kernel
theorem dX9_gloves_138 : decode cX9_gloves 138 = .ok (.invokestatic 144, 3) := by decide +kernel
theorem dX9_gloves_141 : decode cX9_gloves 141 = .ok (.ifCond .eq 19, 3) := by decide +kernel
theorem dX9_gloves_144 : decode cX9_gloves 144 = .ok (.aload_n 0, 1) := by decide +kernel
theorem dX9_gloves_145 : decode cX9_gloves 145 = .ok (.iload 9, 2) := by decide +kernel
theorem dX9_gloves_147 : decode cX9_gloves 147 = .ok (.iload 10, 2) := by decide +kernel
theorem dX9_gloves_149 : decode cX9_gloves 149 = .ok (.iload 11, 2) := by decide +kernel
theorem dX9_gloves_151 : decode cX9_gloves 151 = .ok (.invokevirtual 148, 3) := by decide +kernel
theorem dX9_gloves_154 : decode cX9_gloves 154 = .ok (.ifCond .eq 6, 3) := by decide +kernel
theorem dX9_gloves_157 : decode cX9_gloves 157 = .ok (.iinc 6 1, 3) := by decide +kernel
theorem dX9_gloves_160 : decode cX9_gloves 160 = .ok (.iinc 7 3, 3) := by decide +kernel
theorem dX9_gloves_163 : decode cX9_gloves 163 = .ok (.iinc 8 1, 3) := by decide +kernel
theorem dX9_gloves_166 : decode cX9_gloves 166 = .ok (.goto (-93), 3) := by decide +kernel
theorem dX9_gloves_169 : decode cX9_gloves 169 = .ok (.iload 6, 2) := by decide +kernel
theorem dX9_gloves_171 : decode cX9_gloves 171 = .ok (.ireturn, 1) := by decide +kernel
theorem dX9_taken_0 : decode cX9_taken 0 = .ok (.iload_n 2, 1) := by decide +kernel
theorem dX9_taken_1 : decode cX9_taken 1 = .ok (.bipush 6, 2) := by decide +kernel
theorem dX9_taken_3 : decode cX9_taken 3 = .ok (.invokestatic 154, 3) := by decide +kernel
theorem dX9_taken_6 : decode cX9_taken 6 = .ok (.ifCond .ne 6, 3) := by decide +kernel
theorem dX9_taken_9 : decode cX9_taken 9 = .ok (.bipush (-2), 2) := by decide +kernel
theorem dX9_taken_11 : decode cX9_taken 11 = .ok (.ireturn, 1) := by decide +kernel
theorem dX9_taken_12 : decode cX9_taken 12 = .ok (.aload_n 0, 1) := by decide +kernel
theorem dX9_taken_13 : decode cX9_taken 13 = .ok (.iload_n 1, 1) := by decide +kernel
theorem dX9_taken_14 : decode cX9_taken 14 = .ok (.invokevirtual 110, 3) := by decide +kernel
theorem dX9_taken_17 : decode cX9_taken 17 = .ok (.astore_n 3, 1) := by decide +kernel
theorem dX9_taken_18 : decode cX9_taken 18 = .ok (.aload_n 3, 1) := by decide +kernel
theorem dX9_taken_19 : decode cX9_taken 19 = .ok (.ifnonnull 6, 3) := by decide +kernel
theorem dX9_taken_22 : decode cX9_taken 22 = .ok (.bipush (-11), 2) := by decide +kernel
theorem dX9_taken_24 : decode cX9_taken 24 = .ok (.ireturn, 1) := by decide +kernel
theorem dX9_taken_25 : decode cX9_taken 25 = .ok (.aload_n 3, 1) := by decide +kernel
theorem dX9_taken_26 : decode cX9_taken 26 = .ok (.iload_n 2, 1) := by decide +kernel
theorem dX9_taken_27 : decode cX9_taken 27 = .ok (.invokevirtual 297, 3) := by decide +kernel
theorem dX9_taken_30 : decode cX9_taken 30 = .ok (.ifCond .eq 10, 3) := by decide +kernel
theorem dX9_taken_33 : decode cX9_taken 33 = .ok (.aload_n 3, 1) := by decide +kernel
theorem dX9_taken_34 : decode cX9_taken 34 = .ok (.getfield 134, 3) := by decide +kernel
theorem dX9_taken_37 : decode cX9_taken 37 = .ok (.goto 5, 3) := by decide +kernel
theorem dX9_taken_40 : decode cX9_taken 40 = .ok (.bipush (-13), 2) := by decide +kernel
theorem dX9_taken_42 : decode cX9_taken 42 = .ok (.ireturn, 1) := by decide +kernel
theorem dX9_gloveAt_0 : decode cX9_gloveAt 0 = .ok (.iload_n 1, 1) := by decide +kernel
theorem dX9_gloveAt_1 : decode cX9_gloveAt 1 = .ok (.ifCond .lt 29, 3) := by decide +kernel
theorem dX9_gloveAt_4 : decode cX9_gloveAt 4 = .ok (.iload_n 1, 1) := by decide +kernel
theorem dX9_gloveAt_5 : decode cX9_gloveAt 5 = .ok (.aload_n 0, 1) := by decide +kernel
theorem dX9_gloveAt_6 : decode cX9_gloveAt 6 = .ok (.getfield 151, 3) := by decide +kernel
theorem dX9_gloveAt_9 : decode cX9_gloveAt 9 = .ok (.if_icmp .ge 21, 3) := by decide +kernel
theorem dX9_gloveAt_12 : decode cX9_gloveAt 12 = .ok (.iload_n 1, 1) := by decide +kernel
theorem dX9_gloveAt_13 : decode cX9_gloveAt 13 = .ok (.aload_n 0, 1) := by decide +kernel
theorem dX9_gloveAt_14 : decode cX9_gloveAt 14 = .ok (.getfield 11, 3) := by decide +kernel
theorem dX9_gloveAt_17 : decode cX9_gloveAt 17 = .ok (.arraylength, 1) := by decide +kernel
theorem dX9_gloveAt_18 : decode cX9_gloveAt 18 = .ok (.if_icmp .ge 12, 3) := by decide +kernel
theorem dX9_gloveAt_21 : decode cX9_gloveAt 21 = .ok (.aload_n 0, 1) := by decide +kernel
theorem dX9_gloveAt_22 : decode cX9_gloveAt 22 = .ok (.getfield 11, 3) := by decide +kernel
theorem dX9_gloveAt_25 : decode cX9_gloveAt 25 = .ok (.iload_n 1, 1) := by decide +kernel
theorem dX9_gloveAt_26 : decode cX9_gloveAt 26 = .ok (.aaload, 1) := by decide +kernel
theorem dX9_gloveAt_27 : decode cX9_gloveAt 27 = .ok (.goto 4, 3) := by decide +kernel
theorem dX9_gloveAt_30 : decode cX9_gloveAt 30 = .ok (.aconst_null, 1) := by decide +kernel
theorem dX9_gloveAt_31 : decode cX9_gloveAt 31 = .ok (.areturn, 1) := by decide +kernel
theorem dX9_rowAt_0 : decode cX9_rowAt 0 = .ok (.iload_n 1, 1) := by decide +kernel
theorem dX9_rowAt_1 : decode cX9_rowAt 1 = .ok (.ifCond .lt 21, 3) := by decide +kernel
theorem dX9_rowAt_4 : decode cX9_rowAt 4 = .ok (.iload_n 1, 1) := by decide +kernel
theorem dX9_rowAt_5 : decode cX9_rowAt 5 = .ok (.aload_n 0, 1) := by decide +kernel
theorem dX9_rowAt_6 : decode cX9_rowAt 6 = .ok (.getfield 37, 3) := by decide +kernel
theorem dX9_rowAt_9 : decode cX9_rowAt 9 = .ok (.arraylength, 1) := by decide +kernel
theorem dX9_rowAt_10 : decode cX9_rowAt 10 = .ok (.if_icmp .ge 12, 3) := by decide +kernel
theorem dX9_rowAt_13 : decode cX9_rowAt 13 = .ok (.aload_n 0, 1) := by decide +kernel
theorem dX9_rowAt_14 : decode cX9_rowAt 14 = .ok (.getfield 37, 3) := by decide +kernel
theorem dX9_rowAt_17 : decode cX9_rowAt 17 = .ok (.iload_n 1, 1) := by decide +kernel
theorem dX9_rowAt_18 : decode cX9_rowAt 18 = .ok (.aaload, 1) := by decide +kernel
theorem dX9_rowAt_19 : decode cX9_rowAt 19 = .ok (.goto 4, 3) := by decide +kernel
theorem dX9_rowAt_22 : decode cX9_rowAt 22 = .ok (.aconst_null, 1) := by decide +kernel
theorem dX9_rowAt_23 : decode cX9_rowAt 23 = .ok (.areturn, 1) := by decide +kernel
theorem dX9_textAt_0 : decode cX9_textAt 0 = .ok (.aload_n 0, 1) := by decide +kernel
theorem dX9_textAt_1 : decode cX9_textAt 1 = .ok (.getfield 24, 3) := by decide +kernel
theorem dX9_textAt_4 : decode cX9_textAt 4 = .ok (.iload_n 1, 1) := by decide +kernel
theorem dX9_textAt_5 : decode cX9_textAt 5 = .ok (.ifCond .lt 24, 3) := by decide +kernel
theorem dX9_textAt_8 : decode cX9_textAt 8 = .ok (.iload_n 1, 1) := by decide +kernel
theorem dX9_textAt_9 : decode cX9_textAt 9 = .ok (.aload_n 0, 1) := by decide +kernel
theorem dX9_textAt_10 : decode cX9_textAt 10 = .ok (.getfield 98, 3) := by decide +kernel
theorem dX9_textAt_13 : decode cX9_textAt 13 = .ok (.if_icmp .ge 16, 3) := by decide +kernel
theorem dX9_textAt_16 : decode cX9_textAt 16 = .ok (.iload_n 1, 1) := by decide +kernel
theorem dX9_textAt_17 : decode cX9_textAt 17 = .ok (.aload_n 0, 1) := by decide +kernel
theorem dX9_textAt_18 : decode cX9_textAt 18 = .ok (.getfield 24, 3) := by decide +kernel
theorem dX9_textAt_21 : decode cX9_textAt 21 = .ok (.arraylength, 1) := by decide +kernel
theorem dX9_textAt_22 : decode cX9_textAt 22 = .ok (.if_icmp .ge 7, 3) := by decide +kernel
theorem dX9_textAt_25 : decode cX9_textAt 25 = .ok (.iload_n 1, 1) := by decide +kernel
theorem dX9_textAt_26 : decode cX9_textAt 26 = .ok (.goto 4, 3) := by decide +kernel
theorem dX9_textAt_29 : decode cX9_textAt 29 = .ok (.iconst 0, 1) := by decide +kernel
theorem dX9_textAt_30 : decode cX9_textAt 30 = .ok (.aaload, 1) := by decide +kernel
theorem dX9_textAt_31 : decode cX9_textAt 31 = .ok (.areturn, 1) := by decide +kernel
theorem dX9_ruleText_0 : decode cX9_ruleText 0 = .ok (.aload_n 0, 1) := by decide +kernel
theorem dX9_ruleText_1 : decode cX9_ruleText 1 = .ok (.aload_n 0, 1) := by decide +kernel
theorem dX9_ruleText_2 : decode cX9_ruleText 2 = .ok (.getfield 170, 3) := by decide +kernel
theorem dX9_ruleText_5 : decode cX9_ruleText 5 = .ok (.invokevirtual 253, 3) := by decide +kernel
theorem dX9_ruleText_8 : decode cX9_ruleText 8 = .ok (.areturn, 1) := by decide +kernel
theorem dX9_follow_0 : decode cX9_follow 0 = .ok (.aload_n 0, 1) := by decide +kernel
theorem dX9_follow_1 : decode cX9_follow 1 = .ok (.getfield 51, 3) := by decide +kernel
theorem dX9_follow_4 : decode cX9_follow 4 = .ok (.aload_n 0, 1) := by decide +kernel
theorem dX9_follow_5 : decode cX9_follow 5 = .ok (.invokevirtual 205, 3) := by decide +kernel
theorem dX9_follow_8 : decode cX9_follow 8 = .ok (.aload_n 1, 1) := by decide +kernel
theorem dX9_follow_9 : decode cX9_follow 9 = .ok (.aload_n 0, 1) := by decide +kernel
theorem dX9_follow_10 : decode cX9_follow 10 = .ok (.getfield 18, 3) := by decide +kernel
theorem dX9_follow_13 : decode cX9_follow 13 = .ok (.getfield 121, 3) := by decide +kernel
theorem dX9_follow_16 : decode cX9_follow 16 = .ok (.invokevirtual 209, 3) := by decide +kernel
theorem dX9_follow_19 : decode cX9_follow 19 = .ok (.aload_n 0, 1) := by decide +kernel
theorem dX9_follow_20 : decode cX9_follow 20 = .ok (.getfield 51, 3) := by decide +kernel
theorem dX9_follow_23 : decode cX9_follow 23 = .ok (.aload_n 0, 1) := by decide +kernel
theorem dX9_follow_24 : decode cX9_follow 24 = .ok (.invokevirtual 205, 3) := by decide +kernel
theorem dX9_follow_27 : decode cX9_follow 27 = .ok (.aload_n 1, 1) := by decide +kernel
theorem dX9_follow_28 : decode cX9_follow 28 = .ok (.aload_n 0, 1) := by decide +kernel
theorem dX9_follow_29 : decode cX9_follow 29 = .ok (.getfield 18, 3) := by decide +kernel
theorem dX9_follow_32 : decode cX9_follow 32 = .ok (.getfield 121, 3) := by decide +kernel
theorem dX9_follow_35 : decode cX9_follow 35 = .ok (.invokevirtual 212, 3) := by decide +kernel
theorem dX9_follow_38 : decode cX9_follow 38 = .ok (.aload_n 0, 1) := by decide +kernel
theorem dX9_follow_39 : decode cX9_follow 39 = .ok (.getfield 51, 3) := by decide +kernel
theorem dX9_follow_42 : decode cX9_follow 42 = .ok (.aload_n 1, 1) := by decide +kernel
theorem dX9_follow_43 : decode cX9_follow 43 = .ok (.aload_n 0, 1) := by decide +kernel
theorem dX9_follow_44 : decode cX9_follow 44 = .ok (.getfield 18, 3) := by decide +kernel
theorem dX9_follow_47 : decode cX9_follow 47 = .ok (.invokevirtual 215, 3) := by decide +kernel
theorem dX9_follow_50 : decode cX9_follow 50 = .ok (.return_, 1) := by decide +kernel
theorem dX9_mindsOn_0 : decode cX9_mindsOn 0 = .ok (.aload_n 0, 1) := by decide +kernel
theorem dX9_mindsOn_1 : decode cX9_mindsOn 1 = .ok (.getfield 51, 3) := by decide +kernel
theorem dX9_mindsOn_4 : decode cX9_mindsOn 4 = .ok (.iload_n 1, 1) := by decide +kernel
theorem dX9_mindsOn_5 : decode cX9_mindsOn 5 = .ok (.aload_n 0, 1) := by decide +kernel
theorem dX9_mindsOn_6 : decode cX9_mindsOn 6 = .ok (.invokevirtual 205, 3) := by decide +kernel
theorem dX9_mindsOn_9 : decode cX9_mindsOn 9 = .ok (.aload_n 2, 1) := by decide +kernel
theorem dX9_mindsOn_10 : decode cX9_mindsOn 10 = .ok (.aload_n 0, 1) := by decide +kernel
theorem dX9_mindsOn_11 : decode cX9_mindsOn 11 = .ok (.getfield 18, 3) := by decide +kernel
theorem dX9_mindsOn_14 : decode cX9_mindsOn 14 = .ok (.getfield 121, 3) := by decide +kernel
theorem dX9_mindsOn_17 : decode cX9_mindsOn 17 = .ok (.invokevirtual 300, 3) := by decide +kernel
theorem dX9_mindsOn_20 : decode cX9_mindsOn 20 = .ok (.ireturn, 1) := by decide +kernel
theorem dX9_partsOf_0 : decode cX9_partsOf 0 = .ok (.aload_n 0, 1) := by decide +kernel
theorem dX9_partsOf_1 : decode cX9_partsOf 1 = .ok (.aload_n 1, 1) := by decide +kernel
theorem dX9_partsOf_2 : decode cX9_partsOf 2 = .ok (.invokevirtual 173, 3) := by decide +kernel
theorem dX9_partsOf_5 : decode cX9_partsOf 5 = .ok (.aload_n 0, 1) := by decide +kernel
theorem dX9_partsOf_6 : decode cX9_partsOf 6 = .ok (.getfield 51, 3) := by decide +kernel
theorem dX9_partsOf_9 : decode cX9_partsOf 9 = .ok (.iload_n 2, 1) := by decide +kernel
theorem dX9_partsOf_10 : decode cX9_partsOf 10 = .ok (.invokevirtual 219, 3) := by decide +kernel
theorem dX9_partsOf_13 : decode cX9_partsOf 13 = .ok (.lreturn, 1) := by decide +kernel
theorem dX9_isIn_0 : decode cX9_isIn 0 = .ok (.iload_n 0, 1) := by decide +kernel
theorem dX9_isIn_1 : decode cX9_isIn 1 = .ok (.ifCond .lt 12, 3) := by decide +kernel
theorem dX9_isIn_4 : decode cX9_isIn 4 = .ok (.iload_n 0, 1) := by decide +kernel
theorem dX9_isIn_5 : decode cX9_isIn 5 = .ok (.iload_n 1, 1) := by decide +kernel
theorem dX9_isIn_6 : decode cX9_isIn 6 = .ok (.if_icmp .ge 7, 3) := by decide +kernel
theorem dX9_isIn_9 : decode cX9_isIn 9 = .ok (.iconst 1, 1) := by decide +kernel
theorem dX9_isIn_10 : decode cX9_isIn 10 = .ok (.goto 4, 3) := by decide +kernel
theorem dX9_isIn_13 : decode cX9_isIn 13 = .ok (.iconst 0, 1) := by decide +kernel
theorem dX9_isIn_14 : decode cX9_isIn 14 = .ok (.ireturn, 1) := by decide +kernel
theorem dX9_within_0 : decode cX9_within 0 = .ok (.iload_n 1, 1) := by decide +kernel
theorem dX9_within_1 : decode cX9_within 1 = .ok (.iload_n 2, 1) := by decide +kernel
theorem dX9_within_2 : decode cX9_within 2 = .ok (.iload_n 0, 1) := by decide +kernel
theorem dX9_within_3 : decode cX9_within 3 = .ok (.invokestatic 303, 3) := by decide +kernel
theorem dX9_within_6 : decode cX9_within 6 = .ok (.invokestatic 308, 3) := by decide +kernel
theorem dX9_within_9 : decode cX9_within 9 = .ok (.ireturn, 1) := by decide +kernel
theorem dX9_lowest_0 : decode cX9_lowest 0 = .ok (.lload_n 0, 1) := by decide +kernel
theorem dX9_lowest_1 : decode cX9_lowest 1 = .ok (.lstore 5, 2) := by decide +kernel
theorem dX9_lowest_3 : decode cX9_lowest 3 = .ok (.lload_n 2, 1) := by decide +kernel
theorem dX9_lowest_4 : decode cX9_lowest 4 = .ok (.lstore 7, 2) := by decide +kernel
theorem dX9_lowest_6 : decode cX9_lowest 6 = .ok (.iconst 0, 1) := by decide +kernel
theorem dX9_lowest_7 : decode cX9_lowest 7 = .ok (.istore 9, 2) := by decide +kernel
theorem dX9_lowest_9 : decode cX9_lowest 9 = .ok (.iload 9, 2) := by decide +kernel
theorem dX9_lowest_11 : decode cX9_lowest 11 = .ok (.sipush 1000, 3) := by decide +kernel
theorem dX9_lowest_14 : decode cX9_lowest 14 = .ok (.if_icmp .ge 31, 3) := by decide +kernel
theorem dX9_lowest_17 : decode cX9_lowest 17 = .ok (.lload 5, 2) := by decide +kernel
theorem dX9_lowest_19 : decode cX9_lowest 19 = .ok (.lconst 0, 1) := by decide +kernel
theorem dX9_lowest_20 : decode cX9_lowest 20 = .ok (.lcmp, 1) := by decide +kernel
theorem dX9_lowest_21 : decode cX9_lowest 21 = .ok (.ifCond .eq 24, 3) := by decide +kernel
theorem dX9_lowest_24 : decode cX9_lowest 24 = .ok (.lload 7, 2) := by decide +kernel
theorem dX9_lowest_26 : decode cX9_lowest 26 = .ok (.lload 5, 2) := by decide +kernel
theorem dX9_lowest_28 : decode cX9_lowest 28 = .ok (.lrem, 1) := by decide +kernel
theorem dX9_lowest_29 : decode cX9_lowest 29 = .ok (.lstore 10, 2) := by decide +kernel
theorem dX9_lowest_31 : decode cX9_lowest 31 = .ok (.lload 5, 2) := by decide +kernel
theorem dX9_lowest_33 : decode cX9_lowest 33 = .ok (.lstore 7, 2) := by decide +kernel
theorem dX9_lowest_35 : decode cX9_lowest 35 = .ok (.lload 10, 2) := by decide +kernel
theorem dX9_lowest_37 : decode cX9_lowest 37 = .ok (.lstore 5, 2) := by decide +kernel
theorem dX9_lowest_39 : decode cX9_lowest 39 = .ok (.iinc 9 1, 3) := by decide +kernel
theorem dX9_lowest_42 : decode cX9_lowest 42 = .ok (.goto (-33), 3) := by decide +kernel
theorem dX9_lowest_45 : decode cX9_lowest 45 = .ok (.lload 7, 2) := by decide +kernel
theorem dX9_lowest_47 : decode cX9_lowest 47 = .ok (.lconst 0, 1) := by decide +kernel
theorem dX9_lowest_48 : decode cX9_lowest 48 = .ok (.lcmp, 1) := by decide +kernel
theorem dX9_lowest_49 : decode cX9_lowest 49 = .ok (.ifCond .ne 14, 3) := by decide +kernel
theorem dX9_lowest_52 : decode cX9_lowest 52 = .ok (.iload 4, 2) := by decide +kernel
theorem dX9_lowest_54 : decode cX9_lowest 54 = .ok (.ifCond .ne 7, 3) := by decide +kernel
theorem dX9_lowest_57 : decode cX9_lowest 57 = .ok (.lload_n 0, 1) := by decide +kernel
theorem dX9_lowest_58 : decode cX9_lowest 58 = .ok (.goto 4, 3) := by decide +kernel
theorem dX9_lowest_61 : decode cX9_lowest 61 = .ok (.lload_n 2, 1) := by decide +kernel
theorem dX9_lowest_62 : decode cX9_lowest 62 = .ok (.lreturn, 1) := by decide +kernel
theorem dX9_lowest_63 : decode cX9_lowest 63 = .ok (.iload 4, 2) := by decide +kernel
theorem dX9_lowest_65 : decode cX9_lowest 65 = .ok (.ifCond .ne 7, 3) := by decide +kernel
theorem dX9_lowest_68 : decode cX9_lowest 68 = .ok (.lload_n 0, 1) := by decide +kernel
theorem dX9_lowest_69 : decode cX9_lowest 69 = .ok (.goto 4, 3) := by decide +kernel
theorem dX9_lowest_72 : decode cX9_lowest 72 = .ok (.lload_n 2, 1) := by decide +kernel
theorem dX9_lowest_73 : decode cX9_lowest 73 = .ok (.lload 7, 2) := by decide +kernel
theorem dX9_lowest_75 : decode cX9_lowest 75 = .ok (.ldiv, 1) := by decide +kernel
theorem dX9_lowest_76 : decode cX9_lowest 76 = .ok (.lreturn, 1) := by decide +kernel
