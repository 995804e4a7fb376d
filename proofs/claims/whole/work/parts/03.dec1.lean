theorem dX0_above_0 : decode cX0_above 0 = .ok (.iload_n 0, 1) := by decide +kernel
theorem dX0_above_1 : decode cX0_above 1 = .ok (.tableswitch 47 1 6 #[39, 39, 41, 43, 39, 45], 39) := by decide +kernel
theorem dX0_above_40 : decode cX0_above 40 = .ok (.iconst 0, 1) := by decide +kernel
theorem dX0_above_41 : decode cX0_above 41 = .ok (.ireturn, 1) := by decide +kernel
theorem dX0_above_42 : decode cX0_above 42 = .ok (.iconst 2, 1) := by decide +kernel
theorem dX0_above_43 : decode cX0_above 43 = .ok (.ireturn, 1) := by decide +kernel
theorem dX0_above_44 : decode cX0_above 44 = .ok (.iconst 3, 1) := by decide +kernel
theorem dX0_above_45 : decode cX0_above 45 = .ok (.ireturn, 1) := by decide +kernel
theorem dX0_above_46 : decode cX0_above 46 = .ok (.iconst 1, 1) := by decide +kernel
theorem dX0_above_47 : decode cX0_above 47 = .ok (.ireturn, 1) := by decide +kernel
theorem dX0_above_48 : decode cX0_above 48 = .ok (.iconst (-1), 1) := by decide +kernel
theorem dX0_above_49 : decode cX0_above 49 = .ok (.ireturn, 1) := by decide +kernel
theorem dX0_isUnder_0 : decode cX0_isUnder 0 = .ok (.iload_n 0, 1) := by decide +kernel
theorem dX0_isUnder_1 : decode cX0_isUnder 1 = .ok (.istore_n 2, 1) := by decide +kernel
theorem dX0_isUnder_2 : decode cX0_isUnder 2 = .ok (.iconst 0, 1) := by decide +kernel
theorem dX0_isUnder_3 : decode cX0_isUnder 3 = .ok (.istore_n 3, 1) := by decide +kernel
theorem dX0_isUnder_4 : decode cX0_isUnder 4 = .ok (.iload_n 3, 1) := by decide +kernel
theorem dX0_isUnder_5 : decode cX0_isUnder 5 = .ok (.iconst 3, 1) := by decide +kernel
theorem dX0_isUnder_6 : decode cX0_isUnder 6 = .ok (.if_icmp .ge 19, 3) := by decide +kernel
theorem dX0_isUnder_9 : decode cX0_isUnder 9 = .ok (.iload_n 2, 1) := by decide +kernel
theorem dX0_isUnder_10 : decode cX0_isUnder 10 = .ok (.iload_n 1, 1) := by decide +kernel
theorem dX0_isUnder_11 : decode cX0_isUnder 11 = .ok (.if_icmp .eq 14, 3) := by decide +kernel
theorem dX0_isUnder_14 : decode cX0_isUnder 14 = .ok (.iload_n 2, 1) := by decide +kernel
theorem dX0_isUnder_15 : decode cX0_isUnder 15 = .ok (.invokestatic 9, 3) := by decide +kernel
theorem dX0_isUnder_18 : decode cX0_isUnder 18 = .ok (.istore_n 2, 1) := by decide +kernel
theorem dX0_isUnder_19 : decode cX0_isUnder 19 = .ok (.iinc 3 1, 3) := by decide +kernel
theorem dX0_isUnder_22 : decode cX0_isUnder 22 = .ok (.goto (-18), 3) := by decide +kernel
theorem dX0_isUnder_25 : decode cX0_isUnder 25 = .ok (.iload_n 2, 1) := by decide +kernel
theorem dX0_isUnder_26 : decode cX0_isUnder 26 = .ok (.iload_n 1, 1) := by decide +kernel
theorem dX0_isUnder_27 : decode cX0_isUnder 27 = .ok (.if_icmp .ne 7, 3) := by decide +kernel
theorem dX0_isUnder_30 : decode cX0_isUnder 30 = .ok (.iconst 1, 1) := by decide +kernel
theorem dX0_isUnder_31 : decode cX0_isUnder 31 = .ok (.goto 4, 3) := by decide +kernel
theorem dX0_isUnder_34 : decode cX0_isUnder 34 = .ok (.iconst 0, 1) := by decide +kernel
theorem dX0_isUnder_35 : decode cX0_isUnder 35 = .ok (.ireturn, 1) := by decide +kernel
theorem dX0_walk_0 : decode cX0_walk 0 = .ok (.iload_n 1, 1) := by decide +kernel
theorem dX0_walk_1 : decode cX0_walk 1 = .ok (.iconst 2, 1) := by decide +kernel
theorem dX0_walk_2 : decode cX0_walk 2 = .ok (.irem, 1) := by decide +kernel
theorem dX0_walk_3 : decode cX0_walk 3 = .ok (.istore_n 2, 1) := by decide +kernel
theorem dX0_walk_4 : decode cX0_walk 4 = .ok (.iload_n 0, 1) := by decide +kernel
theorem dX0_walk_5 : decode cX0_walk 5 = .ok (.tableswitch 64 1 6 #[39, 43, 45, 49, 62, 41], 39) := by decide +kernel
theorem dX0_walk_44 : decode cX0_walk 44 = .ok (.iconst 3, 1) := by decide +kernel
theorem dX0_walk_45 : decode cX0_walk 45 = .ok (.ireturn, 1) := by decide +kernel
theorem dX0_walk_46 : decode cX0_walk 46 = .ok (.iconst 2, 1) := by decide +kernel
theorem dX0_walk_47 : decode cX0_walk 47 = .ok (.ireturn, 1) := by decide +kernel
theorem dX0_walk_48 : decode cX0_walk 48 = .ok (.iload_n 2, 1) := by decide +kernel
theorem dX0_walk_49 : decode cX0_walk 49 = .ok (.ireturn, 1) := by decide +kernel
theorem dX0_walk_50 : decode cX0_walk 50 = .ok (.iload_n 2, 1) := by decide +kernel
theorem dX0_walk_51 : decode cX0_walk 51 = .ok (.iconst 1, 1) := by decide +kernel
theorem dX0_walk_52 : decode cX0_walk 52 = .ok (.iadd, 1) := by decide +kernel
theorem dX0_walk_53 : decode cX0_walk 53 = .ok (.ireturn, 1) := by decide +kernel
theorem dX0_walk_54 : decode cX0_walk 54 = .ok (.iload_n 1, 1) := by decide +kernel
theorem dX0_walk_55 : decode cX0_walk 55 = .ok (.invokestatic 13, 3) := by decide +kernel
theorem dX0_walk_58 : decode cX0_walk 58 = .ok (.ifCond .eq 7, 3) := by decide +kernel
theorem dX0_walk_61 : decode cX0_walk 61 = .ok (.iconst 5, 1) := by decide +kernel
theorem dX0_walk_62 : decode cX0_walk 62 = .ok (.goto 4, 3) := by decide +kernel
theorem dX0_walk_65 : decode cX0_walk 65 = .ok (.iconst 0, 1) := by decide +kernel
theorem dX0_walk_66 : decode cX0_walk 66 = .ok (.ireturn, 1) := by decide +kernel
theorem dX0_walk_67 : decode cX0_walk 67 = .ok (.iconst 0, 1) := by decide +kernel
theorem dX0_walk_68 : decode cX0_walk 68 = .ok (.ireturn, 1) := by decide +kernel
theorem dX0_walk_69 : decode cX0_walk 69 = .ok (.iconst 1, 1) := by decide +kernel
theorem dX0_walk_70 : decode cX0_walk 70 = .ok (.ireturn, 1) := by decide +kernel
theorem dX0_shift_0 : decode cX0_shift 0 = .ok (.iload_n 0, 1) := by decide +kernel
theorem dX0_shift_1 : decode cX0_shift 1 = .ok (.tableswitch 57 1 6 #[39, 41, 43, 55, 41, 39], 39) := by decide +kernel
theorem dX0_shift_40 : decode cX0_shift 40 = .ok (.iconst 2, 1) := by decide +kernel
theorem dX0_shift_41 : decode cX0_shift 41 = .ok (.ireturn, 1) := by decide +kernel
theorem dX0_shift_42 : decode cX0_shift 42 = .ok (.iconst 0, 1) := by decide +kernel
theorem dX0_shift_43 : decode cX0_shift 43 = .ok (.ireturn, 1) := by decide +kernel
theorem dX0_shift_44 : decode cX0_shift 44 = .ok (.iload_n 1, 1) := by decide +kernel
theorem dX0_shift_45 : decode cX0_shift 45 = .ok (.iconst 3, 1) := by decide +kernel
theorem dX0_shift_46 : decode cX0_shift 46 = .ok (.irem, 1) := by decide +kernel
theorem dX0_shift_47 : decode cX0_shift 47 = .ok (.ifCond .ne 7, 3) := by decide +kernel
theorem dX0_shift_50 : decode cX0_shift 50 = .ok (.iconst 1, 1) := by decide +kernel
theorem dX0_shift_51 : decode cX0_shift 51 = .ok (.goto 4, 3) := by decide +kernel
theorem dX0_shift_54 : decode cX0_shift 54 = .ok (.iconst 0, 1) := by decide +kernel
theorem dX0_shift_55 : decode cX0_shift 55 = .ok (.ireturn, 1) := by decide +kernel
theorem dX0_shift_56 : decode cX0_shift 56 = .ok (.iconst 5, 1) := by decide +kernel
theorem dX0_shift_57 : decode cX0_shift 57 = .ok (.ireturn, 1) := by decide +kernel
theorem dX0_shift_58 : decode cX0_shift 58 = .ok (.iconst 1, 1) := by decide +kernel
theorem dX0_shift_59 : decode cX0_shift 59 = .ok (.ireturn, 1) := by decide +kernel
theorem dX0_mind_0 : decode cX0_mind 0 = .ok (.iload_n 1, 1) := by decide +kernel
theorem dX0_mind_1 : decode cX0_mind 1 = .ok (.iconst 5, 1) := by decide +kernel
theorem dX0_mind_2 : decode cX0_mind 2 = .ok (.if_icmp .gt 7, 3) := by decide +kernel
theorem dX0_mind_5 : decode cX0_mind 5 = .ok (.iconst 1, 1) := by decide +kernel
theorem dX0_mind_6 : decode cX0_mind 6 = .ok (.goto 4, 3) := by decide +kernel
theorem dX0_mind_9 : decode cX0_mind 9 = .ok (.iconst 0, 1) := by decide +kernel
theorem dX0_mind_10 : decode cX0_mind 10 = .ok (.istore 4, 2) := by decide +kernel
theorem dX0_mind_12 : decode cX0_mind 12 = .ok (.iload 4, 2) := by decide +kernel
theorem dX0_mind_14 : decode cX0_mind 14 = .ok (.ifCond .ne 8, 3) := by decide +kernel
theorem dX0_mind_17 : decode cX0_mind 17 = .ok (.iload_n 1, 1) := by decide +kernel
theorem dX0_mind_18 : decode cX0_mind 18 = .ok (.iload_n 2, 1) := by decide +kernel
theorem dX0_mind_19 : decode cX0_mind 19 = .ok (.if_icmp .ne 7, 3) := by decide +kernel
theorem dX0_mind_22 : decode cX0_mind 22 = .ok (.iconst 1, 1) := by decide +kernel
theorem dX0_mind_23 : decode cX0_mind 23 = .ok (.goto 4, 3) := by decide +kernel
theorem dX0_mind_26 : decode cX0_mind 26 = .ok (.iconst 0, 1) := by decide +kernel
theorem dX0_mind_27 : decode cX0_mind 27 = .ok (.istore 5, 2) := by decide +kernel
theorem dX0_mind_29 : decode cX0_mind 29 = .ok (.iload_n 0, 1) := by decide +kernel
theorem dX0_mind_30 : decode cX0_mind 30 = .ok (.tableswitch 82 1 6 #[38, 53, 56, 59, 80, 40], 38) := by decide +kernel
theorem dX0_mind_68 : decode cX0_mind 68 = .ok (.iconst 1, 1) := by decide +kernel
theorem dX0_mind_69 : decode cX0_mind 69 = .ok (.ireturn, 1) := by decide +kernel
theorem dX0_mind_70 : decode cX0_mind 70 = .ok (.iload_n 1, 1) := by decide +kernel
theorem dX0_mind_71 : decode cX0_mind 71 = .ok (.iconst 2, 1) := by decide +kernel
theorem dX0_mind_72 : decode cX0_mind 72 = .ok (.irem, 1) := by decide +kernel
theorem dX0_mind_73 : decode cX0_mind 73 = .ok (.iconst 1, 1) := by decide +kernel
theorem dX0_mind_74 : decode cX0_mind 74 = .ok (.if_icmp .ne 7, 3) := by decide +kernel
theorem dX0_mind_77 : decode cX0_mind 77 = .ok (.iconst 1, 1) := by decide +kernel
theorem dX0_mind_78 : decode cX0_mind 78 = .ok (.goto 4, 3) := by decide +kernel
theorem dX0_mind_81 : decode cX0_mind 81 = .ok (.iconst 0, 1) := by decide +kernel
theorem dX0_mind_82 : decode cX0_mind 82 = .ok (.ireturn, 1) := by decide +kernel
theorem dX0_mind_83 : decode cX0_mind 83 = .ok (.iload 4, 2) := by decide +kernel
theorem dX0_mind_85 : decode cX0_mind 85 = .ok (.ireturn, 1) := by decide +kernel
theorem dX0_mind_86 : decode cX0_mind 86 = .ok (.iload 5, 2) := by decide +kernel
theorem dX0_mind_88 : decode cX0_mind 88 = .ok (.ireturn, 1) := by decide +kernel
theorem dX0_mind_89 : decode cX0_mind 89 = .ok (.iload_n 1, 1) := by decide +kernel
theorem dX0_mind_90 : decode cX0_mind 90 = .ok (.bipush 9, 2) := by decide +kernel
theorem dX0_mind_92 : decode cX0_mind 92 = .ok (.if_icmp .eq 12, 3) := by decide +kernel
theorem dX0_mind_95 : decode cX0_mind 95 = .ok (.iload_n 3, 1) := by decide +kernel
theorem dX0_mind_96 : decode cX0_mind 96 = .ok (.ifCond .eq 12, 3) := by decide +kernel
theorem dX0_mind_99 : decode cX0_mind 99 = .ok (.iload 5, 2) := by decide +kernel
theorem dX0_mind_101 : decode cX0_mind 101 = .ok (.ifCond .eq 7, 3) := by decide +kernel
theorem dX0_mind_104 : decode cX0_mind 104 = .ok (.iconst 1, 1) := by decide +kernel
theorem dX0_mind_105 : decode cX0_mind 105 = .ok (.goto 4, 3) := by decide +kernel
theorem dX0_mind_108 : decode cX0_mind 108 = .ok (.iconst 0, 1) := by decide +kernel
theorem dX0_mind_109 : decode cX0_mind 109 = .ok (.ireturn, 1) := by decide +kernel
theorem dX0_mind_110 : decode cX0_mind 110 = .ok (.iconst 0, 1) := by decide +kernel
theorem dX0_mind_111 : decode cX0_mind 111 = .ok (.ireturn, 1) := by decide +kernel
theorem dX0_mind_112 : decode cX0_mind 112 = .ok (.iload_n 1, 1) := by decide +kernel
theorem dX0_mind_113 : decode cX0_mind 113 = .ok (.iload_n 2, 1) := by decide +kernel
theorem dX0_mind_114 : decode cX0_mind 114 = .ok (.if_icmp .eq 7, 3) := by decide +kernel
theorem dX0_mind_117 : decode cX0_mind 117 = .ok (.iconst 1, 1) := by decide +kernel
theorem dX0_mind_118 : decode cX0_mind 118 = .ok (.goto 4, 3) := by decide +kernel
theorem dX0_mind_121 : decode cX0_mind 121 = .ok (.iconst 0, 1) := by decide +kernel
theorem dX0_mind_122 : decode cX0_mind 122 = .ok (.ireturn, 1) := by decide +kernel
theorem dX0_shine_0 : decode cX0_shine 0 = .ok (.iload_n 0, 1) := by decide +kernel
theorem dX0_shine_1 : decode cX0_shine 1 = .ok (.tableswitch 45 1 6 #[39, 41, 41, 43, 39, 39], 39) := by decide +kernel
theorem dX0_shine_40 : decode cX0_shine 40 = .ok (.iconst 0, 1) := by decide +kernel
theorem dX0_shine_41 : decode cX0_shine 41 = .ok (.ireturn, 1) := by decide +kernel
theorem dX0_shine_42 : decode cX0_shine 42 = .ok (.iconst 2, 1) := by decide +kernel
theorem dX0_shine_43 : decode cX0_shine 43 = .ok (.ireturn, 1) := by decide +kernel
theorem dX0_shine_44 : decode cX0_shine 44 = .ok (.iconst 4, 1) := by decide +kernel
theorem dX0_shine_45 : decode cX0_shine 45 = .ok (.ireturn, 1) := by decide +kernel
theorem dX0_shine_46 : decode cX0_shine 46 = .ok (.iconst 1, 1) := by decide +kernel
theorem dX0_shine_47 : decode cX0_shine 47 = .ok (.ireturn, 1) := by decide +kernel
theorem dX0_gladden_0 : decode cX0_gladden 0 = .ok (.iconst 3, 1) := by decide +kernel
theorem dX0_gladden_1 : decode cX0_gladden 1 = .ok (.iload_n 1, 1) := by decide +kernel
theorem dX0_gladden_2 : decode cX0_gladden 2 = .ok (.iadd, 1) := by decide +kernel
theorem dX0_gladden_3 : decode cX0_gladden 3 = .ok (.istore_n 2, 1) := by decide +kernel
theorem dX0_gladden_4 : decode cX0_gladden 4 = .ok (.iload_n 0, 1) := by decide +kernel
theorem dX0_gladden_5 : decode cX0_gladden 5 = .ok (.tableswitch 48 2 6 #[38, 40, 42, 46, 35], 35) := by decide +kernel
theorem dX0_gladden_40 : decode cX0_gladden 40 = .ok (.bipush 20, 2) := by decide +kernel
theorem dX0_gladden_42 : decode cX0_gladden 42 = .ok (.ireturn, 1) := by decide +kernel
theorem dX0_gladden_43 : decode cX0_gladden 43 = .ok (.iconst 3, 1) := by decide +kernel
theorem dX0_gladden_44 : decode cX0_gladden 44 = .ok (.ireturn, 1) := by decide +kernel
theorem dX0_gladden_45 : decode cX0_gladden 45 = .ok (.iload_n 2, 1) := by decide +kernel
theorem dX0_gladden_46 : decode cX0_gladden 46 = .ok (.ireturn, 1) := by decide +kernel
theorem dX0_gladden_47 : decode cX0_gladden 47 = .ok (.iconst 3, 1) := by decide +kernel
theorem dX0_gladden_48 : decode cX0_gladden 48 = .ok (.iload_n 2, 1) := by decide +kernel
theorem dX0_gladden_49 : decode cX0_gladden 49 = .ok (.imul, 1) := by decide +kernel
theorem dX0_gladden_50 : decode cX0_gladden 50 = .ok (.ireturn, 1) := by decide +kernel
theorem dX0_gladden_51 : decode cX0_gladden 51 = .ok (.iconst 0, 1) := by decide +kernel
theorem dX0_gladden_52 : decode cX0_gladden 52 = .ok (.ireturn, 1) := by decide +kernel
theorem dX0_gladden_53 : decode cX0_gladden 53 = .ok (.iconst 1, 1) := by decide +kernel
theorem dX0_gladden_54 : decode cX0_gladden 54 = .ok (.ireturn, 1) := by decide +kernel
theorem dX1_init_0 : decode cX1_init 0 = .ok (.aload_n 0, 1) := by decide +kernel
theorem dX1_init_1 : decode cX1_init 1 = .ok (.invokespecial 1, 3) := by decide +kernel
theorem dX1_init_4 : decode cX1_init 4 = .ok (.aload_n 0, 1) := by decide +kernel
theorem dX1_init_5 : decode cX1_init 5 = .ok (.iconst 4, 1) := by decide +kernel
theorem dX1_init_6 : decode cX1_init 6 = .ok (.newarray .int, 2) := by decide +kernel
theorem dX1_init_8 : decode cX1_init 8 = .ok (.putfield 9, 3) := by decide +kernel
theorem dX1_init_11 : decode cX1_init 11 = .ok (.aload_n 0, 1) := by decide +kernel
theorem dX1_init_12 : decode cX1_init 12 = .ok (.iconst 4, 1) := by decide +kernel
theorem dX1_init_13 : decode cX1_init 13 = .ok (.newarray .int, 2) := by decide +kernel
theorem dX1_init_15 : decode cX1_init 15 = .ok (.putfield 13, 3) := by decide +kernel
theorem dX1_init_18 : decode cX1_init 18 = .ok (.aload_n 0, 1) := by decide +kernel
theorem dX1_init_19 : decode cX1_init 19 = .ok (.sipush 160, 3) := by decide +kernel
theorem dX1_init_22 : decode cX1_init 22 = .ok (.newarray .int, 2) := by decide +kernel
theorem dX1_init_24 : decode cX1_init 24 = .ok (.putfield 16, 3) := by decide +kernel
theorem dX1_init_27 : decode cX1_init 27 = .ok (.return_, 1) := by decide +kernel
theorem dX1_lay_0 : decode cX1_lay 0 = .ok (.aload_n 0, 1) := by decide +kernel
theorem dX1_lay_1 : decode cX1_lay 1 = .ok (.getfield 9, 3) := by decide +kernel
theorem dX1_lay_4 : decode cX1_lay 4 = .ok (.iload_n 1, 1) := by decide +kernel
theorem dX1_lay_5 : decode cX1_lay 5 = .ok (.iload_n 2, 1) := by decide +kernel
theorem dX1_lay_6 : decode cX1_lay 6 = .ok (.iastore, 1) := by decide +kernel
theorem dX1_lay_7 : decode cX1_lay 7 = .ok (.aload_n 0, 1) := by decide +kernel
theorem dX1_lay_8 : decode cX1_lay 8 = .ok (.getfield 13, 3) := by decide +kernel
theorem dX1_lay_11 : decode cX1_lay 11 = .ok (.iload_n 1, 1) := by decide +kernel
theorem dX1_lay_12 : decode cX1_lay 12 = .ok (.iload_n 3, 1) := by decide +kernel
theorem dX1_lay_13 : decode cX1_lay 13 = .ok (.iastore, 1) := by decide +kernel
theorem dX1_lay_14 : decode cX1_lay 14 = .ok (.aload_n 0, 1) := by decide +kernel
theorem dX1_lay_15 : decode cX1_lay 15 = .ok (.getfield 16, 3) := by decide +kernel
theorem dX1_lay_18 : decode cX1_lay 18 = .ok (.iload_n 1, 1) := by decide +kernel
theorem dX1_lay_19 : decode cX1_lay 19 = .ok (.bipush 40, 2) := by decide +kernel
theorem dX1_lay_21 : decode cX1_lay 21 = .ok (.imul, 1) := by decide +kernel
theorem dX1_lay_22 : decode cX1_lay 22 = .ok (.iload_n 1, 1) := by decide +kernel
theorem dX1_lay_23 : decode cX1_lay 23 = .ok (.iconst 1, 1) := by decide +kernel
theorem dX1_lay_24 : decode cX1_lay 24 = .ok (.iadd, 1) := by decide +kernel
theorem dX1_lay_25 : decode cX1_lay 25 = .ok (.bipush 40, 2) := by decide +kernel
theorem dX1_lay_27 : decode cX1_lay 27 = .ok (.imul, 1) := by decide +kernel
theorem dX1_lay_28 : decode cX1_lay 28 = .ok (.iconst 0, 1) := by decide +kernel
theorem dX1_lay_29 : decode cX1_lay 29 = .ok (.invokestatic 19, 3) := by decide +kernel
theorem dX1_lay_32 : decode cX1_lay 32 = .ok (.return_, 1) := by decide +kernel
theorem dX1_isMissing_0 : decode cX1_isMissing 0 = .ok (.aload_n 0, 1) := by decide +kernel
theorem dX1_isMissing_1 : decode cX1_isMissing 1 = .ok (.getfield 9, 3) := by decide +kernel
theorem dX1_isMissing_4 : decode cX1_isMissing 4 = .ok (.iload_n 1, 1) := by decide +kernel
theorem dX1_isMissing_5 : decode cX1_isMissing 5 = .ok (.iaload, 1) := by decide +kernel
theorem dX1_isMissing_6 : decode cX1_isMissing 6 = .ok (.ifCond .ne 7, 3) := by decide +kernel
theorem dX1_isMissing_9 : decode cX1_isMissing 9 = .ok (.iconst 1, 1) := by decide +kernel
theorem dX1_isMissing_10 : decode cX1_isMissing 10 = .ok (.goto 4, 3) := by decide +kernel
theorem dX1_isMissing_13 : decode cX1_isMissing 13 = .ok (.iconst 0, 1) := by decide +kernel
theorem dX1_isMissing_14 : decode cX1_isMissing 14 = .ok (.ireturn, 1) := by decide +kernel
theorem dX1_bits_0 : decode cX1_bits 0 = .ok (.aload_n 0, 1) := by decide +kernel
theorem dX1_bits_1 : decode cX1_bits 1 = .ok (.getfield 9, 3) := by decide +kernel
theorem dX1_bits_4 : decode cX1_bits 4 = .ok (.iload_n 1, 1) := by decide +kernel
theorem dX1_bits_5 : decode cX1_bits 5 = .ok (.iaload, 1) := by decide +kernel
theorem dX1_bits_6 : decode cX1_bits 6 = .ok (.ireturn, 1) := by decide +kernel
theorem dX1_length_0 : decode cX1_length 0 = .ok (.aload_n 0, 1) := by decide +kernel
theorem dX1_length_1 : decode cX1_length 1 = .ok (.getfield 13, 3) := by decide +kernel
theorem dX1_length_4 : decode cX1_length 4 = .ok (.iload_n 1, 1) := by decide +kernel
theorem dX1_length_5 : decode cX1_length 5 = .ok (.iaload, 1) := by decide +kernel
theorem dX1_length_6 : decode cX1_length 6 = .ok (.ireturn, 1) := by decide +kernel
theorem dX1_number_0 : decode cX1_number 0 = .ok (.aload_n 0, 1) := by decide +kernel
theorem dX1_number_1 : decode cX1_number 1 = .ok (.getfield 16, 3) := by decide +kernel
theorem dX1_number_4 : decode cX1_number 4 = .ok (.iload_n 1, 1) := by decide +kernel
theorem dX1_number_5 : decode cX1_number 5 = .ok (.bipush 40, 2) := by decide +kernel
theorem dX1_number_7 : decode cX1_number 7 = .ok (.imul, 1) := by decide +kernel
theorem dX1_number_8 : decode cX1_number 8 = .ok (.iload_n 2, 1) := by decide +kernel
theorem dX1_number_9 : decode cX1_number 9 = .ok (.iadd, 1) := by decide +kernel
theorem dX1_number_10 : decode cX1_number 10 = .ok (.iaload, 1) := by decide +kernel
theorem dX1_number_11 : decode cX1_number 11 = .ok (.ireturn, 1) := by decide +kernel
theorem dX1_put_0 : decode cX1_put 0 = .ok (.aload_n 0, 1) := by decide +kernel
theorem dX1_put_1 : decode cX1_put 1 = .ok (.getfield 16, 3) := by decide +kernel
theorem dX1_put_4 : decode cX1_put 4 = .ok (.iload_n 1, 1) := by decide +kernel
theorem dX1_put_5 : decode cX1_put 5 = .ok (.bipush 40, 2) := by decide +kernel
theorem dX1_put_7 : decode cX1_put 7 = .ok (.imul, 1) := by decide +kernel
theorem dX1_put_8 : decode cX1_put 8 = .ok (.iload_n 2, 1) := by decide +kernel
theorem dX1_put_9 : decode cX1_put 9 = .ok (.iadd, 1) := by decide +kernel
theorem dX1_put_10 : decode cX1_put 10 = .ok (.aload_n 0, 1) := by decide +kernel
theorem dX1_put_11 : decode cX1_put 11 = .ok (.getfield 9, 3) := by decide +kernel
theorem dX1_put_14 : decode cX1_put 14 = .ok (.iload_n 1, 1) := by decide +kernel
theorem dX1_put_15 : decode cX1_put 15 = .ok (.iaload, 1) := by decide +kernel
theorem dX1_put_16 : decode cX1_put 16 = .ok (.iload_n 3, 1) := by decide +kernel
theorem dX1_put_17 : decode cX1_put 17 = .ok (.invokestatic 25, 3) := by decide +kernel
theorem dX1_put_20 : decode cX1_put 20 = .ok (.iastore, 1) := by decide +kernel
theorem dX1_put_21 : decode cX1_put 21 = .ok (.return_, 1) := by decide +kernel
theorem dX1_lowest_0 : decode cX1_lowest 0 = .ok (.iload_n 0, 1) := by decide +kernel
theorem dX1_lowest_1 : decode cX1_lowest 1 = .ok (.lookupswitch 33 #[(8, 27), (16, 30)], 27) := by decide +kernel
theorem dX1_lowest_28 : decode cX1_lowest 28 = .ok (.iload_n 1, 1) := by decide +kernel
theorem dX1_lowest_29 : decode cX1_lowest 29 = .ok (.i2b, 1) := by decide +kernel
theorem dX1_lowest_30 : decode cX1_lowest 30 = .ok (.ireturn, 1) := by decide +kernel
theorem dX1_lowest_31 : decode cX1_lowest 31 = .ok (.iload_n 1, 1) := by decide +kernel
theorem dX1_lowest_32 : decode cX1_lowest 32 = .ok (.i2s, 1) := by decide +kernel
theorem dX1_lowest_33 : decode cX1_lowest 33 = .ok (.ireturn, 1) := by decide +kernel
theorem dX1_lowest_34 : decode cX1_lowest 34 = .ok (.iload_n 1, 1) := by decide +kernel
theorem dX1_lowest_35 : decode cX1_lowest 35 = .ok (.ireturn, 1) := by decide +kernel
theorem dX1_hasPart_0 : decode cX1_hasPart 0 = .ok (.iload_n 2, 1) := by decide +kernel
theorem dX1_hasPart_1 : decode cX1_hasPart 1 = .ok (.ifCond .lt 23, 3) := by decide +kernel
theorem dX1_hasPart_4 : decode cX1_hasPart 4 = .ok (.iload_n 3, 1) := by decide +kernel
theorem dX1_hasPart_5 : decode cX1_hasPart 5 = .ok (.ifCond .lt 19, 3) := by decide +kernel
theorem dX1_hasPart_8 : decode cX1_hasPart 8 = .ok (.iload_n 2, 1) := by decide +kernel
theorem dX1_hasPart_9 : decode cX1_hasPart 9 = .ok (.aload_n 0, 1) := by decide +kernel
theorem dX1_hasPart_10 : decode cX1_hasPart 10 = .ok (.getfield 13, 3) := by decide +kernel
theorem dX1_hasPart_13 : decode cX1_hasPart 13 = .ok (.iload_n 1, 1) := by decide +kernel
theorem dX1_hasPart_14 : decode cX1_hasPart 14 = .ok (.iaload, 1) := by decide +kernel
theorem dX1_hasPart_15 : decode cX1_hasPart 15 = .ok (.iload_n 3, 1) := by decide +kernel
theorem dX1_hasPart_16 : decode cX1_hasPart 16 = .ok (.isub, 1) := by decide +kernel
theorem dX1_hasPart_17 : decode cX1_hasPart 17 = .ok (.if_icmp .gt 7, 3) := by decide +kernel
theorem dX1_hasPart_20 : decode cX1_hasPart 20 = .ok (.iconst 1, 1) := by decide +kernel
theorem dX1_hasPart_21 : decode cX1_hasPart 21 = .ok (.goto 4, 3) := by decide +kernel
theorem dX1_hasPart_24 : decode cX1_hasPart 24 = .ok (.iconst 0, 1) := by decide +kernel
theorem dX1_hasPart_25 : decode cX1_hasPart 25 = .ok (.ireturn, 1) := by decide +kernel
theorem dX1_move_0 : decode cX1_move 0 = .ok (.aload_n 0, 1) := by decide +kernel
theorem dX1_move_1 : decode cX1_move 1 = .ok (.getfield 16, 3) := by decide +kernel
theorem dX1_move_4 : decode cX1_move 4 = .ok (.iload_n 1, 1) := by decide +kernel
theorem dX1_move_5 : decode cX1_move 5 = .ok (.bipush 40, 2) := by decide +kernel
theorem dX1_move_7 : decode cX1_move 7 = .ok (.imul, 1) := by decide +kernel
theorem dX1_move_8 : decode cX1_move 8 = .ok (.iload_n 2, 1) := by decide +kernel
theorem dX1_move_9 : decode cX1_move 9 = .ok (.iadd, 1) := by decide +kernel
theorem dX1_move_10 : decode cX1_move 10 = .ok (.aload_n 0, 1) := by decide +kernel
theorem dX1_move_11 : decode cX1_move 11 = .ok (.getfield 16, 3) := by decide +kernel
theorem dX1_move_14 : decode cX1_move 14 = .ok (.iload_n 3, 1) := by decide +kernel
theorem dX1_move_15 : decode cX1_move 15 = .ok (.bipush 40, 2) := by decide +kernel
theorem dX1_move_17 : decode cX1_move 17 = .ok (.imul, 1) := by decide +kernel
theorem dX1_move_18 : decode cX1_move 18 = .ok (.iload 4, 2) := by decide +kernel
theorem dX1_move_20 : decode cX1_move 20 = .ok (.iadd, 1) := by decide +kernel
theorem dX1_move_21 : decode cX1_move 21 = .ok (.iload 5, 2) := by decide +kernel
theorem dX1_move_23 : decode cX1_move 23 = .ok (.invokestatic 29, 3) := by decide +kernel
theorem dX1_move_26 : decode cX1_move 26 = .ok (.return_, 1) := by decide +kernel
theorem dX2_init_0 : decode cX2_init 0 = .ok (.aload_n 0, 1) := by decide +kernel
theorem dX2_init_1 : decode cX2_init 1 = .ok (.invokespecial 1, 3) := by decide +kernel
theorem dX2_init_4 : decode cX2_init 4 = .ok (.aload_n 0, 1) := by decide +kernel
theorem dX2_init_5 : decode cX2_init 5 = .ok (.bipush 120, 2) := by decide +kernel
theorem dX2_init_7 : decode cX2_init 7 = .ok (.newarray .int, 2) := by decide +kernel
theorem dX2_init_9 : decode cX2_init 9 = .ok (.putfield 9, 3) := by decide +kernel
theorem dX2_init_12 : decode cX2_init 12 = .ok (.return_, 1) := by decide +kernel
theorem dX2_length_0 : decode cX2_length 0 = .ok (.aload_n 0, 1) := by decide +kernel
theorem dX2_length_1 : decode cX2_length 1 = .ok (.getfield 13, 3) := by decide +kernel
theorem dX2_length_4 : decode cX2_length 4 = .ok (.ireturn, 1) := by decide +kernel
theorem dX2_room_0 : decode cX2_room 0 = .ok (.bipush 120, 2) := by decide +kernel
theorem dX2_room_2 : decode cX2_room 2 = .ok (.aload_n 0, 1) := by decide +kernel
theorem dX2_room_3 : decode cX2_room 3 = .ok (.getfield 13, 3) := by decide +kernel
theorem dX2_room_6 : decode cX2_room 6 = .ok (.isub, 1) := by decide +kernel
theorem dX2_room_7 : decode cX2_room 7 = .ok (.ireturn, 1) := by decide +kernel
theorem dX2_empty_0 : decode cX2_empty 0 = .ok (.aload_n 0, 1) := by decide +kernel
theorem dX2_empty_1 : decode cX2_empty 1 = .ok (.getfield 13, 3) := by decide +kernel
theorem dX2_empty_4 : decode cX2_empty 4 = .ok (.istore_n 1, 1) := by decide +kernel
theorem dX2_empty_5 : decode cX2_empty 5 = .ok (.aload_n 0, 1) := by decide +kernel
theorem dX2_empty_6 : decode cX2_empty 6 = .ok (.iconst 0, 1) := by decide +kernel
theorem dX2_empty_7 : decode cX2_empty 7 = .ok (.putfield 13, 3) := by decide +kernel
theorem dX2_empty_10 : decode cX2_empty 10 = .ok (.iload_n 1, 1) := by decide +kernel
theorem dX2_empty_11 : decode cX2_empty 11 = .ok (.ireturn, 1) := by decide +kernel
theorem dX2_add_0 : decode cX2_add 0 = .ok (.aload_n 0, 1) := by decide +kernel
theorem dX2_add_1 : decode cX2_add 1 = .ok (.getfield 13, 3) := by decide +kernel
theorem dX2_add_4 : decode cX2_add 4 = .ok (.bipush 120, 2) := by decide +kernel
theorem dX2_add_6 : decode cX2_add 6 = .ok (.if_icmp .ge 23, 3) := by decide +kernel
theorem dX2_add_9 : decode cX2_add 9 = .ok (.aload_n 0, 1) := by decide +kernel
theorem dX2_add_10 : decode cX2_add 10 = .ok (.getfield 9, 3) := by decide +kernel
theorem dX2_add_13 : decode cX2_add 13 = .ok (.aload_n 0, 1) := by decide +kernel
theorem dX2_add_14 : decode cX2_add 14 = .ok (.getfield 13, 3) := by decide +kernel
theorem dX2_add_17 : decode cX2_add 17 = .ok (.iload_n 1, 1) := by decide +kernel
theorem dX2_add_18 : decode cX2_add 18 = .ok (.iastore, 1) := by decide +kernel
theorem dX2_add_19 : decode cX2_add 19 = .ok (.aload_n 0, 1) := by decide +kernel
theorem dX2_add_20 : decode cX2_add 20 = .ok (.dup, 1) := by decide +kernel
theorem dX2_add_21 : decode cX2_add 21 = .ok (.getfield 13, 3) := by decide +kernel
theorem dX2_add_24 : decode cX2_add 24 = .ok (.iconst 1, 1) := by decide +kernel
theorem dX2_add_25 : decode cX2_add 25 = .ok (.iadd, 1) := by decide +kernel
theorem dX2_add_26 : decode cX2_add 26 = .ok (.putfield 13, 3) := by decide +kernel
theorem dX2_add_29 : decode cX2_add 29 = .ok (.return_, 1) := by decide +kernel
theorem dX2_readText_0 : decode cX2_readText 0 = .ok (.aload_n 0, 1) := by decide +kernel
theorem dX2_readText_1 : decode cX2_readText 1 = .ok (.iconst 0, 1) := by decide +kernel
theorem dX2_readText_2 : decode cX2_readText 2 = .ok (.putfield 17, 3) := by decide +kernel
theorem dX2_readText_5 : decode cX2_readText 5 = .ok (.aload_n 0, 1) := by decide +kernel
theorem dX2_readText_6 : decode cX2_readText 6 = .ok (.invokevirtual 20, 3) := by decide +kernel
theorem dX2_readText_9 : decode cX2_readText 9 = .ok (.iconst 0, 1) := by decide +kernel
theorem dX2_readText_10 : decode cX2_readText 10 = .ok (.istore_n 2, 1) := by decide +kernel
theorem dX2_readText_11 : decode cX2_readText 11 = .ok (.iload_n 2, 1) := by decide +kernel
theorem dX2_readText_12 : decode cX2_readText 12 = .ok (.bipush 120, 2) := by decide +kernel
theorem dX2_readText_14 : decode cX2_readText 14 = .ok (.if_icmp .ge 41, 3) := by decide +kernel
theorem dX2_readText_17 : decode cX2_readText 17 = .ok (.aload_n 0, 1) := by decide +kernel
theorem dX2_readText_18 : decode cX2_readText 18 = .ok (.aload_n 1, 1) := by decide +kernel
theorem dX2_readText_19 : decode cX2_readText 19 = .ok (.invokevirtual 23, 3) := by decide +kernel
theorem dX2_readText_22 : decode cX2_readText 22 = .ok (.ifCond .eq 33, 3) := by decide +kernel
theorem dX2_readText_25 : decode cX2_readText 25 = .ok (.iinc 2 1, 3) := by decide +kernel
theorem dX2_readText_28 : decode cX2_readText 28 = .ok (.aload_n 0, 1) := by decide +kernel
theorem dX2_readText_29 : decode cX2_readText 29 = .ok (.getfield 27, 3) := by decide +kernel
theorem dX2_readText_32 : decode cX2_readText 32 = .ok (.ifCond .ne 5, 3) := by decide +kernel
theorem dX2_readText_35 : decode cX2_readText 35 = .ok (.iload_n 2, 1) := by decide +kernel
theorem dX2_readText_36 : decode cX2_readText 36 = .ok (.ireturn, 1) := by decide +kernel
theorem dX2_readText_37 : decode cX2_readText 37 = .ok (.aload_n 0, 1) := by decide +kernel
theorem dX2_readText_38 : decode cX2_readText 38 = .ok (.getfield 27, 3) := by decide +kernel
theorem dX2_readText_41 : decode cX2_readText 41 = .ok (.iconst 3, 1) := by decide +kernel
theorem dX2_readText_42 : decode cX2_readText 42 = .ok (.if_icmp .eq 6, 3) := by decide +kernel
theorem dX2_readText_45 : decode cX2_readText 45 = .ok (.goto 10, 3) := by decide +kernel
theorem dX2_readText_48 : decode cX2_readText 48 = .ok (.aload_n 0, 1) := by decide +kernel
theorem dX2_readText_49 : decode cX2_readText 49 = .ok (.invokevirtual 20, 3) := by decide +kernel
theorem dX2_readText_52 : decode cX2_readText 52 = .ok (.goto (-41), 3) := by decide +kernel
theorem dX2_readText_55 : decode cX2_readText 55 = .ok (.iconst (-1), 1) := by decide +kernel
theorem dX2_readText_56 : decode cX2_readText 56 = .ok (.aload_n 0, 1) := by decide +kernel
theorem dX2_readText_57 : decode cX2_readText 57 = .ok (.getfield 30, 3) := by decide +kernel
theorem dX2_readText_60 : decode cX2_readText 60 = .ok (.isub, 1) := by decide +kernel
theorem dX2_readText_61 : decode cX2_readText 61 = .ok (.ireturn, 1) := by decide +kernel
theorem dX2_readItem_0 : decode cX2_readItem 0 = .ok (.aload_n 0, 1) := by decide +kernel
theorem dX2_readItem_1 : decode cX2_readItem 1 = .ok (.invokevirtual 33, 3) := by decide +kernel
theorem dX2_readItem_4 : decode cX2_readItem 4 = .ok (.istore_n 2, 1) := by decide +kernel
theorem dX2_readItem_5 : decode cX2_readItem 5 = .ok (.iload_n 2, 1) := by decide +kernel
theorem dX2_readItem_6 : decode cX2_readItem 6 = .ok (.iconst (-1), 1) := by decide +kernel
theorem dX2_readItem_7 : decode cX2_readItem 7 = .ok (.if_icmp .eq 10, 3) := by decide +kernel
theorem dX2_readItem_10 : decode cX2_readItem 10 = .ok (.aload_n 0, 1) := by decide +kernel
theorem dX2_readItem_11 : decode cX2_readItem 11 = .ok (.iload_n 2, 1) := by decide +kernel
theorem dX2_readItem_12 : decode cX2_readItem 12 = .ok (.aload_n 1, 1) := by decide +kernel
theorem dX2_readItem_13 : decode cX2_readItem 13 = .ok (.invokevirtual 39, 3) := by decide +kernel
theorem dX2_readItem_16 : decode cX2_readItem 16 = .ok (.ireturn, 1) := by decide +kernel
theorem dX2_readItem_17 : decode cX2_readItem 17 = .ok (.aload_n 0, 1) := by decide +kernel
theorem dX2_readItem_18 : decode cX2_readItem 18 = .ok (.ldc 43, 2) := by decide +kernel
theorem dX2_readItem_20 : decode cX2_readItem 20 = .ok (.invokevirtual 45, 3) := by decide +kernel
theorem dX2_readItem_23 : decode cX2_readItem 23 = .ok (.ifCond .eq 9, 3) := by decide +kernel
theorem dX2_readItem_26 : decode cX2_readItem 26 = .ok (.aload_n 0, 1) := by decide +kernel
theorem dX2_readItem_27 : decode cX2_readItem 27 = .ok (.aload_n 1, 1) := by decide +kernel
theorem dX2_readItem_28 : decode cX2_readItem 28 = .ok (.invokevirtual 49, 3) := by decide +kernel
theorem dX2_readItem_31 : decode cX2_readItem 31 = .ok (.ireturn, 1) := by decide +kernel
theorem dX2_readItem_32 : decode cX2_readItem 32 = .ok (.aload_n 0, 1) := by decide +kernel
theorem dX2_readItem_33 : decode cX2_readItem 33 = .ok (.ldc 52, 2) := by decide +kernel
theorem dX2_readItem_35 : decode cX2_readItem 35 = .ok (.invokevirtual 45, 3) := by decide +kernel
theorem dX2_readItem_38 : decode cX2_readItem 38 = .ok (.ifCond .eq 15, 3) := by decide +kernel
theorem dX2_readItem_41 : decode cX2_readItem 41 = .ok (.aload_n 0, 1) := by decide +kernel
theorem dX2_readItem_42 : decode cX2_readItem 42 = .ok (.aload_n 1, 1) := by decide +kernel
theorem dX2_readItem_43 : decode cX2_readItem 43 = .ok (.invokevirtual 54, 3) := by decide +kernel
theorem dX2_readItem_46 : decode cX2_readItem 46 = .ok (.ifCond .eq 7, 3) := by decide +kernel
theorem dX2_readItem_49 : decode cX2_readItem 49 = .ok (.iconst 1, 1) := by decide +kernel
theorem dX2_readItem_50 : decode cX2_readItem 50 = .ok (.goto 4, 3) := by decide +kernel
theorem dX2_readItem_53 : decode cX2_readItem 53 = .ok (.iconst 0, 1) := by decide +kernel
theorem dX2_readItem_54 : decode cX2_readItem 54 = .ok (.ireturn, 1) := by decide +kernel
theorem dX2_kindOfWord_0 : decode cX2_kindOfWord 0 = .ok (.aload_n 0, 1) := by decide +kernel
theorem dX2_kindOfWord_1 : decode cX2_kindOfWord 1 = .ok (.ldc 57, 2) := by decide +kernel
theorem dX2_kindOfWord_3 : decode cX2_kindOfWord 3 = .ok (.invokevirtual 45, 3) := by decide +kernel
theorem dX2_kindOfWord_6 : decode cX2_kindOfWord 6 = .ok (.ifCond .eq 5, 3) := by decide +kernel
theorem dX2_kindOfWord_9 : decode cX2_kindOfWord 9 = .ok (.iconst 0, 1) := by decide +kernel
theorem dX2_kindOfWord_10 : decode cX2_kindOfWord 10 = .ok (.ireturn, 1) := by decide +kernel
theorem dX2_kindOfWord_11 : decode cX2_kindOfWord 11 = .ok (.aload_n 0, 1) := by decide +kernel
theorem dX2_kindOfWord_12 : decode cX2_kindOfWord 12 = .ok (.ldc 59, 2) := by decide +kernel
theorem dX2_kindOfWord_14 : decode cX2_kindOfWord 14 = .ok (.invokevirtual 45, 3) := by decide +kernel
theorem dX2_kindOfWord_17 : decode cX2_kindOfWord 17 = .ok (.ifCond .eq 5, 3) := by decide +kernel
theorem dX2_kindOfWord_20 : decode cX2_kindOfWord 20 = .ok (.iconst 1, 1) := by decide +kernel
theorem dX2_kindOfWord_21 : decode cX2_kindOfWord 21 = .ok (.ireturn, 1) := by decide +kernel
theorem dX2_kindOfWord_22 : decode cX2_kindOfWord 22 = .ok (.aload_n 0, 1) := by decide +kernel
theorem dX2_kindOfWord_23 : decode cX2_kindOfWord 23 = .ok (.ldc 61, 2) := by decide +kernel
theorem dX2_kindOfWord_25 : decode cX2_kindOfWord 25 = .ok (.invokevirtual 45, 3) := by decide +kernel
theorem dX2_kindOfWord_28 : decode cX2_kindOfWord 28 = .ok (.ifCond .eq 5, 3) := by decide +kernel
theorem dX2_kindOfWord_31 : decode cX2_kindOfWord 31 = .ok (.iconst 2, 1) := by decide +kernel
theorem dX2_kindOfWord_32 : decode cX2_kindOfWord 32 = .ok (.ireturn, 1) := by decide +kernel
theorem dX2_kindOfWord_33 : decode cX2_kindOfWord 33 = .ok (.aload_n 0, 1) := by decide +kernel
theorem dX2_kindOfWord_34 : decode cX2_kindOfWord 34 = .ok (.ldc 63, 2) := by decide +kernel
theorem dX2_kindOfWord_36 : decode cX2_kindOfWord 36 = .ok (.invokevirtual 45, 3) := by decide +kernel
theorem dX2_kindOfWord_39 : decode cX2_kindOfWord 39 = .ok (.ifCond .eq 5, 3) := by decide +kernel
theorem dX2_kindOfWord_42 : decode cX2_kindOfWord 42 = .ok (.iconst 3, 1) := by decide +kernel
theorem dX2_kindOfWord_43 : decode cX2_kindOfWord 43 = .ok (.ireturn, 1) := by decide +kernel
theorem dX2_kindOfWord_44 : decode cX2_kindOfWord 44 = .ok (.aload_n 0, 1) := by decide +kernel
theorem dX2_kindOfWord_45 : decode cX2_kindOfWord 45 = .ok (.ldc 65, 2) := by decide +kernel
theorem dX2_kindOfWord_47 : decode cX2_kindOfWord 47 = .ok (.invokevirtual 45, 3) := by decide +kernel
theorem dX2_kindOfWord_50 : decode cX2_kindOfWord 50 = .ok (.ifCond .eq 5, 3) := by decide +kernel
theorem dX2_kindOfWord_53 : decode cX2_kindOfWord 53 = .ok (.iconst 4, 1) := by decide +kernel
theorem dX2_kindOfWord_54 : decode cX2_kindOfWord 54 = .ok (.ireturn, 1) := by decide +kernel
theorem dX2_kindOfWord_55 : decode cX2_kindOfWord 55 = .ok (.aload_n 0, 1) := by decide +kernel
theorem dX2_kindOfWord_56 : decode cX2_kindOfWord 56 = .ok (.ldc 67, 2) := by decide +kernel
theorem dX2_kindOfWord_58 : decode cX2_kindOfWord 58 = .ok (.invokevirtual 45, 3) := by decide +kernel
theorem dX2_kindOfWord_61 : decode cX2_kindOfWord 61 = .ok (.ifCond .eq 5, 3) := by decide +kernel
theorem dX2_kindOfWord_64 : decode cX2_kindOfWord 64 = .ok (.iconst 5, 1) := by decide +kernel
theorem dX2_kindOfWord_65 : decode cX2_kindOfWord 65 = .ok (.ireturn, 1) := by decide +kernel
theorem dX2_kindOfWord_66 : decode cX2_kindOfWord 66 = .ok (.aload_n 0, 1) := by decide +kernel
theorem dX2_kindOfWord_67 : decode cX2_kindOfWord 67 = .ok (.ldc 69, 2) := by decide +kernel
theorem dX2_kindOfWord_69 : decode cX2_kindOfWord 69 = .ok (.invokevirtual 45, 3) := by decide +kernel
theorem dX2_kindOfWord_72 : decode cX2_kindOfWord 72 = .ok (.ifCond .eq 8, 3) := by decide +kernel
theorem dX2_kindOfWord_75 : decode cX2_kindOfWord 75 = .ok (.bipush 6, 2) := by decide +kernel
theorem dX2_kindOfWord_77 : decode cX2_kindOfWord 77 = .ok (.goto 4, 3) := by decide +kernel
theorem dX2_kindOfWord_80 : decode cX2_kindOfWord 80 = .ok (.iconst (-1), 1) := by decide +kernel
theorem dX2_kindOfWord_81 : decode cX2_kindOfWord 81 = .ok (.ireturn, 1) := by decide +kernel
theorem dX2_readOne_0 : decode cX2_readOne 0 = .ok (.aload_n 2, 1) := by decide +kernel
theorem dX2_readOne_1 : decode cX2_readOne 1 = .ok (.invokevirtual 71, 3) := by decide +kernel
theorem dX2_readOne_4 : decode cX2_readOne 4 = .ok (.ifCond .eq 5, 3) := by decide +kernel
theorem dX2_readOne_7 : decode cX2_readOne 7 = .ok (.iconst 0, 1) := by decide +kernel
theorem dX2_readOne_8 : decode cX2_readOne 8 = .ok (.ireturn, 1) := by decide +kernel
theorem dX2_readOne_9 : decode cX2_readOne 9 = .ok (.aload_n 0, 1) := by decide +kernel
theorem dX2_readOne_10 : decode cX2_readOne 10 = .ok (.invokevirtual 20, 3) := by decide +kernel
theorem dX2_readOne_13 : decode cX2_readOne 13 = .ok (.iconst 0, 1) := by decide +kernel
theorem dX2_readOne_14 : decode cX2_readOne 14 = .ok (.istore_n 3, 1) := by decide +kernel
theorem dX2_readOne_15 : decode cX2_readOne 15 = .ok (.iconst 0, 1) := by decide +kernel
theorem dX2_readOne_16 : decode cX2_readOne 16 = .ok (.istore 4, 2) := by decide +kernel
theorem dX2_readOne_18 : decode cX2_readOne 18 = .ok (.aload_n 0, 1) := by decide +kernel
theorem dX2_readOne_19 : decode cX2_readOne 19 = .ok (.ldc 77, 2) := by decide +kernel
theorem dX2_readOne_21 : decode cX2_readOne 21 = .ok (.invokevirtual 45, 3) := by decide +kernel
theorem dX2_readOne_24 : decode cX2_readOne 24 = .ok (.ifCond .eq 27, 3) := by decide +kernel
theorem dX2_readOne_27 : decode cX2_readOne 27 = .ok (.aload_n 0, 1) := by decide +kernel
theorem dX2_readOne_28 : decode cX2_readOne 28 = .ok (.invokevirtual 20, 3) := by decide +kernel
theorem dX2_readOne_31 : decode cX2_readOne 31 = .ok (.aload_n 0, 1) := by decide +kernel
theorem dX2_readOne_32 : decode cX2_readOne 32 = .ok (.bipush 16, 2) := by decide +kernel
theorem dX2_readOne_34 : decode cX2_readOne 34 = .ok (.invokevirtual 79, 3) := by decide +kernel
theorem dX2_readOne_37 : decode cX2_readOne 37 = .ok (.ifCond .ne 5, 3) := by decide +kernel
theorem dX2_readOne_40 : decode cX2_readOne 40 = .ok (.iconst 0, 1) := by decide +kernel
theorem dX2_readOne_41 : decode cX2_readOne 41 = .ok (.ireturn, 1) := by decide +kernel
theorem dX2_readOne_42 : decode cX2_readOne 42 = .ok (.aload_n 0, 1) := by decide +kernel
theorem dX2_readOne_43 : decode cX2_readOne 43 = .ok (.getfield 83, 3) := by decide +kernel
theorem dX2_readOne_46 : decode cX2_readOne 46 = .ok (.istore_n 3, 1) := by decide +kernel
theorem dX2_readOne_47 : decode cX2_readOne 47 = .ok (.aload_n 0, 1) := by decide +kernel
theorem dX2_readOne_48 : decode cX2_readOne 48 = .ok (.invokevirtual 20, 3) := by decide +kernel
theorem dX2_readOne_51 : decode cX2_readOne 51 = .ok (.aload_n 0, 1) := by decide +kernel
theorem dX2_readOne_52 : decode cX2_readOne 52 = .ok (.ldc 86, 2) := by decide +kernel
theorem dX2_readOne_54 : decode cX2_readOne 54 = .ok (.invokevirtual 45, 3) := by decide +kernel
theorem dX2_readOne_57 : decode cX2_readOne 57 = .ok (.ifCond .eq 28, 3) := by decide +kernel
theorem dX2_readOne_60 : decode cX2_readOne 60 = .ok (.aload_n 0, 1) := by decide +kernel
theorem dX2_readOne_61 : decode cX2_readOne 61 = .ok (.invokevirtual 20, 3) := by decide +kernel
theorem dX2_readOne_64 : decode cX2_readOne 64 = .ok (.aload_n 0, 1) := by decide +kernel
theorem dX2_readOne_65 : decode cX2_readOne 65 = .ok (.bipush 12, 2) := by decide +kernel
theorem dX2_readOne_67 : decode cX2_readOne 67 = .ok (.invokevirtual 79, 3) := by decide +kernel
theorem dX2_readOne_70 : decode cX2_readOne 70 = .ok (.ifCond .ne 5, 3) := by decide +kernel
theorem dX2_readOne_73 : decode cX2_readOne 73 = .ok (.iconst 0, 1) := by decide +kernel
theorem dX2_readOne_74 : decode cX2_readOne 74 = .ok (.ireturn, 1) := by decide +kernel
theorem dX2_readOne_75 : decode cX2_readOne 75 = .ok (.aload_n 0, 1) := by decide +kernel
theorem dX2_readOne_76 : decode cX2_readOne 76 = .ok (.getfield 83, 3) := by decide +kernel
theorem dX2_readOne_79 : decode cX2_readOne 79 = .ok (.istore 4, 2) := by decide +kernel
theorem dX2_readOne_81 : decode cX2_readOne 81 = .ok (.aload_n 0, 1) := by decide +kernel
theorem dX2_readOne_82 : decode cX2_readOne 82 = .ok (.invokevirtual 20, 3) := by decide +kernel
theorem dX2_readOne_85 : decode cX2_readOne 85 = .ok (.aload_n 2, 1) := by decide +kernel
theorem dX2_readOne_86 : decode cX2_readOne 86 = .ok (.iload_n 1, 1) := by decide +kernel
theorem dX2_readOne_87 : decode cX2_readOne 87 = .ok (.iload_n 3, 1) := by decide +kernel
theorem dX2_readOne_88 : decode cX2_readOne 88 = .ok (.invokevirtual 88, 3) := by decide +kernel
theorem dX2_readOne_91 : decode cX2_readOne 91 = .ok (.istore 5, 2) := by decide +kernel
theorem dX2_readOne_93 : decode cX2_readOne 93 = .ok (.aload_n 2, 1) := by decide +kernel
theorem dX2_readOne_94 : decode cX2_readOne 94 = .ok (.iload 5, 2) := by decide +kernel
theorem dX2_readOne_96 : decode cX2_readOne 96 = .ok (.iconst 2, 1) := by decide +kernel
theorem dX2_readOne_97 : decode cX2_readOne 97 = .ok (.iload 4, 2) := by decide +kernel
theorem dX2_readOne_99 : decode cX2_readOne 99 = .ok (.invokevirtual 92, 3) := by decide +kernel
theorem dX2_readOne_102 : decode cX2_readOne 102 = .ok (.aload_n 0, 1) := by decide +kernel
theorem dX2_readOne_103 : decode cX2_readOne 103 = .ok (.ldc 96, 2) := by decide +kernel
theorem dX2_readOne_105 : decode cX2_readOne 105 = .ok (.invokevirtual 45, 3) := by decide +kernel
theorem dX2_readOne_108 : decode cX2_readOne 108 = .ok (.ifCond .eq 15, 3) := by decide +kernel
theorem dX2_readOne_111 : decode cX2_readOne 111 = .ok (.aload_n 2, 1) := by decide +kernel
theorem dX2_readOne_112 : decode cX2_readOne 112 = .ok (.iload 5, 2) := by decide +kernel
theorem dX2_readOne_114 : decode cX2_readOne 114 = .ok (.iconst 5, 1) := by decide +kernel
theorem dX2_readOne_115 : decode cX2_readOne 115 = .ok (.iconst 1, 1) := by decide +kernel
theorem dX2_readOne_116 : decode cX2_readOne 116 = .ok (.invokevirtual 92, 3) := by decide +kernel
theorem dX2_readOne_119 : decode cX2_readOne 119 = .ok (.aload_n 0, 1) := by decide +kernel
theorem dX2_readOne_120 : decode cX2_readOne 120 = .ok (.invokevirtual 20, 3) := by decide +kernel
theorem dX2_readOne_123 : decode cX2_readOne 123 = .ok (.iconst 1, 1) := by decide +kernel
theorem dX2_readOne_124 : decode cX2_readOne 124 = .ok (.ireturn, 1) := by decide +kernel
theorem dX2_readMet_0 : decode cX2_readMet 0 = .ok (.aload_n 0, 1) := by decide +kernel
theorem dX2_readMet_1 : decode cX2_readMet 1 = .ok (.invokevirtual 20, 3) := by decide +kernel
theorem dX2_readMet_4 : decode cX2_readMet 4 = .ok (.aload_n 0, 1) := by decide +kernel
theorem dX2_readMet_5 : decode cX2_readMet 5 = .ok (.aload_n 1, 1) := by decide +kernel
theorem dX2_readMet_6 : decode cX2_readMet 6 = .ok (.getfield 98, 3) := by decide +kernel
theorem dX2_readMet_9 : decode cX2_readMet 9 = .ok (.invokevirtual 79, 3) := by decide +kernel
theorem dX2_readMet_12 : decode cX2_readMet 12 = .ok (.ifCond .ne 5, 3) := by decide +kernel
theorem dX2_readMet_15 : decode cX2_readMet 15 = .ok (.iconst 0, 1) := by decide +kernel
theorem dX2_readMet_16 : decode cX2_readMet 16 = .ok (.ireturn, 1) := by decide +kernel
theorem dX2_readMet_17 : decode cX2_readMet 17 = .ok (.aload_n 0, 1) := by decide +kernel
theorem dX2_readMet_18 : decode cX2_readMet 18 = .ok (.getfield 83, 3) := by decide +kernel
theorem dX2_readMet_21 : decode cX2_readMet 21 = .ok (.istore_n 2, 1) := by decide +kernel
theorem dX2_readMet_22 : decode cX2_readMet 22 = .ok (.aload_n 0, 1) := by decide +kernel
theorem dX2_readMet_23 : decode cX2_readMet 23 = .ok (.invokevirtual 20, 3) := by decide +kernel
theorem dX2_readMet_26 : decode cX2_readMet 26 = .ok (.aload_n 0, 1) := by decide +kernel
theorem dX2_readMet_27 : decode cX2_readMet 27 = .ok (.aload_n 1, 1) := by decide +kernel
theorem dX2_readMet_28 : decode cX2_readMet 28 = .ok (.getfield 98, 3) := by decide +kernel
theorem dX2_readMet_31 : decode cX2_readMet 31 = .ok (.invokevirtual 79, 3) := by decide +kernel
theorem dX2_readMet_34 : decode cX2_readMet 34 = .ok (.ifCond .eq 11, 3) := by decide +kernel
theorem dX2_readMet_37 : decode cX2_readMet 37 = .ok (.aload_n 0, 1) := by decide +kernel
theorem dX2_readMet_38 : decode cX2_readMet 38 = .ok (.getfield 83, 3) := by decide +kernel
theorem dX2_readMet_41 : decode cX2_readMet 41 = .ok (.iload_n 2, 1) := by decide +kernel
theorem dX2_readMet_42 : decode cX2_readMet 42 = .ok (.if_icmp .ne 5, 3) := by decide +kernel
theorem dX2_readMet_45 : decode cX2_readMet 45 = .ok (.iconst 0, 1) := by decide +kernel
theorem dX2_readMet_46 : decode cX2_readMet 46 = .ok (.ireturn, 1) := by decide +kernel
theorem dX2_readMet_47 : decode cX2_readMet 47 = .ok (.aload_n 1, 1) := by decide +kernel
theorem dX2_readMet_48 : decode cX2_readMet 48 = .ok (.iload_n 2, 1) := by decide +kernel
theorem dX2_readMet_49 : decode cX2_readMet 49 = .ok (.aload_n 0, 1) := by decide +kernel
theorem dX2_readMet_50 : decode cX2_readMet 50 = .ok (.getfield 83, 3) := by decide +kernel
theorem dX2_readMet_53 : decode cX2_readMet 53 = .ok (.invokevirtual 101, 3) := by decide +kernel
theorem dX2_readMet_56 : decode cX2_readMet 56 = .ok (.aload_n 0, 1) := by decide +kernel
theorem dX2_readMet_57 : decode cX2_readMet 57 = .ok (.invokevirtual 20, 3) := by decide +kernel
theorem dX2_readMet_60 : decode cX2_readMet 60 = .ok (.iconst 1, 1) := by decide +kernel
theorem dX2_readMet_61 : decode cX2_readMet 61 = .ok (.ireturn, 1) := by decide +kernel
theorem dX2_readBell_0 : decode cX2_readBell 0 = .ok (.aload_n 0, 1) := by decide +kernel
theorem dX2_readBell_1 : decode cX2_readBell 1 = .ok (.invokevirtual 20, 3) := by decide +kernel
theorem dX2_readBell_4 : decode cX2_readBell 4 = .ok (.aload_n 0, 1) := by decide +kernel
theorem dX2_readBell_5 : decode cX2_readBell 5 = .ok (.bipush 12, 2) := by decide +kernel
theorem dX2_readBell_7 : decode cX2_readBell 7 = .ok (.invokevirtual 79, 3) := by decide +kernel
theorem dX2_readBell_10 : decode cX2_readBell 10 = .ok (.ifCond .ne 5, 3) := by decide +kernel
theorem dX2_readBell_13 : decode cX2_readBell 13 = .ok (.iconst 0, 1) := by decide +kernel
theorem dX2_readBell_14 : decode cX2_readBell 14 = .ok (.ireturn, 1) := by decide +kernel
theorem dX2_readBell_15 : decode cX2_readBell 15 = .ok (.aload_n 1, 1) := by decide +kernel
theorem dX2_readBell_16 : decode cX2_readBell 16 = .ok (.aload_n 0, 1) := by decide +kernel
theorem dX2_readBell_17 : decode cX2_readBell 17 = .ok (.getfield 83, 3) := by decide +kernel
theorem dX2_readBell_20 : decode cX2_readBell 20 = .ok (.invokevirtual 105, 3) := by decide +kernel
theorem dX2_readBell_23 : decode cX2_readBell 23 = .ok (.aload_n 0, 1) := by decide +kernel
theorem dX2_readBell_24 : decode cX2_readBell 24 = .ok (.invokevirtual 20, 3) := by decide +kernel
theorem dX2_readBell_27 : decode cX2_readBell 27 = .ok (.iconst 1, 1) := by decide +kernel
theorem dX2_readBell_28 : decode cX2_readBell 28 = .ok (.ireturn, 1) := by decide +kernel
theorem dX2_isNumberBelow_0 : decode cX2_isNumberBelow 0 = .ok (.aload_n 0, 1) := by decide +kernel
theorem dX2_isNumberBelow_1 : decode cX2_isNumberBelow 1 = .ok (.getfield 27, 3) := by decide +kernel
theorem dX2_isNumberBelow_4 : decode cX2_isNumberBelow 4 = .ok (.iconst 2, 1) := by decide +kernel
theorem dX2_isNumberBelow_5 : decode cX2_isNumberBelow 5 = .ok (.if_icmp .ne 15, 3) := by decide +kernel
theorem dX2_isNumberBelow_8 : decode cX2_isNumberBelow 8 = .ok (.aload_n 0, 1) := by decide +kernel
theorem dX2_isNumberBelow_9 : decode cX2_isNumberBelow 9 = .ok (.getfield 83, 3) := by decide +kernel
theorem dX2_isNumberBelow_12 : decode cX2_isNumberBelow 12 = .ok (.iload_n 1, 1) := by decide +kernel
theorem dX2_isNumberBelow_13 : decode cX2_isNumberBelow 13 = .ok (.if_icmp .ge 7, 3) := by decide +kernel
theorem dX2_isNumberBelow_16 : decode cX2_isNumberBelow 16 = .ok (.iconst 1, 1) := by decide +kernel
theorem dX2_isNumberBelow_17 : decode cX2_isNumberBelow 17 = .ok (.goto 4, 3) := by decide +kernel
theorem dX2_isNumberBelow_20 : decode cX2_isNumberBelow 20 = .ok (.iconst 0, 1) := by decide +kernel
theorem dX2_isNumberBelow_21 : decode cX2_isNumberBelow 21 = .ok (.ireturn, 1) := by decide +kernel
theorem dX2_isWord_0 : decode cX2_isWord 0 = .ok (.aload_n 0, 1) := by decide +kernel
theorem dX2_isWord_1 : decode cX2_isWord 1 = .ok (.getfield 27, 3) := by decide +kernel
theorem dX2_isWord_4 : decode cX2_isWord 4 = .ok (.iconst 1, 1) := by decide +kernel
theorem dX2_isWord_5 : decode cX2_isWord 5 = .ok (.if_icmp .ne 19, 3) := by decide +kernel
theorem dX2_isWord_8 : decode cX2_isWord 8 = .ok (.aload_n 0, 1) := by decide +kernel
theorem dX2_isWord_9 : decode cX2_isWord 9 = .ok (.getfield 17, 3) := by decide +kernel
theorem dX2_isWord_12 : decode cX2_isWord 12 = .ok (.aload_n 0, 1) := by decide +kernel
theorem dX2_isWord_13 : decode cX2_isWord 13 = .ok (.getfield 30, 3) := by decide +kernel
theorem dX2_isWord_16 : decode cX2_isWord 16 = .ok (.isub, 1) := by decide +kernel
theorem dX2_isWord_17 : decode cX2_isWord 17 = .ok (.aload_n 1, 1) := by decide +kernel
theorem dX2_isWord_18 : decode cX2_isWord 18 = .ok (.invokevirtual 109, 3) := by decide +kernel
theorem dX2_isWord_21 : decode cX2_isWord 21 = .ok (.if_icmp .eq 5, 3) := by decide +kernel
theorem dX2_isWord_24 : decode cX2_isWord 24 = .ok (.iconst 0, 1) := by decide +kernel
theorem dX2_isWord_25 : decode cX2_isWord 25 = .ok (.ireturn, 1) := by decide +kernel
theorem dX2_isWord_26 : decode cX2_isWord 26 = .ok (.iconst 0, 1) := by decide +kernel
theorem dX2_isWord_27 : decode cX2_isWord 27 = .ok (.istore_n 2, 1) := by decide +kernel
theorem dX2_isWord_28 : decode cX2_isWord 28 = .ok (.iload_n 2, 1) := by decide +kernel
theorem dX2_isWord_29 : decode cX2_isWord 29 = .ok (.aload_n 1, 1) := by decide +kernel
theorem dX2_isWord_30 : decode cX2_isWord 30 = .ok (.invokevirtual 109, 3) := by decide +kernel
theorem dX2_isWord_33 : decode cX2_isWord 33 = .ok (.if_icmp .ge 30, 3) := by decide +kernel
theorem dX2_isWord_36 : decode cX2_isWord 36 = .ok (.aload_n 0, 1) := by decide +kernel
theorem dX2_isWord_37 : decode cX2_isWord 37 = .ok (.getfield 9, 3) := by decide +kernel
theorem dX2_isWord_40 : decode cX2_isWord 40 = .ok (.aload_n 0, 1) := by decide +kernel
theorem dX2_isWord_41 : decode cX2_isWord 41 = .ok (.getfield 30, 3) := by decide +kernel
theorem dX2_isWord_44 : decode cX2_isWord 44 = .ok (.iload_n 2, 1) := by decide +kernel
theorem dX2_isWord_45 : decode cX2_isWord 45 = .ok (.iadd, 1) := by decide +kernel
theorem dX2_isWord_46 : decode cX2_isWord 46 = .ok (.iaload, 1) := by decide +kernel
theorem dX2_isWord_47 : decode cX2_isWord 47 = .ok (.aload_n 1, 1) := by decide +kernel
theorem dX2_isWord_48 : decode cX2_isWord 48 = .ok (.iload_n 2, 1) := by decide +kernel
theorem dX2_isWord_49 : decode cX2_isWord 49 = .ok (.invokevirtual 113, 3) := by decide +kernel
theorem dX2_isWord_52 : decode cX2_isWord 52 = .ok (.if_icmp .eq 5, 3) := by decide +kernel
theorem dX2_isWord_55 : decode cX2_isWord 55 = .ok (.iconst 0, 1) := by decide +kernel
theorem dX2_isWord_56 : decode cX2_isWord 56 = .ok (.ireturn, 1) := by decide +kernel
theorem dX2_isWord_57 : decode cX2_isWord 57 = .ok (.iinc 2 1, 3) := by decide +kernel
theorem dX2_isWord_60 : decode cX2_isWord 60 = .ok (.goto (-32), 3) := by decide +kernel
theorem dX2_isWord_63 : decode cX2_isWord 63 = .ok (.iconst 1, 1) := by decide +kernel
theorem dX2_isWord_64 : decode cX2_isWord 64 = .ok (.ireturn, 1) := by decide +kernel
theorem dX2_nextToken_0 : decode cX2_nextToken 0 = .ok (.aload_n 0, 1) := by decide +kernel
theorem dX2_nextToken_1 : decode cX2_nextToken 1 = .ok (.aload_n 0, 1) := by decide +kernel
theorem dX2_nextToken_2 : decode cX2_nextToken 2 = .ok (.getfield 17, 3) := by decide +kernel
theorem dX2_nextToken_5 : decode cX2_nextToken 5 = .ok (.putfield 30, 3) := by decide +kernel
theorem dX2_nextToken_8 : decode cX2_nextToken 8 = .ok (.aload_n 0, 1) := by decide +kernel
theorem dX2_nextToken_9 : decode cX2_nextToken 9 = .ok (.getfield 30, 3) := by decide +kernel
theorem dX2_nextToken_12 : decode cX2_nextToken 12 = .ok (.aload_n 0, 1) := by decide +kernel
theorem dX2_nextToken_13 : decode cX2_nextToken 13 = .ok (.getfield 13, 3) := by decide +kernel
theorem dX2_nextToken_16 : decode cX2_nextToken 16 = .ok (.if_icmp .ge 30, 3) := by decide +kernel
theorem dX2_nextToken_19 : decode cX2_nextToken 19 = .ok (.aload_n 0, 1) := by decide +kernel
theorem dX2_nextToken_20 : decode cX2_nextToken 20 = .ok (.getfield 9, 3) := by decide +kernel
theorem dX2_nextToken_23 : decode cX2_nextToken 23 = .ok (.aload_n 0, 1) := by decide +kernel
theorem dX2_nextToken_24 : decode cX2_nextToken 24 = .ok (.getfield 30, 3) := by decide +kernel
theorem dX2_nextToken_27 : decode cX2_nextToken 27 = .ok (.iaload, 1) := by decide +kernel
theorem dX2_nextToken_28 : decode cX2_nextToken 28 = .ok (.bipush 32, 2) := by decide +kernel
theorem dX2_nextToken_30 : decode cX2_nextToken 30 = .ok (.if_icmp .ne 16, 3) := by decide +kernel
theorem dX2_nextToken_33 : decode cX2_nextToken 33 = .ok (.aload_n 0, 1) := by decide +kernel
theorem dX2_nextToken_34 : decode cX2_nextToken 34 = .ok (.dup, 1) := by decide +kernel
theorem dX2_nextToken_35 : decode cX2_nextToken 35 = .ok (.getfield 30, 3) := by decide +kernel
theorem dX2_nextToken_38 : decode cX2_nextToken 38 = .ok (.iconst 1, 1) := by decide +kernel
theorem dX2_nextToken_39 : decode cX2_nextToken 39 = .ok (.iadd, 1) := by decide +kernel
theorem dX2_nextToken_40 : decode cX2_nextToken 40 = .ok (.putfield 30, 3) := by decide +kernel
theorem dX2_nextToken_43 : decode cX2_nextToken 43 = .ok (.goto (-35), 3) := by decide +kernel
theorem dX2_nextToken_46 : decode cX2_nextToken 46 = .ok (.aload_n 0, 1) := by decide +kernel
theorem dX2_nextToken_47 : decode cX2_nextToken 47 = .ok (.aload_n 0, 1) := by decide +kernel
theorem dX2_nextToken_48 : decode cX2_nextToken 48 = .ok (.getfield 30, 3) := by decide +kernel
theorem dX2_nextToken_51 : decode cX2_nextToken 51 = .ok (.putfield 17, 3) := by decide +kernel
theorem dX2_nextToken_54 : decode cX2_nextToken 54 = .ok (.aload_n 0, 1) := by decide +kernel
theorem dX2_nextToken_55 : decode cX2_nextToken 55 = .ok (.getfield 30, 3) := by decide +kernel
theorem dX2_nextToken_58 : decode cX2_nextToken 58 = .ok (.aload_n 0, 1) := by decide +kernel
theorem dX2_nextToken_59 : decode cX2_nextToken 59 = .ok (.getfield 13, 3) := by decide +kernel
theorem dX2_nextToken_62 : decode cX2_nextToken 62 = .ok (.if_icmp .lt 11, 3) := by decide +kernel
theorem dX2_nextToken_65 : decode cX2_nextToken 65 = .ok (.aload_n 0, 1) := by decide +kernel
theorem dX2_nextToken_66 : decode cX2_nextToken 66 = .ok (.iconst 0, 1) := by decide +kernel
theorem dX2_nextToken_67 : decode cX2_nextToken 67 = .ok (.putfield 27, 3) := by decide +kernel
theorem dX2_nextToken_70 : decode cX2_nextToken 70 = .ok (.goto 90, 3) := by decide +kernel
theorem dX2_nextToken_73 : decode cX2_nextToken 73 = .ok (.aload_n 0, 1) := by decide +kernel
theorem dX2_nextToken_74 : decode cX2_nextToken 74 = .ok (.getfield 9, 3) := by decide +kernel
theorem dX2_nextToken_77 : decode cX2_nextToken 77 = .ok (.aload_n 0, 1) := by decide +kernel
theorem dX2_nextToken_78 : decode cX2_nextToken 78 = .ok (.getfield 30, 3) := by decide +kernel
theorem dX2_nextToken_81 : decode cX2_nextToken 81 = .ok (.iaload, 1) := by decide +kernel
theorem dX2_nextToken_82 : decode cX2_nextToken 82 = .ok (.invokestatic 117, 3) := by decide +kernel
theorem dX2_nextToken_85 : decode cX2_nextToken 85 = .ok (.ifCond .eq 15, 3) := by decide +kernel
theorem dX2_nextToken_88 : decode cX2_nextToken 88 = .ok (.aload_n 0, 1) := by decide +kernel
theorem dX2_nextToken_89 : decode cX2_nextToken 89 = .ok (.iconst 1, 1) := by decide +kernel
theorem dX2_nextToken_90 : decode cX2_nextToken 90 = .ok (.putfield 27, 3) := by decide +kernel
theorem dX2_nextToken_93 : decode cX2_nextToken 93 = .ok (.aload_n 0, 1) := by decide +kernel
theorem dX2_nextToken_94 : decode cX2_nextToken 94 = .ok (.invokevirtual 120, 3) := by decide +kernel
theorem dX2_nextToken_97 : decode cX2_nextToken 97 = .ok (.goto 63, 3) := by decide +kernel
theorem dX2_nextToken_100 : decode cX2_nextToken 100 = .ok (.aload_n 0, 1) := by decide +kernel
theorem dX2_nextToken_101 : decode cX2_nextToken 101 = .ok (.getfield 9, 3) := by decide +kernel
theorem dX2_nextToken_104 : decode cX2_nextToken 104 = .ok (.aload_n 0, 1) := by decide +kernel
theorem dX2_nextToken_105 : decode cX2_nextToken 105 = .ok (.getfield 30, 3) := by decide +kernel
theorem dX2_nextToken_108 : decode cX2_nextToken 108 = .ok (.iaload, 1) := by decide +kernel
theorem dX2_nextToken_109 : decode cX2_nextToken 109 = .ok (.invokestatic 123, 3) := by decide +kernel
theorem dX2_nextToken_112 : decode cX2_nextToken 112 = .ok (.ifCond .eq 15, 3) := by decide +kernel
theorem dX2_nextToken_115 : decode cX2_nextToken 115 = .ok (.aload_n 0, 1) := by decide +kernel
theorem dX2_nextToken_116 : decode cX2_nextToken 116 = .ok (.iconst 2, 1) := by decide +kernel
theorem dX2_nextToken_117 : decode cX2_nextToken 117 = .ok (.putfield 27, 3) := by decide +kernel
theorem dX2_nextToken_120 : decode cX2_nextToken 120 = .ok (.aload_n 0, 1) := by decide +kernel
theorem dX2_nextToken_121 : decode cX2_nextToken 121 = .ok (.invokevirtual 126, 3) := by decide +kernel
theorem dX2_nextToken_124 : decode cX2_nextToken 124 = .ok (.goto 36, 3) := by decide +kernel
theorem dX2_nextToken_127 : decode cX2_nextToken 127 = .ok (.aload_n 0, 1) := by decide +kernel
theorem dX2_nextToken_128 : decode cX2_nextToken 128 = .ok (.aload_n 0, 1) := by decide +kernel
theorem dX2_nextToken_129 : decode cX2_nextToken 129 = .ok (.getfield 9, 3) := by decide +kernel
theorem dX2_nextToken_132 : decode cX2_nextToken 132 = .ok (.aload_n 0, 1) := by decide +kernel
theorem dX2_nextToken_133 : decode cX2_nextToken 133 = .ok (.getfield 30, 3) := by decide +kernel
theorem dX2_nextToken_136 : decode cX2_nextToken 136 = .ok (.iaload, 1) := by decide +kernel
theorem dX2_nextToken_137 : decode cX2_nextToken 137 = .ok (.bipush 59, 2) := by decide +kernel
theorem dX2_nextToken_139 : decode cX2_nextToken 139 = .ok (.if_icmp .ne 7, 3) := by decide +kernel
theorem dX2_nextToken_142 : decode cX2_nextToken 142 = .ok (.iconst 3, 1) := by decide +kernel
theorem dX2_nextToken_143 : decode cX2_nextToken 143 = .ok (.goto 4, 3) := by decide +kernel
theorem dX2_nextToken_146 : decode cX2_nextToken 146 = .ok (.iconst 4, 1) := by decide +kernel
theorem dX2_nextToken_147 : decode cX2_nextToken 147 = .ok (.putfield 27, 3) := by decide +kernel
theorem dX2_nextToken_150 : decode cX2_nextToken 150 = .ok (.aload_n 0, 1) := by decide +kernel
theorem dX2_nextToken_151 : decode cX2_nextToken 151 = .ok (.aload_n 0, 1) := by decide +kernel
theorem dX2_nextToken_152 : decode cX2_nextToken 152 = .ok (.getfield 30, 3) := by decide +kernel
theorem dX2_nextToken_155 : decode cX2_nextToken 155 = .ok (.iconst 1, 1) := by decide +kernel
theorem dX2_nextToken_156 : decode cX2_nextToken 156 = .ok (.iadd, 1) := by decide +kernel
theorem dX2_nextToken_157 : decode cX2_nextToken 157 = .ok (.putfield 17, 3) := by decide +kernel
theorem dX2_nextToken_160 : decode cX2_nextToken 160 = .ok (.return_, 1) := by decide +kernel
theorem dX2_passWord_0 : decode cX2_passWord 0 = .ok (.aload_n 0, 1) := by decide +kernel
theorem dX2_passWord_1 : decode cX2_passWord 1 = .ok (.getfield 17, 3) := by decide +kernel
theorem dX2_passWord_4 : decode cX2_passWord 4 = .ok (.aload_n 0, 1) := by decide +kernel
theorem dX2_passWord_5 : decode cX2_passWord 5 = .ok (.getfield 13, 3) := by decide +kernel
theorem dX2_passWord_8 : decode cX2_passWord 8 = .ok (.if_icmp .ge 31, 3) := by decide +kernel
theorem dX2_passWord_11 : decode cX2_passWord 11 = .ok (.aload_n 0, 1) := by decide +kernel
theorem dX2_passWord_12 : decode cX2_passWord 12 = .ok (.getfield 9, 3) := by decide +kernel
theorem dX2_passWord_15 : decode cX2_passWord 15 = .ok (.aload_n 0, 1) := by decide +kernel
theorem dX2_passWord_16 : decode cX2_passWord 16 = .ok (.getfield 17, 3) := by decide +kernel
theorem dX2_passWord_19 : decode cX2_passWord 19 = .ok (.iaload, 1) := by decide +kernel
theorem dX2_passWord_20 : decode cX2_passWord 20 = .ok (.invokestatic 117, 3) := by decide +kernel
theorem dX2_passWord_23 : decode cX2_passWord 23 = .ok (.ifCond .eq 16, 3) := by decide +kernel
theorem dX2_passWord_26 : decode cX2_passWord 26 = .ok (.aload_n 0, 1) := by decide +kernel
theorem dX2_passWord_27 : decode cX2_passWord 27 = .ok (.dup, 1) := by decide +kernel
theorem dX2_passWord_28 : decode cX2_passWord 28 = .ok (.getfield 17, 3) := by decide +kernel
theorem dX2_passWord_31 : decode cX2_passWord 31 = .ok (.iconst 1, 1) := by decide +kernel
theorem dX2_passWord_32 : decode cX2_passWord 32 = .ok (.iadd, 1) := by decide +kernel
theorem dX2_passWord_33 : decode cX2_passWord 33 = .ok (.putfield 17, 3) := by decide +kernel
theorem dX2_passWord_36 : decode cX2_passWord 36 = .ok (.goto (-36), 3) := by decide +kernel
theorem dX2_passWord_39 : decode cX2_passWord 39 = .ok (.return_, 1) := by decide +kernel
theorem dX2_passNumber_0 : decode cX2_passNumber 0 = .ok (.aload_n 0, 1) := by decide +kernel
theorem dX2_passNumber_1 : decode cX2_passNumber 1 = .ok (.iconst 0, 1) := by decide +kernel
theorem dX2_passNumber_2 : decode cX2_passNumber 2 = .ok (.putfield 83, 3) := by decide +kernel
theorem dX2_passNumber_5 : decode cX2_passNumber 5 = .ok (.aload_n 0, 1) := by decide +kernel
theorem dX2_passNumber_6 : decode cX2_passNumber 6 = .ok (.getfield 17, 3) := by decide +kernel
theorem dX2_passNumber_9 : decode cX2_passNumber 9 = .ok (.aload_n 0, 1) := by decide +kernel
theorem dX2_passNumber_10 : decode cX2_passNumber 10 = .ok (.getfield 13, 3) := by decide +kernel
theorem dX2_passNumber_13 : decode cX2_passNumber 13 = .ok (.if_icmp .ge 61, 3) := by decide +kernel
theorem dX2_passNumber_16 : decode cX2_passNumber 16 = .ok (.aload_n 0, 1) := by decide +kernel
theorem dX2_passNumber_17 : decode cX2_passNumber 17 = .ok (.getfield 9, 3) := by decide +kernel
theorem dX2_passNumber_20 : decode cX2_passNumber 20 = .ok (.aload_n 0, 1) := by decide +kernel
theorem dX2_passNumber_21 : decode cX2_passNumber 21 = .ok (.getfield 17, 3) := by decide +kernel
theorem dX2_passNumber_24 : decode cX2_passNumber 24 = .ok (.iaload, 1) := by decide +kernel
theorem dX2_passNumber_25 : decode cX2_passNumber 25 = .ok (.invokestatic 123, 3) := by decide +kernel
theorem dX2_passNumber_28 : decode cX2_passNumber 28 = .ok (.ifCond .eq 46, 3) := by decide +kernel
theorem dX2_passNumber_31 : decode cX2_passNumber 31 = .ok (.aload_n 0, 1) := by decide +kernel
theorem dX2_passNumber_32 : decode cX2_passNumber 32 = .ok (.sipush 1000, 3) := by decide +kernel
theorem dX2_passNumber_35 : decode cX2_passNumber 35 = .ok (.aload_n 0, 1) := by decide +kernel
theorem dX2_passNumber_36 : decode cX2_passNumber 36 = .ok (.getfield 83, 3) := by decide +kernel
theorem dX2_passNumber_39 : decode cX2_passNumber 39 = .ok (.bipush 10, 2) := by decide +kernel
theorem dX2_passNumber_41 : decode cX2_passNumber 41 = .ok (.imul, 1) := by decide +kernel
theorem dX2_passNumber_42 : decode cX2_passNumber 42 = .ok (.aload_n 0, 1) := by decide +kernel
theorem dX2_passNumber_43 : decode cX2_passNumber 43 = .ok (.getfield 9, 3) := by decide +kernel
theorem dX2_passNumber_46 : decode cX2_passNumber 46 = .ok (.aload_n 0, 1) := by decide +kernel
theorem dX2_passNumber_47 : decode cX2_passNumber 47 = .ok (.getfield 17, 3) := by decide +kernel
theorem dX2_passNumber_50 : decode cX2_passNumber 50 = .ok (.iaload, 1) := by decide +kernel
theorem dX2_passNumber_51 : decode cX2_passNumber 51 = .ok (.iadd, 1) := by decide +kernel
theorem dX2_passNumber_52 : decode cX2_passNumber 52 = .ok (.bipush 48, 2) := by decide +kernel
theorem dX2_passNumber_54 : decode cX2_passNumber 54 = .ok (.isub, 1) := by decide +kernel
theorem dX2_passNumber_55 : decode cX2_passNumber 55 = .ok (.invokestatic 129, 3) := by decide +kernel
theorem dX2_passNumber_58 : decode cX2_passNumber 58 = .ok (.putfield 83, 3) := by decide +kernel
theorem dX2_passNumber_61 : decode cX2_passNumber 61 = .ok (.aload_n 0, 1) := by decide +kernel
theorem dX2_passNumber_62 : decode cX2_passNumber 62 = .ok (.dup, 1) := by decide +kernel
theorem dX2_passNumber_63 : decode cX2_passNumber 63 = .ok (.getfield 17, 3) := by decide +kernel
theorem dX2_passNumber_66 : decode cX2_passNumber 66 = .ok (.iconst 1, 1) := by decide +kernel
theorem dX2_passNumber_67 : decode cX2_passNumber 67 = .ok (.iadd, 1) := by decide +kernel
theorem dX2_passNumber_68 : decode cX2_passNumber 68 = .ok (.putfield 17, 3) := by decide +kernel
theorem dX2_passNumber_71 : decode cX2_passNumber 71 = .ok (.goto (-66), 3) := by decide +kernel
theorem dX2_passNumber_74 : decode cX2_passNumber 74 = .ok (.return_, 1) := by decide +kernel
theorem dX2_isLetter_0 : decode cX2_isLetter 0 = .ok (.iload_n 0, 1) := by decide +kernel
theorem dX2_isLetter_1 : decode cX2_isLetter 1 = .ok (.bipush 97, 2) := by decide +kernel
theorem dX2_isLetter_3 : decode cX2_isLetter 3 = .ok (.if_icmp .lt 13, 3) := by decide +kernel
theorem dX2_isLetter_6 : decode cX2_isLetter 6 = .ok (.iload_n 0, 1) := by decide +kernel
theorem dX2_isLetter_7 : decode cX2_isLetter 7 = .ok (.bipush 122, 2) := by decide +kernel
theorem dX2_isLetter_9 : decode cX2_isLetter 9 = .ok (.if_icmp .gt 7, 3) := by decide +kernel
theorem dX2_isLetter_12 : decode cX2_isLetter 12 = .ok (.iconst 1, 1) := by decide +kernel
theorem dX2_isLetter_13 : decode cX2_isLetter 13 = .ok (.goto 4, 3) := by decide +kernel
theorem dX2_isLetter_16 : decode cX2_isLetter 16 = .ok (.iconst 0, 1) := by decide +kernel
theorem dX2_isLetter_17 : decode cX2_isLetter 17 = .ok (.ireturn, 1) := by decide +kernel
theorem dX2_isDigit_0 : decode cX2_isDigit 0 = .ok (.iload_n 0, 1) := by decide +kernel
theorem dX2_isDigit_1 : decode cX2_isDigit 1 = .ok (.bipush 48, 2) := by decide +kernel
theorem dX2_isDigit_3 : decode cX2_isDigit 3 = .ok (.if_icmp .lt 13, 3) := by decide +kernel
theorem dX2_isDigit_6 : decode cX2_isDigit 6 = .ok (.iload_n 0, 1) := by decide +kernel
theorem dX2_isDigit_7 : decode cX2_isDigit 7 = .ok (.bipush 57, 2) := by decide +kernel
theorem dX2_isDigit_9 : decode cX2_isDigit 9 = .ok (.if_icmp .gt 7, 3) := by decide +kernel
theorem dX2_isDigit_12 : decode cX2_isDigit 12 = .ok (.iconst 1, 1) := by decide +kernel
theorem dX2_isDigit_13 : decode cX2_isDigit 13 = .ok (.goto 4, 3) := by decide +kernel
theorem dX2_isDigit_16 : decode cX2_isDigit 16 = .ok (.iconst 0, 1) := by decide +kernel
theorem dX2_isDigit_17 : decode cX2_isDigit 17 = .ok (.ireturn, 1) := by decide +kernel
theorem dX3_init_0 : decode cX3_init 0 = .ok (.aload_n 0, 1) := by decide +kernel
theorem dX3_init_1 : decode cX3_init 1 = .ok (.invokespecial 1, 3) := by decide +kernel
theorem dX3_init_4 : decode cX3_init 4 = .ok (.aload_n 0, 1) := by decide +kernel
theorem dX3_init_5 : decode cX3_init 5 = .ok (.iconst 1, 1) := by decide +kernel
theorem dX3_init_6 : decode cX3_init 6 = .ok (.putfield 7, 3) := by decide +kernel
theorem dX3_init_9 : decode cX3_init 9 = .ok (.aload_n 0, 1) := by decide +kernel
theorem dX3_init_10 : decode cX3_init 10 = .ok (.bipush 10, 2) := by decide +kernel
theorem dX3_init_12 : decode cX3_init 12 = .ok (.newarray .int, 2) := by decide +kernel
theorem dX3_init_14 : decode cX3_init 14 = .ok (.putfield 13, 3) := by decide +kernel
theorem dX3_init_17 : decode cX3_init 17 = .ok (.aload_n 0, 1) := by decide +kernel
theorem dX3_init_18 : decode cX3_init 18 = .ok (.bipush 8, 2) := by decide +kernel
theorem dX3_init_20 : decode cX3_init 20 = .ok (.newarray .int, 2) := by decide +kernel
theorem dX3_init_22 : decode cX3_init 22 = .ok (.putfield 17, 3) := by decide +kernel
theorem dX3_init_25 : decode cX3_init 25 = .ok (.aload_n 0, 1) := by decide +kernel
theorem dX3_init_26 : decode cX3_init 26 = .ok (.bipush 8, 2) := by decide +kernel
theorem dX3_init_28 : decode cX3_init 28 = .ok (.newarray .int, 2) := by decide +kernel
theorem dX3_init_30 : decode cX3_init 30 = .ok (.putfield 20, 3) := by decide +kernel
theorem dX3_init_33 : decode cX3_init 33 = .ok (.aload_n 0, 1) := by decide +kernel
theorem dX3_init_34 : decode cX3_init 34 = .ok (.bipush 8, 2) := by decide +kernel
theorem dX3_init_36 : decode cX3_init 36 = .ok (.newarray .int, 2) := by decide +kernel
theorem dX3_init_38 : decode cX3_init 38 = .ok (.putfield 23, 3) := by decide +kernel
theorem dX3_init_41 : decode cX3_init 41 = .ok (.aload_n 0, 1) := by decide +kernel
theorem dX3_init_42 : decode cX3_init 42 = .ok (.bipush 8, 2) := by decide +kernel
theorem dX3_init_44 : decode cX3_init 44 = .ok (.newarray .int, 2) := by decide +kernel
theorem dX3_init_46 : decode cX3_init 46 = .ok (.putfield 26, 3) := by decide +kernel
theorem dX3_init_49 : decode cX3_init 49 = .ok (.aload_n 0, 1) := by decide +kernel
theorem dX3_init_50 : decode cX3_init 50 = .ok (.bipush 8, 2) := by decide +kernel
theorem dX3_init_52 : decode cX3_init 52 = .ok (.newarray .int, 2) := by decide +kernel
theorem dX3_init_54 : decode cX3_init 54 = .ok (.putfield 29, 3) := by decide +kernel
theorem dX3_init_57 : decode cX3_init 57 = .ok (.aload_n 0, 1) := by decide +kernel
theorem dX3_init_58 : decode cX3_init 58 = .ok (.bipush 8, 2) := by decide +kernel
theorem dX3_init_60 : decode cX3_init 60 = .ok (.newarray .int, 2) := by decide +kernel
theorem dX3_init_62 : decode cX3_init 62 = .ok (.putfield 32, 3) := by decide +kernel
theorem dX3_init_65 : decode cX3_init 65 = .ok (.aload_n 0, 1) := by decide +kernel
theorem dX3_init_66 : decode cX3_init 66 = .ok (.bipush 8, 2) := by decide +kernel
theorem dX3_init_68 : decode cX3_init 68 = .ok (.newarray .int, 2) := by decide +kernel
theorem dX3_init_70 : decode cX3_init 70 = .ok (.putfield 35, 3) := by decide +kernel
theorem dX3_init_73 : decode cX3_init 73 = .ok (.aload_n 0, 1) := by decide +kernel
theorem dX3_init_74 : decode cX3_init 74 = .ok (.getfield 13, 3) := by decide +kernel
theorem dX3_init_77 : decode cX3_init 77 = .ok (.iconst (-1), 1) := by decide +kernel
theorem dX3_init_78 : decode cX3_init 78 = .ok (.invokestatic 38, 3) := by decide +kernel
theorem dX3_init_81 : decode cX3_init 81 = .ok (.return_, 1) := by decide +kernel
theorem dX3_become_0 : decode cX3_become 0 = .ok (.aload_n 0, 1) := by decide +kernel
theorem dX3_become_1 : decode cX3_become 1 = .ok (.aload_n 1, 1) := by decide +kernel
theorem dX3_become_2 : decode cX3_become 2 = .ok (.getfield 44, 3) := by decide +kernel
theorem dX3_become_5 : decode cX3_become 5 = .ok (.putfield 44, 3) := by decide +kernel
theorem dX3_become_8 : decode cX3_become 8 = .ok (.aload_n 0, 1) := by decide +kernel
theorem dX3_become_9 : decode cX3_become 9 = .ok (.aload_n 1, 1) := by decide +kernel
theorem dX3_become_10 : decode cX3_become 10 = .ok (.getfield 47, 3) := by decide +kernel
theorem dX3_become_13 : decode cX3_become 13 = .ok (.putfield 47, 3) := by decide +kernel
theorem dX3_become_16 : decode cX3_become 16 = .ok (.aload_n 0, 1) := by decide +kernel
theorem dX3_become_17 : decode cX3_become 17 = .ok (.aload_n 1, 1) := by decide +kernel
theorem dX3_become_18 : decode cX3_become 18 = .ok (.getfield 50, 3) := by decide +kernel
theorem dX3_become_21 : decode cX3_become 21 = .ok (.putfield 50, 3) := by decide +kernel
theorem dX3_become_24 : decode cX3_become 24 = .ok (.aload_n 0, 1) := by decide +kernel
theorem dX3_become_25 : decode cX3_become 25 = .ok (.aload_n 1, 1) := by decide +kernel
theorem dX3_become_26 : decode cX3_become 26 = .ok (.getfield 7, 3) := by decide +kernel
theorem dX3_become_29 : decode cX3_become 29 = .ok (.putfield 7, 3) := by decide +kernel
theorem dX3_become_32 : decode cX3_become 32 = .ok (.aload_n 1, 1) := by decide +kernel
theorem dX3_become_33 : decode cX3_become 33 = .ok (.getfield 13, 3) := by decide +kernel
theorem dX3_become_36 : decode cX3_become 36 = .ok (.iconst 0, 1) := by decide +kernel
theorem dX3_become_37 : decode cX3_become 37 = .ok (.aload_n 0, 1) := by decide +kernel
theorem dX3_become_38 : decode cX3_become 38 = .ok (.getfield 13, 3) := by decide +kernel
theorem dX3_become_41 : decode cX3_become 41 = .ok (.iconst 0, 1) := by decide +kernel
theorem dX3_become_42 : decode cX3_become 42 = .ok (.bipush 10, 2) := by decide +kernel
theorem dX3_become_44 : decode cX3_become 44 = .ok (.invokestatic 53, 3) := by decide +kernel
theorem dX3_become_47 : decode cX3_become 47 = .ok (.aload_n 1, 1) := by decide +kernel
theorem dX3_become_48 : decode cX3_become 48 = .ok (.getfield 17, 3) := by decide +kernel
theorem dX3_become_51 : decode cX3_become 51 = .ok (.iconst 0, 1) := by decide +kernel
theorem dX3_become_52 : decode cX3_become 52 = .ok (.aload_n 0, 1) := by decide +kernel
theorem dX3_become_53 : decode cX3_become 53 = .ok (.getfield 17, 3) := by decide +kernel
theorem dX3_become_56 : decode cX3_become 56 = .ok (.iconst 0, 1) := by decide +kernel
theorem dX3_become_57 : decode cX3_become 57 = .ok (.bipush 8, 2) := by decide +kernel
theorem dX3_become_59 : decode cX3_become 59 = .ok (.invokestatic 53, 3) := by decide +kernel
theorem dX3_become_62 : decode cX3_become 62 = .ok (.aload_n 1, 1) := by decide +kernel
theorem dX3_become_63 : decode cX3_become 63 = .ok (.getfield 20, 3) := by decide +kernel
theorem dX3_become_66 : decode cX3_become 66 = .ok (.iconst 0, 1) := by decide +kernel
theorem dX3_become_67 : decode cX3_become 67 = .ok (.aload_n 0, 1) := by decide +kernel
theorem dX3_become_68 : decode cX3_become 68 = .ok (.getfield 20, 3) := by decide +kernel
theorem dX3_become_71 : decode cX3_become 71 = .ok (.iconst 0, 1) := by decide +kernel
theorem dX3_become_72 : decode cX3_become 72 = .ok (.bipush 8, 2) := by decide +kernel
theorem dX3_become_74 : decode cX3_become 74 = .ok (.invokestatic 53, 3) := by decide +kernel
theorem dX3_become_77 : decode cX3_become 77 = .ok (.aload_n 1, 1) := by decide +kernel
theorem dX3_become_78 : decode cX3_become 78 = .ok (.getfield 23, 3) := by decide +kernel
theorem dX3_become_81 : decode cX3_become 81 = .ok (.iconst 0, 1) := by decide +kernel
theorem dX3_become_82 : decode cX3_become 82 = .ok (.aload_n 0, 1) := by decide +kernel
theorem dX3_become_83 : decode cX3_become 83 = .ok (.getfield 23, 3) := by decide +kernel
theorem dX3_become_86 : decode cX3_become 86 = .ok (.iconst 0, 1) := by decide +kernel
theorem dX3_become_87 : decode cX3_become 87 = .ok (.bipush 8, 2) := by decide +kernel
theorem dX3_become_89 : decode cX3_become 89 = .ok (.invokestatic 53, 3) := by decide +kernel
theorem dX3_become_92 : decode cX3_become 92 = .ok (.aload_n 1, 1) := by decide +kernel
theorem dX3_become_93 : decode cX3_become 93 = .ok (.getfield 26, 3) := by decide +kernel
theorem dX3_become_96 : decode cX3_become 96 = .ok (.iconst 0, 1) := by decide +kernel
theorem dX3_become_97 : decode cX3_become 97 = .ok (.aload_n 0, 1) := by decide +kernel
theorem dX3_become_98 : decode cX3_become 98 = .ok (.getfield 26, 3) := by decide +kernel
theorem dX3_become_101 : decode cX3_become 101 = .ok (.iconst 0, 1) := by decide +kernel
theorem dX3_become_102 : decode cX3_become 102 = .ok (.bipush 8, 2) := by decide +kernel
theorem dX3_become_104 : decode cX3_become 104 = .ok (.invokestatic 53, 3) := by decide +kernel
theorem dX3_become_107 : decode cX3_become 107 = .ok (.aload_n 1, 1) := by decide +kernel
theorem dX3_become_108 : decode cX3_become 108 = .ok (.getfield 29, 3) := by decide +kernel
theorem dX3_become_111 : decode cX3_become 111 = .ok (.iconst 0, 1) := by decide +kernel
theorem dX3_become_112 : decode cX3_become 112 = .ok (.aload_n 0, 1) := by decide +kernel
theorem dX3_become_113 : decode cX3_become 113 = .ok (.getfield 29, 3) := by decide +kernel
theorem dX3_become_116 : decode cX3_become 116 = .ok (.iconst 0, 1) := by decide +kernel
theorem dX3_become_117 : decode cX3_become 117 = .ok (.bipush 8, 2) := by decide +kernel
theorem dX3_become_119 : decode cX3_become 119 = .ok (.invokestatic 53, 3) := by decide +kernel
theorem dX3_become_122 : decode cX3_become 122 = .ok (.aload_n 1, 1) := by decide +kernel
theorem dX3_become_123 : decode cX3_become 123 = .ok (.getfield 32, 3) := by decide +kernel
theorem dX3_become_126 : decode cX3_become 126 = .ok (.iconst 0, 1) := by decide +kernel
theorem dX3_become_127 : decode cX3_become 127 = .ok (.aload_n 0, 1) := by decide +kernel
theorem dX3_become_128 : decode cX3_become 128 = .ok (.getfield 32, 3) := by decide +kernel
theorem dX3_become_131 : decode cX3_become 131 = .ok (.iconst 0, 1) := by decide +kernel
theorem dX3_become_132 : decode cX3_become 132 = .ok (.bipush 8, 2) := by decide +kernel
theorem dX3_become_134 : decode cX3_become 134 = .ok (.invokestatic 53, 3) := by decide +kernel
theorem dX3_become_137 : decode cX3_become 137 = .ok (.aload_n 1, 1) := by decide +kernel
theorem dX3_become_138 : decode cX3_become 138 = .ok (.getfield 35, 3) := by decide +kernel
theorem dX3_become_141 : decode cX3_become 141 = .ok (.iconst 0, 1) := by decide +kernel
theorem dX3_become_142 : decode cX3_become 142 = .ok (.aload_n 0, 1) := by decide +kernel
theorem dX3_become_143 : decode cX3_become 143 = .ok (.getfield 35, 3) := by decide +kernel
theorem dX3_become_146 : decode cX3_become 146 = .ok (.iconst 0, 1) := by decide +kernel
theorem dX3_become_147 : decode cX3_become 147 = .ok (.bipush 8, 2) := by decide +kernel
theorem dX3_become_149 : decode cX3_become 149 = .ok (.invokestatic 53, 3) := by decide +kernel
theorem dX3_become_152 : decode cX3_become 152 = .ok (.return_, 1) := by decide +kernel
theorem dX3_isTheDay_0 : decode cX3_isTheDay 0 = .ok (.iload_n 0, 1) := by decide +kernel
theorem dX3_isTheDay_1 : decode cX3_isTheDay 1 = .ok (.bipush 12, 2) := by decide +kernel
theorem dX3_isTheDay_3 : decode cX3_isTheDay 3 = .ok (.irem, 1) := by decide +kernel
theorem dX3_isTheDay_4 : decode cX3_isTheDay 4 = .ok (.bipush 11, 2) := by decide +kernel
theorem dX3_isTheDay_6 : decode cX3_isTheDay 6 = .ok (.if_icmp .ne 7, 3) := by decide +kernel
theorem dX3_isTheDay_9 : decode cX3_isTheDay 9 = .ok (.iconst 1, 1) := by decide +kernel
theorem dX3_isTheDay_10 : decode cX3_isTheDay 10 = .ok (.goto 4, 3) := by decide +kernel
theorem dX3_isTheDay_13 : decode cX3_isTheDay 13 = .ok (.iconst 0, 1) := by decide +kernel
theorem dX3_isTheDay_14 : decode cX3_isTheDay 14 = .ok (.ireturn, 1) := by decide +kernel
theorem dX3_isThere_0 : decode cX3_isThere 0 = .ok (.iload_n 1, 1) := by decide +kernel
theorem dX3_isThere_1 : decode cX3_isThere 1 = .ok (.ifCond .lt 15, 3) := by decide +kernel
theorem dX3_isThere_4 : decode cX3_isThere 4 = .ok (.iload_n 1, 1) := by decide +kernel
theorem dX3_isThere_5 : decode cX3_isThere 5 = .ok (.aload_n 0, 1) := by decide +kernel
theorem dX3_isThere_6 : decode cX3_isThere 6 = .ok (.getfield 44, 3) := by decide +kernel
theorem dX3_isThere_9 : decode cX3_isThere 9 = .ok (.if_icmp .ge 7, 3) := by decide +kernel
theorem dX3_isThere_12 : decode cX3_isThere 12 = .ok (.iconst 1, 1) := by decide +kernel
theorem dX3_isThere_13 : decode cX3_isThere 13 = .ok (.goto 4, 3) := by decide +kernel
theorem dX3_isThere_16 : decode cX3_isThere 16 = .ok (.iconst 0, 1) := by decide +kernel
theorem dX3_isThere_17 : decode cX3_isThere 17 = .ok (.ireturn, 1) := by decide +kernel
theorem dX3_areTwo_0 : decode cX3_areTwo 0 = .ok (.aload_n 0, 1) := by decide +kernel
theorem dX3_areTwo_1 : decode cX3_areTwo 1 = .ok (.iload_n 1, 1) := by decide +kernel
theorem dX3_areTwo_2 : decode cX3_areTwo 2 = .ok (.invokevirtual 59, 3) := by decide +kernel
theorem dX3_areTwo_5 : decode cX3_areTwo 5 = .ok (.ifCond .eq 20, 3) := by decide +kernel
theorem dX3_areTwo_8 : decode cX3_areTwo 8 = .ok (.aload_n 0, 1) := by decide +kernel
theorem dX3_areTwo_9 : decode cX3_areTwo 9 = .ok (.iload_n 2, 1) := by decide +kernel
theorem dX3_areTwo_10 : decode cX3_areTwo 10 = .ok (.invokevirtual 59, 3) := by decide +kernel
theorem dX3_areTwo_13 : decode cX3_areTwo 13 = .ok (.ifCond .eq 12, 3) := by decide +kernel
theorem dX3_areTwo_16 : decode cX3_areTwo 16 = .ok (.iload_n 1, 1) := by decide +kernel
theorem dX3_areTwo_17 : decode cX3_areTwo 17 = .ok (.iload_n 2, 1) := by decide +kernel
theorem dX3_areTwo_18 : decode cX3_areTwo 18 = .ok (.if_icmp .eq 7, 3) := by decide +kernel
theorem dX3_areTwo_21 : decode cX3_areTwo 21 = .ok (.iconst 1, 1) := by decide +kernel
theorem dX3_areTwo_22 : decode cX3_areTwo 22 = .ok (.goto 4, 3) := by decide +kernel
theorem dX3_areTwo_25 : decode cX3_areTwo 25 = .ok (.iconst 0, 1) := by decide +kernel
theorem dX3_areTwo_26 : decode cX3_areTwo 26 = .ok (.ireturn, 1) := by decide +kernel
theorem dX3_isFull_0 : decode cX3_isFull 0 = .ok (.aload_n 0, 1) := by decide +kernel
theorem dX3_isFull_1 : decode cX3_isFull 1 = .ok (.getfield 44, 3) := by decide +kernel
theorem dX3_isFull_4 : decode cX3_isFull 4 = .ok (.bipush 8, 2) := by decide +kernel
theorem dX3_isFull_6 : decode cX3_isFull 6 = .ok (.if_icmp .lt 7, 3) := by decide +kernel
theorem dX3_isFull_9 : decode cX3_isFull 9 = .ok (.iconst 1, 1) := by decide +kernel
theorem dX3_isFull_10 : decode cX3_isFull 10 = .ok (.goto 4, 3) := by decide +kernel
theorem dX3_isFull_13 : decode cX3_isFull 13 = .ok (.iconst 0, 1) := by decide +kernel
theorem dX3_isFull_14 : decode cX3_isFull 14 = .ok (.ireturn, 1) := by decide +kernel
theorem dX3_everybody_0 : decode cX3_everybody 0 = .ok (.iconst 1, 1) := by decide +kernel
theorem dX3_everybody_1 : decode cX3_everybody 1 = .ok (.aload_n 0, 1) := by decide +kernel
theorem dX3_everybody_2 : decode cX3_everybody 2 = .ok (.getfield 44, 3) := by decide +kernel
theorem dX3_everybody_5 : decode cX3_everybody 5 = .ok (.ishl, 1) := by decide +kernel
theorem dX3_everybody_6 : decode cX3_everybody 6 = .ok (.iconst 1, 1) := by decide +kernel
theorem dX3_everybody_7 : decode cX3_everybody 7 = .ok (.isub, 1) := by decide +kernel
theorem dX3_everybody_8 : decode cX3_everybody 8 = .ok (.ireturn, 1) := by decide +kernel
theorem dX3_add_0 : decode cX3_add 0 = .ok (.aload_n 0, 1) := by decide +kernel
theorem dX3_add_1 : decode cX3_add 1 = .ok (.invokevirtual 63, 3) := by decide +kernel
theorem dX3_add_4 : decode cX3_add 4 = .ok (.ifCond .eq 5, 3) := by decide +kernel
theorem dX3_add_7 : decode cX3_add 7 = .ok (.iconst (-1), 1) := by decide +kernel
theorem dX3_add_8 : decode cX3_add 8 = .ok (.ireturn, 1) := by decide +kernel
theorem dX3_add_9 : decode cX3_add 9 = .ok (.aload_n 0, 1) := by decide +kernel
theorem dX3_add_10 : decode cX3_add 10 = .ok (.getfield 44, 3) := by decide +kernel
theorem dX3_add_13 : decode cX3_add 13 = .ok (.istore_n 3, 1) := by decide +kernel
theorem dX3_add_14 : decode cX3_add 14 = .ok (.aload_n 0, 1) := by decide +kernel
theorem dX3_add_15 : decode cX3_add 15 = .ok (.dup, 1) := by decide +kernel
theorem dX3_add_16 : decode cX3_add 16 = .ok (.getfield 44, 3) := by decide +kernel
theorem dX3_add_19 : decode cX3_add 19 = .ok (.iconst 1, 1) := by decide +kernel
theorem dX3_add_20 : decode cX3_add 20 = .ok (.iadd, 1) := by decide +kernel
theorem dX3_add_21 : decode cX3_add 21 = .ok (.putfield 44, 3) := by decide +kernel
theorem dX3_add_24 : decode cX3_add 24 = .ok (.aload_n 0, 1) := by decide +kernel
theorem dX3_add_25 : decode cX3_add 25 = .ok (.iload_n 3, 1) := by decide +kernel
theorem dX3_add_26 : decode cX3_add 26 = .ok (.iconst 0, 1) := by decide +kernel
theorem dX3_add_27 : decode cX3_add 27 = .ok (.iload_n 1, 1) := by decide +kernel
theorem dX3_add_28 : decode cX3_add 28 = .ok (.invokevirtual 67, 3) := by decide +kernel
theorem dX3_add_31 : decode cX3_add 31 = .ok (.aload_n 0, 1) := by decide +kernel
theorem dX3_add_32 : decode cX3_add 32 = .ok (.iload_n 3, 1) := by decide +kernel
theorem dX3_add_33 : decode cX3_add 33 = .ok (.iconst 1, 1) := by decide +kernel
theorem dX3_add_34 : decode cX3_add 34 = .ok (.iload_n 2, 1) := by decide +kernel
theorem dX3_add_35 : decode cX3_add 35 = .ok (.invokevirtual 67, 3) := by decide +kernel
theorem dX3_add_38 : decode cX3_add 38 = .ok (.iload_n 3, 1) := by decide +kernel
theorem dX3_add_39 : decode cX3_add 39 = .ok (.ireturn, 1) := by decide +kernel
theorem dX3_trait_0 : decode cX3_trait 0 = .ok (.aload_n 0, 1) := by decide +kernel
theorem dX3_trait_1 : decode cX3_trait 1 = .ok (.iload_n 1, 1) := by decide +kernel
theorem dX3_trait_2 : decode cX3_trait 2 = .ok (.invokevirtual 59, 3) := by decide +kernel
theorem dX3_trait_5 : decode cX3_trait 5 = .ok (.ifCond .ne 5, 3) := by decide +kernel
theorem dX3_trait_8 : decode cX3_trait 8 = .ok (.iconst 0, 1) := by decide +kernel
theorem dX3_trait_9 : decode cX3_trait 9 = .ok (.ireturn, 1) := by decide +kernel
theorem dX3_trait_10 : decode cX3_trait 10 = .ok (.iload_n 2, 1) := by decide +kernel
theorem dX3_trait_11 : decode cX3_trait 11 = .ok (.tableswitch 140 0 9 #[53, 60, 67, 74, 81, 88, 95, 102, 116, 130], 53) := by decide +kernel
theorem dX3_trait_64 : decode cX3_trait 64 = .ok (.aload_n 0, 1) := by decide +kernel
theorem dX3_trait_65 : decode cX3_trait 65 = .ok (.getfield 17, 3) := by decide +kernel
theorem dX3_trait_68 : decode cX3_trait 68 = .ok (.iload_n 1, 1) := by decide +kernel
theorem dX3_trait_69 : decode cX3_trait 69 = .ok (.iaload, 1) := by decide +kernel
theorem dX3_trait_70 : decode cX3_trait 70 = .ok (.ireturn, 1) := by decide +kernel
theorem dX3_trait_71 : decode cX3_trait 71 = .ok (.aload_n 0, 1) := by decide +kernel
theorem dX3_trait_72 : decode cX3_trait 72 = .ok (.getfield 20, 3) := by decide +kernel
theorem dX3_trait_75 : decode cX3_trait 75 = .ok (.iload_n 1, 1) := by decide +kernel
theorem dX3_trait_76 : decode cX3_trait 76 = .ok (.iaload, 1) := by decide +kernel
theorem dX3_trait_77 : decode cX3_trait 77 = .ok (.ireturn, 1) := by decide +kernel
theorem dX3_trait_78 : decode cX3_trait 78 = .ok (.aload_n 0, 1) := by decide +kernel
theorem dX3_trait_79 : decode cX3_trait 79 = .ok (.getfield 23, 3) := by decide +kernel
theorem dX3_trait_82 : decode cX3_trait 82 = .ok (.iload_n 1, 1) := by decide +kernel
theorem dX3_trait_83 : decode cX3_trait 83 = .ok (.iaload, 1) := by decide +kernel
theorem dX3_trait_84 : decode cX3_trait 84 = .ok (.ireturn, 1) := by decide +kernel
theorem dX3_trait_85 : decode cX3_trait 85 = .ok (.aload_n 0, 1) := by decide +kernel
theorem dX3_trait_86 : decode cX3_trait 86 = .ok (.getfield 26, 3) := by decide +kernel
theorem dX3_trait_89 : decode cX3_trait 89 = .ok (.iload_n 1, 1) := by decide +kernel
theorem dX3_trait_90 : decode cX3_trait 90 = .ok (.iaload, 1) := by decide +kernel
theorem dX3_trait_91 : decode cX3_trait 91 = .ok (.ireturn, 1) := by decide +kernel
theorem dX3_trait_92 : decode cX3_trait 92 = .ok (.aload_n 0, 1) := by decide +kernel
theorem dX3_trait_93 : decode cX3_trait 93 = .ok (.getfield 29, 3) := by decide +kernel
theorem dX3_trait_96 : decode cX3_trait 96 = .ok (.iload_n 1, 1) := by decide +kernel
theorem dX3_trait_97 : decode cX3_trait 97 = .ok (.iaload, 1) := by decide +kernel
theorem dX3_trait_98 : decode cX3_trait 98 = .ok (.ireturn, 1) := by decide +kernel
theorem dX3_trait_99 : decode cX3_trait 99 = .ok (.aload_n 0, 1) := by decide +kernel
theorem dX3_trait_100 : decode cX3_trait 100 = .ok (.getfield 32, 3) := by decide +kernel
theorem dX3_trait_103 : decode cX3_trait 103 = .ok (.iload_n 1, 1) := by decide +kernel
theorem dX3_trait_104 : decode cX3_trait 104 = .ok (.iaload, 1) := by decide +kernel
theorem dX3_trait_105 : decode cX3_trait 105 = .ok (.ireturn, 1) := by decide +kernel
theorem dX3_trait_106 : decode cX3_trait 106 = .ok (.aload_n 0, 1) := by decide +kernel
theorem dX3_trait_107 : decode cX3_trait 107 = .ok (.getfield 35, 3) := by decide +kernel
theorem dX3_trait_110 : decode cX3_trait 110 = .ok (.iload_n 1, 1) := by decide +kernel
theorem dX3_trait_111 : decode cX3_trait 111 = .ok (.iaload, 1) := by decide +kernel
theorem dX3_trait_112 : decode cX3_trait 112 = .ok (.ireturn, 1) := by decide +kernel
theorem dX3_trait_113 : decode cX3_trait 113 = .ok (.aload_n 0, 1) := by decide +kernel
theorem dX3_trait_114 : decode cX3_trait 114 = .ok (.getfield 17, 3) := by decide +kernel
theorem dX3_trait_117 : decode cX3_trait 117 = .ok (.iload_n 1, 1) := by decide +kernel
theorem dX3_trait_118 : decode cX3_trait 118 = .ok (.iaload, 1) := by decide +kernel
theorem dX3_trait_119 : decode cX3_trait 119 = .ok (.aload_n 0, 1) := by decide +kernel
theorem dX3_trait_120 : decode cX3_trait 120 = .ok (.getfield 47, 3) := by decide +kernel
theorem dX3_trait_123 : decode cX3_trait 123 = .ok (.invokestatic 71, 3) := by decide +kernel
theorem dX3_trait_126 : decode cX3_trait 126 = .ok (.ireturn, 1) := by decide +kernel
theorem dX3_trait_127 : decode cX3_trait 127 = .ok (.aload_n 0, 1) := by decide +kernel
theorem dX3_trait_128 : decode cX3_trait 128 = .ok (.getfield 17, 3) := by decide +kernel
theorem dX3_trait_131 : decode cX3_trait 131 = .ok (.iload_n 1, 1) := by decide +kernel
theorem dX3_trait_132 : decode cX3_trait 132 = .ok (.iaload, 1) := by decide +kernel
theorem dX3_trait_133 : decode cX3_trait 133 = .ok (.aload_n 0, 1) := by decide +kernel
theorem dX3_trait_134 : decode cX3_trait 134 = .ok (.getfield 47, 3) := by decide +kernel
theorem dX3_trait_137 : decode cX3_trait 137 = .ok (.invokestatic 77, 3) := by decide +kernel
theorem dX3_trait_140 : decode cX3_trait 140 = .ok (.ireturn, 1) := by decide +kernel
theorem dX3_trait_141 : decode cX3_trait 141 = .ok (.aload_n 0, 1) := by decide +kernel
theorem dX3_trait_142 : decode cX3_trait 142 = .ok (.getfield 17, 3) := by decide +kernel
theorem dX3_trait_145 : decode cX3_trait 145 = .ok (.iload_n 1, 1) := by decide +kernel
theorem dX3_trait_146 : decode cX3_trait 146 = .ok (.iaload, 1) := by decide +kernel
theorem dX3_trait_147 : decode cX3_trait 147 = .ok (.invokestatic 80, 3) := by decide +kernel
theorem dX3_trait_150 : decode cX3_trait 150 = .ok (.ireturn, 1) := by decide +kernel
theorem dX3_trait_151 : decode cX3_trait 151 = .ok (.aload_n 0, 1) := by decide +kernel
theorem dX3_trait_152 : decode cX3_trait 152 = .ok (.getfield 17, 3) := by decide +kernel
theorem dX3_trait_155 : decode cX3_trait 155 = .ok (.iload_n 1, 1) := by decide +kernel
theorem dX3_trait_156 : decode cX3_trait 156 = .ok (.iaload, 1) := by decide +kernel
theorem dX3_trait_157 : decode cX3_trait 157 = .ok (.aload_n 0, 1) := by decide +kernel
theorem dX3_trait_158 : decode cX3_trait 158 = .ok (.getfield 29, 3) := by decide +kernel
theorem dX3_trait_161 : decode cX3_trait 161 = .ok (.iload_n 1, 1) := by decide +kernel
theorem dX3_trait_162 : decode cX3_trait 162 = .ok (.iaload, 1) := by decide +kernel
theorem dX3_trait_163 : decode cX3_trait 163 = .ok (.invokestatic 84, 3) := by decide +kernel
theorem dX3_trait_166 : decode cX3_trait 166 = .ok (.invokestatic 89, 3) := by decide +kernel
theorem dX3_trait_169 : decode cX3_trait 169 = .ok (.ireturn, 1) := by decide +kernel
theorem dX3_canBecome_0 : decode cX3_canBecome 0 = .ok (.iload_n 2, 1) := by decide +kernel
theorem dX3_canBecome_1 : decode cX3_canBecome 1 = .ok (.tableswitch 94 0 6 #[43, 50, 57, 64, 64, 71, 77], 43) := by decide +kernel
theorem dX3_canBecome_44 : decode cX3_canBecome 44 = .ok (.iload_n 3, 1) := by decide +kernel
theorem dX3_canBecome_45 : decode cX3_canBecome 45 = .ok (.bipush 7, 2) := by decide +kernel
theorem dX3_canBecome_47 : decode cX3_canBecome 47 = .ok (.invokestatic 92, 3) := by decide +kernel
theorem dX3_canBecome_50 : decode cX3_canBecome 50 = .ok (.ireturn, 1) := by decide +kernel
theorem dX3_canBecome_51 : decode cX3_canBecome 51 = .ok (.iload_n 3, 1) := by decide +kernel
theorem dX3_canBecome_52 : decode cX3_canBecome 52 = .ok (.bipush 16, 2) := by decide +kernel
theorem dX3_canBecome_54 : decode cX3_canBecome 54 = .ok (.invokestatic 92, 3) := by decide +kernel
theorem dX3_canBecome_57 : decode cX3_canBecome 57 = .ok (.ireturn, 1) := by decide +kernel
theorem dX3_canBecome_58 : decode cX3_canBecome 58 = .ok (.iload_n 3, 1) := by decide +kernel
theorem dX3_canBecome_59 : decode cX3_canBecome 59 = .ok (.bipush 12, 2) := by decide +kernel
theorem dX3_canBecome_61 : decode cX3_canBecome 61 = .ok (.invokestatic 92, 3) := by decide +kernel
theorem dX3_canBecome_64 : decode cX3_canBecome 64 = .ok (.ireturn, 1) := by decide +kernel
theorem dX3_canBecome_65 : decode cX3_canBecome 65 = .ok (.aload_n 0, 1) := by decide +kernel
theorem dX3_canBecome_66 : decode cX3_canBecome 66 = .ok (.iload_n 1, 1) := by decide +kernel
theorem dX3_canBecome_67 : decode cX3_canBecome 67 = .ok (.iload_n 3, 1) := by decide +kernel
theorem dX3_canBecome_68 : decode cX3_canBecome 68 = .ok (.invokevirtual 98, 3) := by decide +kernel
theorem dX3_canBecome_71 : decode cX3_canBecome 71 = .ok (.ireturn, 1) := by decide +kernel
theorem dX3_canBecome_72 : decode cX3_canBecome 72 = .ok (.iload_n 3, 1) := by decide +kernel
theorem dX3_canBecome_73 : decode cX3_canBecome 73 = .ok (.iconst 2, 1) := by decide +kernel
theorem dX3_canBecome_74 : decode cX3_canBecome 74 = .ok (.invokestatic 92, 3) := by decide +kernel
theorem dX3_canBecome_77 : decode cX3_canBecome 77 = .ok (.ireturn, 1) := by decide +kernel
theorem dX3_canBecome_78 : decode cX3_canBecome 78 = .ok (.iload_n 3, 1) := by decide +kernel
theorem dX3_canBecome_79 : decode cX3_canBecome 79 = .ok (.ifCond .lt 14, 3) := by decide +kernel
theorem dX3_canBecome_82 : decode cX3_canBecome 82 = .ok (.iload_n 3, 1) := by decide +kernel
theorem dX3_canBecome_83 : decode cX3_canBecome 83 = .ok (.sipush 9999, 3) := by decide +kernel
theorem dX3_canBecome_86 : decode cX3_canBecome 86 = .ok (.if_icmp .gt 7, 3) := by decide +kernel
theorem dX3_canBecome_89 : decode cX3_canBecome 89 = .ok (.iconst 1, 1) := by decide +kernel
theorem dX3_canBecome_90 : decode cX3_canBecome 90 = .ok (.goto 4, 3) := by decide +kernel
theorem dX3_canBecome_93 : decode cX3_canBecome 93 = .ok (.iconst 0, 1) := by decide +kernel
theorem dX3_canBecome_94 : decode cX3_canBecome 94 = .ok (.ireturn, 1) := by decide +kernel
theorem dX3_canBecome_95 : decode cX3_canBecome 95 = .ok (.iconst 0, 1) := by decide +kernel
theorem dX3_canBecome_96 : decode cX3_canBecome 96 = .ok (.ireturn, 1) := by decide +kernel
theorem dX3_isSetOfOthers_0 : decode cX3_isSetOfOthers 0 = .ok (.aload_n 0, 1) := by decide +kernel
theorem dX3_isSetOfOthers_1 : decode cX3_isSetOfOthers 1 = .ok (.invokevirtual 101, 3) := by decide +kernel
theorem dX3_isSetOfOthers_4 : decode cX3_isSetOfOthers 4 = .ok (.iconst 1, 1) := by decide +kernel
theorem dX3_isSetOfOthers_5 : decode cX3_isSetOfOthers 5 = .ok (.iload_n 1, 1) := by decide +kernel
theorem dX3_isSetOfOthers_6 : decode cX3_isSetOfOthers 6 = .ok (.ishl, 1) := by decide +kernel
theorem dX3_isSetOfOthers_7 : decode cX3_isSetOfOthers 7 = .ok (.iconst (-1), 1) := by decide +kernel
theorem dX3_isSetOfOthers_8 : decode cX3_isSetOfOthers 8 = .ok (.ixor, 1) := by decide +kernel
theorem dX3_isSetOfOthers_9 : decode cX3_isSetOfOthers 9 = .ok (.iand, 1) := by decide +kernel
theorem dX3_isSetOfOthers_10 : decode cX3_isSetOfOthers 10 = .ok (.istore_n 3, 1) := by decide +kernel
theorem dX3_isSetOfOthers_11 : decode cX3_isSetOfOthers 11 = .ok (.iload_n 2, 1) := by decide +kernel
theorem dX3_isSetOfOthers_12 : decode cX3_isSetOfOthers 12 = .ok (.iload_n 3, 1) := by decide +kernel
theorem dX3_isSetOfOthers_13 : decode cX3_isSetOfOthers 13 = .ok (.iconst (-1), 1) := by decide +kernel
theorem dX3_isSetOfOthers_14 : decode cX3_isSetOfOthers 14 = .ok (.ixor, 1) := by decide +kernel
theorem dX3_isSetOfOthers_15 : decode cX3_isSetOfOthers 15 = .ok (.iand, 1) := by decide +kernel
theorem dX3_isSetOfOthers_16 : decode cX3_isSetOfOthers 16 = .ok (.ifCond .ne 7, 3) := by decide +kernel
theorem dX3_isSetOfOthers_19 : decode cX3_isSetOfOthers 19 = .ok (.iconst 1, 1) := by decide +kernel
theorem dX3_isSetOfOthers_20 : decode cX3_isSetOfOthers 20 = .ok (.goto 4, 3) := by decide +kernel
theorem dX3_isSetOfOthers_23 : decode cX3_isSetOfOthers 23 = .ok (.iconst 0, 1) := by decide +kernel
theorem dX3_isSetOfOthers_24 : decode cX3_isSetOfOthers 24 = .ok (.ireturn, 1) := by decide +kernel
theorem dX3_put_0 : decode cX3_put 0 = .ok (.aload_n 0, 1) := by decide +kernel
theorem dX3_put_1 : decode cX3_put 1 = .ok (.iload_n 1, 1) := by decide +kernel
theorem dX3_put_2 : decode cX3_put 2 = .ok (.invokevirtual 59, 3) := by decide +kernel
theorem dX3_put_5 : decode cX3_put 5 = .ok (.ifCond .ne 4, 3) := by decide +kernel
theorem dX3_put_8 : decode cX3_put 8 = .ok (.return_, 1) := by decide +kernel
theorem dX3_put_9 : decode cX3_put 9 = .ok (.iload_n 2, 1) := by decide +kernel
theorem dX3_put_10 : decode cX3_put 10 = .ok (.tableswitch 112 0 6 #[42, 52, 62, 72, 82, 92, 102], 42) := by decide +kernel
theorem dX3_put_52 : decode cX3_put 52 = .ok (.aload_n 0, 1) := by decide +kernel
theorem dX3_put_53 : decode cX3_put 53 = .ok (.getfield 17, 3) := by decide +kernel
theorem dX3_put_56 : decode cX3_put 56 = .ok (.iload_n 1, 1) := by decide +kernel
theorem dX3_put_57 : decode cX3_put 57 = .ok (.iload_n 3, 1) := by decide +kernel
theorem dX3_put_58 : decode cX3_put 58 = .ok (.iastore, 1) := by decide +kernel
theorem dX3_put_59 : decode cX3_put 59 = .ok (.goto 63, 3) := by decide +kernel
theorem dX3_put_62 : decode cX3_put 62 = .ok (.aload_n 0, 1) := by decide +kernel
theorem dX3_put_63 : decode cX3_put 63 = .ok (.getfield 20, 3) := by decide +kernel
theorem dX3_put_66 : decode cX3_put 66 = .ok (.iload_n 1, 1) := by decide +kernel
theorem dX3_put_67 : decode cX3_put 67 = .ok (.iload_n 3, 1) := by decide +kernel
theorem dX3_put_68 : decode cX3_put 68 = .ok (.iastore, 1) := by decide +kernel
theorem dX3_put_69 : decode cX3_put 69 = .ok (.goto 53, 3) := by decide +kernel
theorem dX3_put_72 : decode cX3_put 72 = .ok (.aload_n 0, 1) := by decide +kernel
theorem dX3_put_73 : decode cX3_put 73 = .ok (.getfield 23, 3) := by decide +kernel
theorem dX3_put_76 : decode cX3_put 76 = .ok (.iload_n 1, 1) := by decide +kernel
theorem dX3_put_77 : decode cX3_put 77 = .ok (.iload_n 3, 1) := by decide +kernel
theorem dX3_put_78 : decode cX3_put 78 = .ok (.iastore, 1) := by decide +kernel
theorem dX3_put_79 : decode cX3_put 79 = .ok (.goto 43, 3) := by decide +kernel
theorem dX3_put_82 : decode cX3_put 82 = .ok (.aload_n 0, 1) := by decide +kernel
theorem dX3_put_83 : decode cX3_put 83 = .ok (.getfield 26, 3) := by decide +kernel
theorem dX3_put_86 : decode cX3_put 86 = .ok (.iload_n 1, 1) := by decide +kernel
theorem dX3_put_87 : decode cX3_put 87 = .ok (.iload_n 3, 1) := by decide +kernel
theorem dX3_put_88 : decode cX3_put 88 = .ok (.iastore, 1) := by decide +kernel
theorem dX3_put_89 : decode cX3_put 89 = .ok (.goto 33, 3) := by decide +kernel
theorem dX3_put_92 : decode cX3_put 92 = .ok (.aload_n 0, 1) := by decide +kernel
theorem dX3_put_93 : decode cX3_put 93 = .ok (.getfield 29, 3) := by decide +kernel
theorem dX3_put_96 : decode cX3_put 96 = .ok (.iload_n 1, 1) := by decide +kernel
theorem dX3_put_97 : decode cX3_put 97 = .ok (.iload_n 3, 1) := by decide +kernel
theorem dX3_put_98 : decode cX3_put 98 = .ok (.iastore, 1) := by decide +kernel
theorem dX3_put_99 : decode cX3_put 99 = .ok (.goto 23, 3) := by decide +kernel
theorem dX3_put_102 : decode cX3_put 102 = .ok (.aload_n 0, 1) := by decide +kernel
theorem dX3_put_103 : decode cX3_put 103 = .ok (.getfield 32, 3) := by decide +kernel
theorem dX3_put_106 : decode cX3_put 106 = .ok (.iload_n 1, 1) := by decide +kernel
theorem dX3_put_107 : decode cX3_put 107 = .ok (.iload_n 3, 1) := by decide +kernel
theorem dX3_put_108 : decode cX3_put 108 = .ok (.iastore, 1) := by decide +kernel
theorem dX3_put_109 : decode cX3_put 109 = .ok (.goto 13, 3) := by decide +kernel
theorem dX3_put_112 : decode cX3_put 112 = .ok (.aload_n 0, 1) := by decide +kernel
theorem dX3_put_113 : decode cX3_put 113 = .ok (.getfield 35, 3) := by decide +kernel
theorem dX3_put_116 : decode cX3_put 116 = .ok (.iload_n 1, 1) := by decide +kernel
theorem dX3_put_117 : decode cX3_put 117 = .ok (.iload_n 3, 1) := by decide +kernel
theorem dX3_put_118 : decode cX3_put 118 = .ok (.iastore, 1) := by decide +kernel
theorem dX3_put_119 : decode cX3_put 119 = .ok (.goto 3, 3) := by decide +kernel
theorem dX3_put_122 : decode cX3_put 122 = .ok (.return_, 1) := by decide +kernel
theorem dX3_putOut_0 : decode cX3_putOut 0 = .ok (.iconst 0, 1) := by decide +kernel
theorem dX3_putOut_1 : decode cX3_putOut 1 = .ok (.istore_n 2, 1) := by decide +kernel
theorem dX3_putOut_2 : decode cX3_putOut 2 = .ok (.iload_n 2, 1) := by decide +kernel
theorem dX3_putOut_3 : decode cX3_putOut 3 = .ok (.aload_n 0, 1) := by decide +kernel
theorem dX3_putOut_4 : decode cX3_putOut 4 = .ok (.getfield 44, 3) := by decide +kernel
theorem dX3_putOut_7 : decode cX3_putOut 7 = .ok (.if_icmp .ge 24, 3) := by decide +kernel
theorem dX3_putOut_10 : decode cX3_putOut 10 = .ok (.iload_n 1, 1) := by decide +kernel
theorem dX3_putOut_11 : decode cX3_putOut 11 = .ok (.iload_n 2, 1) := by decide +kernel
theorem dX3_putOut_12 : decode cX3_putOut 12 = .ok (.invokestatic 105, 3) := by decide +kernel
theorem dX3_putOut_15 : decode cX3_putOut 15 = .ok (.ifCond .eq 10, 3) := by decide +kernel
theorem dX3_putOut_18 : decode cX3_putOut 18 = .ok (.aload_n 0, 1) := by decide +kernel
theorem dX3_putOut_19 : decode cX3_putOut 19 = .ok (.getfield 32, 3) := by decide +kernel
theorem dX3_putOut_22 : decode cX3_putOut 22 = .ok (.iload_n 2, 1) := by decide +kernel
theorem dX3_putOut_23 : decode cX3_putOut 23 = .ok (.iconst 1, 1) := by decide +kernel
theorem dX3_putOut_24 : decode cX3_putOut 24 = .ok (.iastore, 1) := by decide +kernel
theorem dX3_putOut_25 : decode cX3_putOut 25 = .ok (.iinc 2 1, 3) := by decide +kernel
theorem dX3_putOut_28 : decode cX3_putOut 28 = .ok (.goto (-26), 3) := by decide +kernel
theorem dX3_putOut_31 : decode cX3_putOut 31 = .ok (.return_, 1) := by decide +kernel
theorem dX3_distance_0 : decode cX3_distance 0 = .ok (.aload_n 0, 1) := by decide +kernel
theorem dX3_distance_1 : decode cX3_distance 1 = .ok (.getfield 20, 3) := by decide +kernel
theorem dX3_distance_4 : decode cX3_distance 4 = .ok (.iload_n 1, 1) := by decide +kernel
theorem dX3_distance_5 : decode cX3_distance 5 = .ok (.iaload, 1) := by decide +kernel
theorem dX3_distance_6 : decode cX3_distance 6 = .ok (.aload_n 0, 1) := by decide +kernel
theorem dX3_distance_7 : decode cX3_distance 7 = .ok (.getfield 20, 3) := by decide +kernel
theorem dX3_distance_10 : decode cX3_distance 10 = .ok (.iload_n 2, 1) := by decide +kernel
theorem dX3_distance_11 : decode cX3_distance 11 = .ok (.iaload, 1) := by decide +kernel
theorem dX3_distance_12 : decode cX3_distance 12 = .ok (.isub, 1) := by decide +kernel
theorem dX3_distance_13 : decode cX3_distance 13 = .ok (.invokestatic 108, 3) := by decide +kernel
theorem dX3_distance_16 : decode cX3_distance 16 = .ok (.istore_n 3, 1) := by decide +kernel
theorem dX3_distance_17 : decode cX3_distance 17 = .ok (.iload_n 3, 1) := by decide +kernel
theorem dX3_distance_18 : decode cX3_distance 18 = .ok (.bipush 16, 2) := by decide +kernel
theorem dX3_distance_20 : decode cX3_distance 20 = .ok (.iload_n 3, 1) := by decide +kernel
theorem dX3_distance_21 : decode cX3_distance 21 = .ok (.isub, 1) := by decide +kernel
theorem dX3_distance_22 : decode cX3_distance 22 = .ok (.invokestatic 113, 3) := by decide +kernel
theorem dX3_distance_25 : decode cX3_distance 25 = .ok (.ireturn, 1) := by decide +kernel
theorem dX3_peopleAt_0 : decode cX3_peopleAt 0 = .ok (.iconst 0, 1) := by decide +kernel
theorem dX3_peopleAt_1 : decode cX3_peopleAt 1 = .ok (.istore_n 2, 1) := by decide +kernel
theorem dX3_peopleAt_2 : decode cX3_peopleAt 2 = .ok (.iconst 0, 1) := by decide +kernel
theorem dX3_peopleAt_3 : decode cX3_peopleAt 3 = .ok (.istore_n 3, 1) := by decide +kernel
theorem dX3_peopleAt_4 : decode cX3_peopleAt 4 = .ok (.iload_n 3, 1) := by decide +kernel
theorem dX3_peopleAt_5 : decode cX3_peopleAt 5 = .ok (.aload_n 0, 1) := by decide +kernel
theorem dX3_peopleAt_6 : decode cX3_peopleAt 6 = .ok (.getfield 44, 3) := by decide +kernel
theorem dX3_peopleAt_9 : decode cX3_peopleAt 9 = .ok (.if_icmp .ge 25, 3) := by decide +kernel
theorem dX3_peopleAt_12 : decode cX3_peopleAt 12 = .ok (.aload_n 0, 1) := by decide +kernel
theorem dX3_peopleAt_13 : decode cX3_peopleAt 13 = .ok (.getfield 20, 3) := by decide +kernel
theorem dX3_peopleAt_16 : decode cX3_peopleAt 16 = .ok (.iload_n 3, 1) := by decide +kernel
theorem dX3_peopleAt_17 : decode cX3_peopleAt 17 = .ok (.iaload, 1) := by decide +kernel
theorem dX3_peopleAt_18 : decode cX3_peopleAt 18 = .ok (.iload_n 1, 1) := by decide +kernel
theorem dX3_peopleAt_19 : decode cX3_peopleAt 19 = .ok (.if_icmp .ne 9, 3) := by decide +kernel
theorem dX3_peopleAt_22 : decode cX3_peopleAt 22 = .ok (.iload_n 2, 1) := by decide +kernel
theorem dX3_peopleAt_23 : decode cX3_peopleAt 23 = .ok (.iconst 1, 1) := by decide +kernel
theorem dX3_peopleAt_24 : decode cX3_peopleAt 24 = .ok (.iload_n 3, 1) := by decide +kernel
theorem dX3_peopleAt_25 : decode cX3_peopleAt 25 = .ok (.ishl, 1) := by decide +kernel
theorem dX3_peopleAt_26 : decode cX3_peopleAt 26 = .ok (.ior, 1) := by decide +kernel
theorem dX3_peopleAt_27 : decode cX3_peopleAt 27 = .ok (.istore_n 2, 1) := by decide +kernel
theorem dX3_peopleAt_28 : decode cX3_peopleAt 28 = .ok (.iinc 3 1, 3) := by decide +kernel
theorem dX3_peopleAt_31 : decode cX3_peopleAt 31 = .ok (.goto (-27), 3) := by decide +kernel
theorem dX3_peopleAt_34 : decode cX3_peopleAt 34 = .ok (.iload_n 2, 1) := by decide +kernel
theorem dX3_peopleAt_35 : decode cX3_peopleAt 35 = .ok (.ireturn, 1) := by decide +kernel
theorem dX3_mindsGuise_0 : decode cX3_mindsGuise 0 = .ok (.aload_n 0, 1) := by decide +kernel
theorem dX3_mindsGuise_1 : decode cX3_mindsGuise 1 = .ok (.getfield 17, 3) := by decide +kernel
theorem dX3_mindsGuise_4 : decode cX3_mindsGuise 4 = .ok (.iload_n 1, 1) := by decide +kernel
theorem dX3_mindsGuise_5 : decode cX3_mindsGuise 5 = .ok (.iaload, 1) := by decide +kernel
theorem dX3_mindsGuise_6 : decode cX3_mindsGuise 6 = .ok (.iload_n 2, 1) := by decide +kernel
theorem dX3_mindsGuise_7 : decode cX3_mindsGuise 7 = .ok (.aload_n 0, 1) := by decide +kernel
theorem dX3_mindsGuise_8 : decode cX3_mindsGuise 8 = .ok (.getfield 23, 3) := by decide +kernel
theorem dX3_mindsGuise_11 : decode cX3_mindsGuise 11 = .ok (.iload_n 1, 1) := by decide +kernel
theorem dX3_mindsGuise_12 : decode cX3_mindsGuise 12 = .ok (.iaload, 1) := by decide +kernel
theorem dX3_mindsGuise_13 : decode cX3_mindsGuise 13 = .ok (.aload_n 0, 1) := by decide +kernel
theorem dX3_mindsGuise_14 : decode cX3_mindsGuise 14 = .ok (.getfield 26, 3) := by decide +kernel
theorem dX3_mindsGuise_17 : decode cX3_mindsGuise 17 = .ok (.iload_n 1, 1) := by decide +kernel
theorem dX3_mindsGuise_18 : decode cX3_mindsGuise 18 = .ok (.iaload, 1) := by decide +kernel
theorem dX3_mindsGuise_19 : decode cX3_mindsGuise 19 = .ok (.ifCond .ne 7, 3) := by decide +kernel
theorem dX3_mindsGuise_22 : decode cX3_mindsGuise 22 = .ok (.iconst 1, 1) := by decide +kernel
theorem dX3_mindsGuise_23 : decode cX3_mindsGuise 23 = .ok (.goto 4, 3) := by decide +kernel
theorem dX3_mindsGuise_26 : decode cX3_mindsGuise 26 = .ok (.iconst 0, 1) := by decide +kernel
theorem dX3_mindsGuise_27 : decode cX3_mindsGuise 27 = .ok (.invokestatic 116, 3) := by decide +kernel
theorem dX3_mindsGuise_30 : decode cX3_mindsGuise 30 = .ok (.ireturn, 1) := by decide +kernel
theorem dX3_mindedGuises_0 : decode cX3_mindedGuises 0 = .ok (.iconst 0, 1) := by decide +kernel
theorem dX3_mindedGuises_1 : decode cX3_mindedGuises 1 = .ok (.istore_n 2, 1) := by decide +kernel
theorem dX3_mindedGuises_2 : decode cX3_mindedGuises 2 = .ok (.iconst 0, 1) := by decide +kernel
theorem dX3_mindedGuises_3 : decode cX3_mindedGuises 3 = .ok (.istore_n 3, 1) := by decide +kernel
theorem dX3_mindedGuises_4 : decode cX3_mindedGuises 4 = .ok (.iload_n 3, 1) := by decide +kernel
theorem dX3_mindedGuises_5 : decode cX3_mindedGuises 5 = .ok (.bipush 12, 2) := by decide +kernel
theorem dX3_mindedGuises_7 : decode cX3_mindedGuises 7 = .ok (.if_icmp .ge 21, 3) := by decide +kernel
theorem dX3_mindedGuises_10 : decode cX3_mindedGuises 10 = .ok (.aload_n 0, 1) := by decide +kernel
theorem dX3_mindedGuises_11 : decode cX3_mindedGuises 11 = .ok (.iload_n 1, 1) := by decide +kernel
theorem dX3_mindedGuises_12 : decode cX3_mindedGuises 12 = .ok (.iload_n 3, 1) := by decide +kernel
theorem dX3_mindedGuises_13 : decode cX3_mindedGuises 13 = .ok (.invokevirtual 120, 3) := by decide +kernel
theorem dX3_mindedGuises_16 : decode cX3_mindedGuises 16 = .ok (.ifCond .eq 6, 3) := by decide +kernel
theorem dX3_mindedGuises_19 : decode cX3_mindedGuises 19 = .ok (.iinc 2 1, 3) := by decide +kernel
theorem dX3_mindedGuises_22 : decode cX3_mindedGuises 22 = .ok (.iinc 3 1, 3) := by decide +kernel
theorem dX3_mindedGuises_25 : decode cX3_mindedGuises 25 = .ok (.goto (-21), 3) := by decide +kernel
theorem dX3_mindedGuises_28 : decode cX3_mindedGuises 28 = .ok (.iload_n 2, 1) := by decide +kernel
theorem dX3_mindedGuises_29 : decode cX3_mindedGuises 29 = .ok (.ireturn, 1) := by decide +kernel
theorem dX3_bothMet_0 : decode cX3_bothMet 0 = .ok (.aload_n 0, 1) := by decide +kernel
theorem dX3_bothMet_1 : decode cX3_bothMet 1 = .ok (.getfield 26, 3) := by decide +kernel
theorem dX3_bothMet_4 : decode cX3_bothMet 4 = .ok (.iload_n 1, 1) := by decide +kernel
theorem dX3_bothMet_5 : decode cX3_bothMet 5 = .ok (.iload_n 2, 1) := by decide +kernel
theorem dX3_bothMet_6 : decode cX3_bothMet 6 = .ok (.invokestatic 123, 3) := by decide +kernel
theorem dX3_bothMet_9 : decode cX3_bothMet 9 = .ok (.ireturn, 1) := by decide +kernel
theorem dX3_bothKnow_0 : decode cX3_bothKnow 0 = .ok (.aload_n 0, 1) := by decide +kernel
theorem dX3_bothKnow_1 : decode cX3_bothKnow 1 = .ok (.getfield 29, 3) := by decide +kernel
theorem dX3_bothKnow_4 : decode cX3_bothKnow 4 = .ok (.iload_n 1, 1) := by decide +kernel
theorem dX3_bothKnow_5 : decode cX3_bothKnow 5 = .ok (.iload_n 2, 1) := by decide +kernel
theorem dX3_bothKnow_6 : decode cX3_bothKnow 6 = .ok (.invokestatic 123, 3) := by decide +kernel
theorem dX3_bothKnow_9 : decode cX3_bothKnow 9 = .ok (.ireturn, 1) := by decide +kernel
theorem dX3_wouldSee_0 : decode cX3_wouldSee 0 = .ok (.aload_n 0, 1) := by decide +kernel
theorem dX3_wouldSee_1 : decode cX3_wouldSee 1 = .ok (.getfield 32, 3) := by decide +kernel
theorem dX3_wouldSee_4 : decode cX3_wouldSee 4 = .ok (.iload_n 1, 1) := by decide +kernel
theorem dX3_wouldSee_5 : decode cX3_wouldSee 5 = .ok (.iaload, 1) := by decide +kernel
theorem dX3_wouldSee_6 : decode cX3_wouldSee 6 = .ok (.ifCond .ne 46, 3) := by decide +kernel
theorem dX3_wouldSee_9 : decode cX3_wouldSee 9 = .ok (.aload_n 0, 1) := by decide +kernel
theorem dX3_wouldSee_10 : decode cX3_wouldSee 10 = .ok (.getfield 32, 3) := by decide +kernel
theorem dX3_wouldSee_13 : decode cX3_wouldSee 13 = .ok (.iload_n 2, 1) := by decide +kernel
theorem dX3_wouldSee_14 : decode cX3_wouldSee 14 = .ok (.iaload, 1) := by decide +kernel
theorem dX3_wouldSee_15 : decode cX3_wouldSee 15 = .ok (.ifCond .ne 37, 3) := by decide +kernel
theorem dX3_wouldSee_18 : decode cX3_wouldSee 18 = .ok (.aload_n 0, 1) := by decide +kernel
theorem dX3_wouldSee_19 : decode cX3_wouldSee 19 = .ok (.iload_n 1, 1) := by decide +kernel
theorem dX3_wouldSee_20 : decode cX3_wouldSee 20 = .ok (.iload_n 2, 1) := by decide +kernel
theorem dX3_wouldSee_21 : decode cX3_wouldSee 21 = .ok (.invokevirtual 127, 3) := by decide +kernel
theorem dX3_wouldSee_24 : decode cX3_wouldSee 24 = .ok (.aload_n 0, 1) := by decide +kernel
theorem dX3_wouldSee_25 : decode cX3_wouldSee 25 = .ok (.getfield 17, 3) := by decide +kernel
theorem dX3_wouldSee_28 : decode cX3_wouldSee 28 = .ok (.iload_n 1, 1) := by decide +kernel
theorem dX3_wouldSee_29 : decode cX3_wouldSee 29 = .ok (.iaload, 1) := by decide +kernel
theorem dX3_wouldSee_30 : decode cX3_wouldSee 30 = .ok (.invokestatic 80, 3) := by decide +kernel
theorem dX3_wouldSee_33 : decode cX3_wouldSee 33 = .ok (.aload_n 0, 1) := by decide +kernel
theorem dX3_wouldSee_34 : decode cX3_wouldSee 34 = .ok (.getfield 17, 3) := by decide +kernel
theorem dX3_wouldSee_37 : decode cX3_wouldSee 37 = .ok (.iload_n 2, 1) := by decide +kernel
theorem dX3_wouldSee_38 : decode cX3_wouldSee 38 = .ok (.iaload, 1) := by decide +kernel
theorem dX3_wouldSee_39 : decode cX3_wouldSee 39 = .ok (.invokestatic 80, 3) := by decide +kernel
theorem dX3_wouldSee_42 : decode cX3_wouldSee 42 = .ok (.invokestatic 113, 3) := by decide +kernel
theorem dX3_wouldSee_45 : decode cX3_wouldSee 45 = .ok (.if_icmp .gt 7, 3) := by decide +kernel
theorem dX3_wouldSee_48 : decode cX3_wouldSee 48 = .ok (.iconst 1, 1) := by decide +kernel
theorem dX3_wouldSee_49 : decode cX3_wouldSee 49 = .ok (.goto 4, 3) := by decide +kernel
theorem dX3_wouldSee_52 : decode cX3_wouldSee 52 = .ok (.iconst 0, 1) := by decide +kernel
theorem dX3_wouldSee_53 : decode cX3_wouldSee 53 = .ok (.ireturn, 1) := by decide +kernel
theorem dX3_knowers_0 : decode cX3_knowers 0 = .ok (.iconst 0, 1) := by decide +kernel
theorem dX3_knowers_1 : decode cX3_knowers 1 = .ok (.istore_n 1, 1) := by decide +kernel
theorem dX3_knowers_2 : decode cX3_knowers 2 = .ok (.iconst 0, 1) := by decide +kernel
theorem dX3_knowers_3 : decode cX3_knowers 3 = .ok (.istore_n 2, 1) := by decide +kernel
theorem dX3_knowers_4 : decode cX3_knowers 4 = .ok (.iload_n 2, 1) := by decide +kernel
theorem dX3_knowers_5 : decode cX3_knowers 5 = .ok (.aload_n 0, 1) := by decide +kernel
theorem dX3_knowers_6 : decode cX3_knowers 6 = .ok (.getfield 44, 3) := by decide +kernel
theorem dX3_knowers_9 : decode cX3_knowers 9 = .ok (.if_icmp .ge 24, 3) := by decide +kernel
theorem dX3_knowers_12 : decode cX3_knowers 12 = .ok (.aload_n 0, 1) := by decide +kernel
theorem dX3_knowers_13 : decode cX3_knowers 13 = .ok (.getfield 29, 3) := by decide +kernel
theorem dX3_knowers_16 : decode cX3_knowers 16 = .ok (.iload_n 2, 1) := by decide +kernel
theorem dX3_knowers_17 : decode cX3_knowers 17 = .ok (.iaload, 1) := by decide +kernel
theorem dX3_knowers_18 : decode cX3_knowers 18 = .ok (.ifCond .eq 9, 3) := by decide +kernel
theorem dX3_knowers_21 : decode cX3_knowers 21 = .ok (.iload_n 1, 1) := by decide +kernel
theorem dX3_knowers_22 : decode cX3_knowers 22 = .ok (.iconst 1, 1) := by decide +kernel
theorem dX3_knowers_23 : decode cX3_knowers 23 = .ok (.iload_n 2, 1) := by decide +kernel
theorem dX3_knowers_24 : decode cX3_knowers 24 = .ok (.ishl, 1) := by decide +kernel
theorem dX3_knowers_25 : decode cX3_knowers 25 = .ok (.ior, 1) := by decide +kernel
theorem dX3_knowers_26 : decode cX3_knowers 26 = .ok (.istore_n 1, 1) := by decide +kernel
theorem dX3_knowers_27 : decode cX3_knowers 27 = .ok (.iinc 2 1, 3) := by decide +kernel
theorem dX3_knowers_30 : decode cX3_knowers 30 = .ok (.goto (-26), 3) := by decide +kernel
theorem dX3_knowers_33 : decode cX3_knowers 33 = .ok (.iload_n 1, 1) := by decide +kernel
theorem dX3_knowers_34 : decode cX3_knowers 34 = .ok (.ireturn, 1) := by decide +kernel
theorem dX3_knowingPairs_0 : decode cX3_knowingPairs 0 = .ok (.aload_n 0, 1) := by decide +kernel
theorem dX3_knowingPairs_1 : decode cX3_knowingPairs 1 = .ok (.aload_n 0, 1) := by decide +kernel
theorem dX3_knowingPairs_2 : decode cX3_knowingPairs 2 = .ok (.getfield 29, 3) := by decide +kernel
theorem dX3_knowingPairs_5 : decode cX3_knowingPairs 5 = .ok (.invokevirtual 130, 3) := by decide +kernel
theorem dX3_knowingPairs_8 : decode cX3_knowingPairs 8 = .ok (.ireturn, 1) := by decide +kernel
theorem dX3_metPairs_0 : decode cX3_metPairs 0 = .ok (.aload_n 0, 1) := by decide +kernel
theorem dX3_metPairs_1 : decode cX3_metPairs 1 = .ok (.aload_n 0, 1) := by decide +kernel
theorem dX3_metPairs_2 : decode cX3_metPairs 2 = .ok (.getfield 26, 3) := by decide +kernel
theorem dX3_metPairs_5 : decode cX3_metPairs 5 = .ok (.invokevirtual 130, 3) := by decide +kernel
theorem dX3_metPairs_8 : decode cX3_metPairs 8 = .ok (.ireturn, 1) := by decide +kernel
theorem dX3_mutualPairs_0 : decode cX3_mutualPairs 0 = .ok (.iconst 0, 1) := by decide +kernel
theorem dX3_mutualPairs_1 : decode cX3_mutualPairs 1 = .ok (.istore_n 2, 1) := by decide +kernel
theorem dX3_mutualPairs_2 : decode cX3_mutualPairs 2 = .ok (.iconst 0, 1) := by decide +kernel
theorem dX3_mutualPairs_3 : decode cX3_mutualPairs 3 = .ok (.istore_n 3, 1) := by decide +kernel
theorem dX3_mutualPairs_4 : decode cX3_mutualPairs 4 = .ok (.iload_n 3, 1) := by decide +kernel
theorem dX3_mutualPairs_5 : decode cX3_mutualPairs 5 = .ok (.aload_n 0, 1) := by decide +kernel
theorem dX3_mutualPairs_6 : decode cX3_mutualPairs 6 = .ok (.getfield 44, 3) := by decide +kernel
theorem dX3_mutualPairs_9 : decode cX3_mutualPairs 9 = .ok (.if_icmp .ge 42, 3) := by decide +kernel
theorem dX3_mutualPairs_12 : decode cX3_mutualPairs 12 = .ok (.iload_n 3, 1) := by decide +kernel
theorem dX3_mutualPairs_13 : decode cX3_mutualPairs 13 = .ok (.iconst 1, 1) := by decide +kernel
theorem dX3_mutualPairs_14 : decode cX3_mutualPairs 14 = .ok (.iadd, 1) := by decide +kernel
theorem dX3_mutualPairs_15 : decode cX3_mutualPairs 15 = .ok (.istore 4, 2) := by decide +kernel
theorem dX3_mutualPairs_17 : decode cX3_mutualPairs 17 = .ok (.iload 4, 2) := by decide +kernel
theorem dX3_mutualPairs_19 : decode cX3_mutualPairs 19 = .ok (.aload_n 0, 1) := by decide +kernel
theorem dX3_mutualPairs_20 : decode cX3_mutualPairs 20 = .ok (.getfield 44, 3) := by decide +kernel
theorem dX3_mutualPairs_23 : decode cX3_mutualPairs 23 = .ok (.if_icmp .ge 22, 3) := by decide +kernel
theorem dX3_mutualPairs_26 : decode cX3_mutualPairs 26 = .ok (.aload_n 1, 1) := by decide +kernel
theorem dX3_mutualPairs_27 : decode cX3_mutualPairs 27 = .ok (.iload_n 3, 1) := by decide +kernel
theorem dX3_mutualPairs_28 : decode cX3_mutualPairs 28 = .ok (.iload 4, 2) := by decide +kernel
theorem dX3_mutualPairs_30 : decode cX3_mutualPairs 30 = .ok (.invokestatic 123, 3) := by decide +kernel
theorem dX3_mutualPairs_33 : decode cX3_mutualPairs 33 = .ok (.ifCond .eq 6, 3) := by decide +kernel
theorem dX3_mutualPairs_36 : decode cX3_mutualPairs 36 = .ok (.iinc 2 1, 3) := by decide +kernel
theorem dX3_mutualPairs_39 : decode cX3_mutualPairs 39 = .ok (.iinc 4 1, 3) := by decide +kernel
theorem dX3_mutualPairs_42 : decode cX3_mutualPairs 42 = .ok (.goto (-25), 3) := by decide +kernel
theorem dX3_mutualPairs_45 : decode cX3_mutualPairs 45 = .ok (.iinc 3 1, 3) := by decide +kernel
theorem dX3_mutualPairs_48 : decode cX3_mutualPairs 48 = .ok (.goto (-44), 3) := by decide +kernel
theorem dX3_mutualPairs_51 : decode cX3_mutualPairs 51 = .ok (.iload_n 2, 1) := by decide +kernel
theorem dX3_mutualPairs_52 : decode cX3_mutualPairs 52 = .ok (.ireturn, 1) := by decide +kernel
theorem dX3_isCircle_0 : decode cX3_isCircle 0 = .ok (.iload_n 2, 1) := by decide +kernel
theorem dX3_isCircle_1 : decode cX3_isCircle 1 = .ok (.ifCond .eq 10, 3) := by decide +kernel
theorem dX3_isCircle_4 : decode cX3_isCircle 4 = .ok (.aload_n 0, 1) := by decide +kernel
theorem dX3_isCircle_5 : decode cX3_isCircle 5 = .ok (.getfield 29, 3) := by decide +kernel
theorem dX3_isCircle_8 : decode cX3_isCircle 8 = .ok (.goto 7, 3) := by decide +kernel
theorem dX3_isCircle_11 : decode cX3_isCircle 11 = .ok (.aload_n 0, 1) := by decide +kernel
theorem dX3_isCircle_12 : decode cX3_isCircle 12 = .ok (.getfield 26, 3) := by decide +kernel
theorem dX3_isCircle_15 : decode cX3_isCircle 15 = .ok (.astore_n 3, 1) := by decide +kernel
theorem dX3_isCircle_16 : decode cX3_isCircle 16 = .ok (.iconst 0, 1) := by decide +kernel
theorem dX3_isCircle_17 : decode cX3_isCircle 17 = .ok (.istore 4, 2) := by decide +kernel
theorem dX3_isCircle_19 : decode cX3_isCircle 19 = .ok (.iload 4, 2) := by decide +kernel
theorem dX3_isCircle_21 : decode cX3_isCircle 21 = .ok (.aload_n 0, 1) := by decide +kernel
theorem dX3_isCircle_22 : decode cX3_isCircle 22 = .ok (.getfield 44, 3) := by decide +kernel
theorem dX3_isCircle_25 : decode cX3_isCircle 25 = .ok (.if_icmp .ge 36, 3) := by decide +kernel
theorem dX3_isCircle_28 : decode cX3_isCircle 28 = .ok (.iload_n 1, 1) := by decide +kernel
theorem dX3_isCircle_29 : decode cX3_isCircle 29 = .ok (.iload 4, 2) := by decide +kernel
theorem dX3_isCircle_31 : decode cX3_isCircle 31 = .ok (.invokestatic 105, 3) := by decide +kernel
theorem dX3_isCircle_34 : decode cX3_isCircle 34 = .ok (.ifCond .eq 21, 3) := by decide +kernel
theorem dX3_isCircle_37 : decode cX3_isCircle 37 = .ok (.iload_n 1, 1) := by decide +kernel
theorem dX3_isCircle_38 : decode cX3_isCircle 38 = .ok (.aload_n 3, 1) := by decide +kernel
theorem dX3_isCircle_39 : decode cX3_isCircle 39 = .ok (.iload 4, 2) := by decide +kernel
theorem dX3_isCircle_41 : decode cX3_isCircle 41 = .ok (.iaload, 1) := by decide +kernel
theorem dX3_isCircle_42 : decode cX3_isCircle 42 = .ok (.iconst 1, 1) := by decide +kernel
theorem dX3_isCircle_43 : decode cX3_isCircle 43 = .ok (.iload 4, 2) := by decide +kernel
theorem dX3_isCircle_45 : decode cX3_isCircle 45 = .ok (.ishl, 1) := by decide +kernel
theorem dX3_isCircle_46 : decode cX3_isCircle 46 = .ok (.ior, 1) := by decide +kernel
theorem dX3_isCircle_47 : decode cX3_isCircle 47 = .ok (.iconst (-1), 1) := by decide +kernel
theorem dX3_isCircle_48 : decode cX3_isCircle 48 = .ok (.ixor, 1) := by decide +kernel
theorem dX3_isCircle_49 : decode cX3_isCircle 49 = .ok (.iand, 1) := by decide +kernel
theorem dX3_isCircle_50 : decode cX3_isCircle 50 = .ok (.ifCond .eq 5, 3) := by decide +kernel
theorem dX3_isCircle_53 : decode cX3_isCircle 53 = .ok (.iconst 0, 1) := by decide +kernel
theorem dX3_isCircle_54 : decode cX3_isCircle 54 = .ok (.ireturn, 1) := by decide +kernel
theorem dX3_isCircle_55 : decode cX3_isCircle 55 = .ok (.iinc 4 1, 3) := by decide +kernel
theorem dX3_isCircle_58 : decode cX3_isCircle 58 = .ok (.goto (-39), 3) := by decide +kernel
theorem dX3_isCircle_61 : decode cX3_isCircle 61 = .ok (.iconst 1, 1) := by decide +kernel
theorem dX3_isCircle_62 : decode cX3_isCircle 62 = .ok (.ireturn, 1) := by decide +kernel
theorem dX3_wornGuises_0 : decode cX3_wornGuises 0 = .ok (.iconst 0, 1) := by decide +kernel
theorem dX3_wornGuises_1 : decode cX3_wornGuises 1 = .ok (.istore_n 1, 1) := by decide +kernel
theorem dX3_wornGuises_2 : decode cX3_wornGuises 2 = .ok (.iconst 0, 1) := by decide +kernel
theorem dX3_wornGuises_3 : decode cX3_wornGuises 3 = .ok (.istore_n 2, 1) := by decide +kernel
theorem dX3_wornGuises_4 : decode cX3_wornGuises 4 = .ok (.iload_n 2, 1) := by decide +kernel
theorem dX3_wornGuises_5 : decode cX3_wornGuises 5 = .ok (.aload_n 0, 1) := by decide +kernel
theorem dX3_wornGuises_6 : decode cX3_wornGuises 6 = .ok (.getfield 44, 3) := by decide +kernel
theorem dX3_wornGuises_9 : decode cX3_wornGuises 9 = .ok (.if_icmp .ge 20, 3) := by decide +kernel
theorem dX3_wornGuises_12 : decode cX3_wornGuises 12 = .ok (.iload_n 1, 1) := by decide +kernel
theorem dX3_wornGuises_13 : decode cX3_wornGuises 13 = .ok (.iconst 1, 1) := by decide +kernel
theorem dX3_wornGuises_14 : decode cX3_wornGuises 14 = .ok (.aload_n 0, 1) := by decide +kernel
theorem dX3_wornGuises_15 : decode cX3_wornGuises 15 = .ok (.getfield 23, 3) := by decide +kernel
theorem dX3_wornGuises_18 : decode cX3_wornGuises 18 = .ok (.iload_n 2, 1) := by decide +kernel
theorem dX3_wornGuises_19 : decode cX3_wornGuises 19 = .ok (.iaload, 1) := by decide +kernel
theorem dX3_wornGuises_20 : decode cX3_wornGuises 20 = .ok (.ishl, 1) := by decide +kernel
theorem dX3_wornGuises_21 : decode cX3_wornGuises 21 = .ok (.ior, 1) := by decide +kernel
theorem dX3_wornGuises_22 : decode cX3_wornGuises 22 = .ok (.istore_n 1, 1) := by decide +kernel
theorem dX3_wornGuises_23 : decode cX3_wornGuises 23 = .ok (.iinc 2 1, 3) := by decide +kernel
theorem dX3_wornGuises_26 : decode cX3_wornGuises 26 = .ok (.goto (-22), 3) := by decide +kernel
theorem dX3_wornGuises_29 : decode cX3_wornGuises 29 = .ok (.iload_n 1, 1) := by decide +kernel
theorem dX3_wornGuises_30 : decode cX3_wornGuises 30 = .ok (.ireturn, 1) := by decide +kernel
theorem dX3_passedInAll_0 : decode cX3_passedInAll 0 = .ok (.iconst 0, 1) := by decide +kernel
theorem dX3_passedInAll_1 : decode cX3_passedInAll 1 = .ok (.istore_n 1, 1) := by decide +kernel
theorem dX3_passedInAll_2 : decode cX3_passedInAll 2 = .ok (.iconst 0, 1) := by decide +kernel
theorem dX3_passedInAll_3 : decode cX3_passedInAll 3 = .ok (.istore_n 2, 1) := by decide +kernel
theorem dX3_passedInAll_4 : decode cX3_passedInAll 4 = .ok (.iload_n 2, 1) := by decide +kernel
theorem dX3_passedInAll_5 : decode cX3_passedInAll 5 = .ok (.aload_n 0, 1) := by decide +kernel
theorem dX3_passedInAll_6 : decode cX3_passedInAll 6 = .ok (.getfield 44, 3) := by decide +kernel
theorem dX3_passedInAll_9 : decode cX3_passedInAll 9 = .ok (.if_icmp .ge 18, 3) := by decide +kernel
theorem dX3_passedInAll_12 : decode cX3_passedInAll 12 = .ok (.iload_n 1, 1) := by decide +kernel
theorem dX3_passedInAll_13 : decode cX3_passedInAll 13 = .ok (.aload_n 0, 1) := by decide +kernel
theorem dX3_passedInAll_14 : decode cX3_passedInAll 14 = .ok (.getfield 35, 3) := by decide +kernel
theorem dX3_passedInAll_17 : decode cX3_passedInAll 17 = .ok (.iload_n 2, 1) := by decide +kernel
theorem dX3_passedInAll_18 : decode cX3_passedInAll 18 = .ok (.iaload, 1) := by decide +kernel
theorem dX3_passedInAll_19 : decode cX3_passedInAll 19 = .ok (.iadd, 1) := by decide +kernel
theorem dX3_passedInAll_20 : decode cX3_passedInAll 20 = .ok (.istore_n 1, 1) := by decide +kernel
theorem dX3_passedInAll_21 : decode cX3_passedInAll 21 = .ok (.iinc 2 1, 3) := by decide +kernel
theorem dX3_passedInAll_24 : decode cX3_passedInAll 24 = .ok (.goto (-20), 3) := by decide +kernel
theorem dX3_passedInAll_27 : decode cX3_passedInAll 27 = .ok (.iload_n 1, 1) := by decide +kernel
theorem dX3_passedInAll_28 : decode cX3_passedInAll 28 = .ok (.ireturn, 1) := by decide +kernel
theorem dX3_heldSpots_0 : decode cX3_heldSpots 0 = .ok (.iconst 0, 1) := by decide +kernel
theorem dX3_heldSpots_1 : decode cX3_heldSpots 1 = .ok (.istore_n 1, 1) := by decide +kernel
theorem dX3_heldSpots_2 : decode cX3_heldSpots 2 = .ok (.iconst 0, 1) := by decide +kernel
theorem dX3_heldSpots_3 : decode cX3_heldSpots 3 = .ok (.istore_n 2, 1) := by decide +kernel
theorem dX3_heldSpots_4 : decode cX3_heldSpots 4 = .ok (.iload_n 2, 1) := by decide +kernel
theorem dX3_heldSpots_5 : decode cX3_heldSpots 5 = .ok (.bipush 10, 2) := by decide +kernel
theorem dX3_heldSpots_7 : decode cX3_heldSpots 7 = .ok (.if_icmp .ge 22, 3) := by decide +kernel
theorem dX3_heldSpots_10 : decode cX3_heldSpots 10 = .ok (.aload_n 0, 1) := by decide +kernel
theorem dX3_heldSpots_11 : decode cX3_heldSpots 11 = .ok (.getfield 13, 3) := by decide +kernel
theorem dX3_heldSpots_14 : decode cX3_heldSpots 14 = .ok (.iload_n 2, 1) := by decide +kernel
theorem dX3_heldSpots_15 : decode cX3_heldSpots 15 = .ok (.iaload, 1) := by decide +kernel
theorem dX3_heldSpots_16 : decode cX3_heldSpots 16 = .ok (.iconst (-1), 1) := by decide +kernel
theorem dX3_heldSpots_17 : decode cX3_heldSpots 17 = .ok (.if_icmp .eq 6, 3) := by decide +kernel
theorem dX3_heldSpots_20 : decode cX3_heldSpots 20 = .ok (.iinc 1 1, 3) := by decide +kernel
theorem dX3_heldSpots_23 : decode cX3_heldSpots 23 = .ok (.iinc 2 1, 3) := by decide +kernel
theorem dX3_heldSpots_26 : decode cX3_heldSpots 26 = .ok (.goto (-22), 3) := by decide +kernel
theorem dX3_heldSpots_29 : decode cX3_heldSpots 29 = .ok (.iload_n 1, 1) := by decide +kernel
theorem dX3_heldSpots_30 : decode cX3_heldSpots 30 = .ok (.ireturn, 1) := by decide +kernel
theorem dX3_isMutual_0 : decode cX3_isMutual 0 = .ok (.aload_n 0, 1) := by decide +kernel
theorem dX3_isMutual_1 : decode cX3_isMutual 1 = .ok (.iload_n 1, 1) := by decide +kernel
theorem dX3_isMutual_2 : decode cX3_isMutual 2 = .ok (.iaload, 1) := by decide +kernel
theorem dX3_isMutual_3 : decode cX3_isMutual 3 = .ok (.iload_n 2, 1) := by decide +kernel
theorem dX3_isMutual_4 : decode cX3_isMutual 4 = .ok (.invokestatic 105, 3) := by decide +kernel
theorem dX3_isMutual_7 : decode cX3_isMutual 7 = .ok (.ifCond .eq 17, 3) := by decide +kernel
theorem dX3_isMutual_10 : decode cX3_isMutual 10 = .ok (.aload_n 0, 1) := by decide +kernel
theorem dX3_isMutual_11 : decode cX3_isMutual 11 = .ok (.iload_n 2, 1) := by decide +kernel
theorem dX3_isMutual_12 : decode cX3_isMutual 12 = .ok (.iaload, 1) := by decide +kernel
theorem dX3_isMutual_13 : decode cX3_isMutual 13 = .ok (.iload_n 1, 1) := by decide +kernel
theorem dX3_isMutual_14 : decode cX3_isMutual 14 = .ok (.invokestatic 105, 3) := by decide +kernel
theorem dX3_isMutual_17 : decode cX3_isMutual 17 = .ok (.ifCond .eq 7, 3) := by decide +kernel
theorem dX3_isMutual_20 : decode cX3_isMutual 20 = .ok (.iconst 1, 1) := by decide +kernel
theorem dX3_isMutual_21 : decode cX3_isMutual 21 = .ok (.goto 4, 3) := by decide +kernel
theorem dX3_isMutual_24 : decode cX3_isMutual 24 = .ok (.iconst 0, 1) := by decide +kernel
theorem dX3_isMutual_25 : decode cX3_isMutual 25 = .ok (.ireturn, 1) := by decide +kernel
theorem dX3_holds_0 : decode cX3_holds 0 = .ok (.iload_n 0, 1) := by decide +kernel
theorem dX3_holds_1 : decode cX3_holds 1 = .ok (.iload_n 1, 1) := by decide +kernel
theorem dX3_holds_2 : decode cX3_holds 2 = .ok (.ishr, 1) := by decide +kernel
theorem dX3_holds_3 : decode cX3_holds 3 = .ok (.iconst 1, 1) := by decide +kernel
theorem dX3_holds_4 : decode cX3_holds 4 = .ok (.iand, 1) := by decide +kernel
theorem dX3_holds_5 : decode cX3_holds 5 = .ok (.iconst 1, 1) := by decide +kernel
theorem dX3_holds_6 : decode cX3_holds 6 = .ok (.if_icmp .ne 7, 3) := by decide +kernel
theorem dX3_holds_9 : decode cX3_holds 9 = .ok (.iconst 1, 1) := by decide +kernel
theorem dX3_holds_10 : decode cX3_holds 10 = .ok (.goto 4, 3) := by decide +kernel
theorem dX3_holds_13 : decode cX3_holds 13 = .ok (.iconst 0, 1) := by decide +kernel
theorem dX3_holds_14 : decode cX3_holds 14 = .ok (.ireturn, 1) := by decide +kernel
theorem dX3_hasDays_0 : decode cX3_hasDays 0 = .ok (.iload_n 1, 1) := by decide +kernel
theorem dX3_hasDays_1 : decode cX3_hasDays 1 = .ok (.ldc 134, 2) := by decide +kernel
theorem dX3_hasDays_3 : decode cX3_hasDays 3 = .ok (.aload_n 0, 1) := by decide +kernel
theorem dX3_hasDays_4 : decode cX3_hasDays 4 = .ok (.getfield 47, 3) := by decide +kernel
theorem dX3_hasDays_7 : decode cX3_hasDays 7 = .ok (.isub, 1) := by decide +kernel
theorem dX3_hasDays_8 : decode cX3_hasDays 8 = .ok (.if_icmp .gt 7, 3) := by decide +kernel
theorem dX3_hasDays_11 : decode cX3_hasDays 11 = .ok (.iconst 1, 1) := by decide +kernel
theorem dX3_hasDays_12 : decode cX3_hasDays 12 = .ok (.goto 4, 3) := by decide +kernel
theorem dX3_hasDays_15 : decode cX3_hasDays 15 = .ok (.iconst 0, 1) := by decide +kernel
theorem dX3_hasDays_16 : decode cX3_hasDays 16 = .ok (.ireturn, 1) := by decide +kernel
theorem dX3_skipDays_0 : decode cX3_skipDays 0 = .ok (.aload_n 0, 1) := by decide +kernel
theorem dX3_skipDays_1 : decode cX3_skipDays 1 = .ok (.ldc 134, 2) := by decide +kernel
theorem dX3_skipDays_3 : decode cX3_skipDays 3 = .ok (.aload_n 0, 1) := by decide +kernel
theorem dX3_skipDays_4 : decode cX3_skipDays 4 = .ok (.getfield 47, 3) := by decide +kernel
theorem dX3_skipDays_7 : decode cX3_skipDays 7 = .ok (.iload_n 1, 1) := by decide +kernel
theorem dX3_skipDays_8 : decode cX3_skipDays 8 = .ok (.iadd, 1) := by decide +kernel
theorem dX3_skipDays_9 : decode cX3_skipDays 9 = .ok (.invokestatic 113, 3) := by decide +kernel
theorem dX3_skipDays_12 : decode cX3_skipDays 12 = .ok (.putfield 47, 3) := by decide +kernel
theorem dX3_skipDays_15 : decode cX3_skipDays 15 = .ok (.return_, 1) := by decide +kernel
theorem dX3_passDays_0 : decode cX3_passDays 0 = .ok (.iconst 0, 1) := by decide +kernel
theorem dX3_passDays_1 : decode cX3_passDays 1 = .ok (.istore_n 2, 1) := by decide +kernel
theorem dX3_passDays_2 : decode cX3_passDays 2 = .ok (.iload_n 2, 1) := by decide +kernel
theorem dX3_passDays_3 : decode cX3_passDays 3 = .ok (.iload_n 1, 1) := by decide +kernel
theorem dX3_passDays_4 : decode cX3_passDays 4 = .ok (.if_icmp .ge 13, 3) := by decide +kernel
theorem dX3_passDays_7 : decode cX3_passDays 7 = .ok (.aload_n 0, 1) := by decide +kernel
theorem dX3_passDays_8 : decode cX3_passDays 8 = .ok (.invokevirtual 135, 3) := by decide +kernel
theorem dX3_passDays_11 : decode cX3_passDays 11 = .ok (.iinc 2 1, 3) := by decide +kernel
theorem dX3_passDays_14 : decode cX3_passDays 14 = .ok (.goto (-12), 3) := by decide +kernel
theorem dX3_passDays_17 : decode cX3_passDays 17 = .ok (.return_, 1) := by decide +kernel
theorem dX3_passDay_0 : decode cX3_passDay 0 = .ok (.aload_n 0, 1) := by decide +kernel
theorem dX3_passDay_1 : decode cX3_passDay 1 = .ok (.getfield 47, 3) := by decide +kernel
theorem dX3_passDay_4 : decode cX3_passDay 4 = .ok (.invokestatic 138, 3) := by decide +kernel
theorem dX3_passDay_7 : decode cX3_passDay 7 = .ok (.istore_n 1, 1) := by decide +kernel
theorem dX3_passDay_8 : decode cX3_passDay 8 = .ok (.iconst 0, 1) := by decide +kernel
theorem dX3_passDay_9 : decode cX3_passDay 9 = .ok (.istore_n 2, 1) := by decide +kernel
theorem dX3_passDay_10 : decode cX3_passDay 10 = .ok (.iload_n 2, 1) := by decide +kernel
theorem dX3_passDay_11 : decode cX3_passDay 11 = .ok (.aload_n 0, 1) := by decide +kernel
theorem dX3_passDay_12 : decode cX3_passDay 12 = .ok (.getfield 44, 3) := by decide +kernel
theorem dX3_passDay_15 : decode cX3_passDay 15 = .ok (.if_icmp .ge 71, 3) := by decide +kernel
theorem dX3_passDay_18 : decode cX3_passDay 18 = .ok (.aload_n 0, 1) := by decide +kernel
theorem dX3_passDay_19 : decode cX3_passDay 19 = .ok (.getfield 20, 3) := by decide +kernel
theorem dX3_passDay_22 : decode cX3_passDay 22 = .ok (.iload_n 2, 1) := by decide +kernel
theorem dX3_passDay_23 : decode cX3_passDay 23 = .ok (.aload_n 0, 1) := by decide +kernel
theorem dX3_passDay_24 : decode cX3_passDay 24 = .ok (.getfield 20, 3) := by decide +kernel
theorem dX3_passDay_27 : decode cX3_passDay 27 = .ok (.iload_n 2, 1) := by decide +kernel
theorem dX3_passDay_28 : decode cX3_passDay 28 = .ok (.iaload, 1) := by decide +kernel
theorem dX3_passDay_29 : decode cX3_passDay 29 = .ok (.aload_n 0, 1) := by decide +kernel
theorem dX3_passDay_30 : decode cX3_passDay 30 = .ok (.getfield 17, 3) := by decide +kernel
theorem dX3_passDay_33 : decode cX3_passDay 33 = .ok (.iload_n 2, 1) := by decide +kernel
theorem dX3_passDay_34 : decode cX3_passDay 34 = .ok (.iaload, 1) := by decide +kernel
theorem dX3_passDay_35 : decode cX3_passDay 35 = .ok (.aload_n 0, 1) := by decide +kernel
theorem dX3_passDay_36 : decode cX3_passDay 36 = .ok (.getfield 47, 3) := by decide +kernel
theorem dX3_passDay_39 : decode cX3_passDay 39 = .ok (.invokestatic 71, 3) := by decide +kernel
theorem dX3_passDay_42 : decode cX3_passDay 42 = .ok (.iadd, 1) := by decide +kernel
theorem dX3_passDay_43 : decode cX3_passDay 43 = .ok (.bipush 16, 2) := by decide +kernel
theorem dX3_passDay_45 : decode cX3_passDay 45 = .ok (.irem, 1) := by decide +kernel
theorem dX3_passDay_46 : decode cX3_passDay 46 = .ok (.iastore, 1) := by decide +kernel
theorem dX3_passDay_47 : decode cX3_passDay 47 = .ok (.iload_n 1, 1) := by decide +kernel
theorem dX3_passDay_48 : decode cX3_passDay 48 = .ok (.ifCond .ne 32, 3) := by decide +kernel
theorem dX3_passDay_51 : decode cX3_passDay 51 = .ok (.aload_n 0, 1) := by decide +kernel
theorem dX3_passDay_52 : decode cX3_passDay 52 = .ok (.getfield 23, 3) := by decide +kernel
theorem dX3_passDay_55 : decode cX3_passDay 55 = .ok (.iload_n 2, 1) := by decide +kernel
theorem dX3_passDay_56 : decode cX3_passDay 56 = .ok (.aload_n 0, 1) := by decide +kernel
theorem dX3_passDay_57 : decode cX3_passDay 57 = .ok (.getfield 23, 3) := by decide +kernel
theorem dX3_passDay_60 : decode cX3_passDay 60 = .ok (.iload_n 2, 1) := by decide +kernel
theorem dX3_passDay_61 : decode cX3_passDay 61 = .ok (.iaload, 1) := by decide +kernel
theorem dX3_passDay_62 : decode cX3_passDay 62 = .ok (.aload_n 0, 1) := by decide +kernel
theorem dX3_passDay_63 : decode cX3_passDay 63 = .ok (.getfield 17, 3) := by decide +kernel
theorem dX3_passDay_66 : decode cX3_passDay 66 = .ok (.iload_n 2, 1) := by decide +kernel
theorem dX3_passDay_67 : decode cX3_passDay 67 = .ok (.iaload, 1) := by decide +kernel
theorem dX3_passDay_68 : decode cX3_passDay 68 = .ok (.aload_n 0, 1) := by decide +kernel
theorem dX3_passDay_69 : decode cX3_passDay 69 = .ok (.getfield 47, 3) := by decide +kernel
theorem dX3_passDay_72 : decode cX3_passDay 72 = .ok (.invokestatic 77, 3) := by decide +kernel
theorem dX3_passDay_75 : decode cX3_passDay 75 = .ok (.iadd, 1) := by decide +kernel
theorem dX3_passDay_76 : decode cX3_passDay 76 = .ok (.bipush 12, 2) := by decide +kernel
theorem dX3_passDay_78 : decode cX3_passDay 78 = .ok (.irem, 1) := by decide +kernel
theorem dX3_passDay_79 : decode cX3_passDay 79 = .ok (.iastore, 1) := by decide +kernel
theorem dX3_passDay_80 : decode cX3_passDay 80 = .ok (.iinc 2 1, 3) := by decide +kernel
theorem dX3_passDay_83 : decode cX3_passDay 83 = .ok (.goto (-73), 3) := by decide +kernel
theorem dX3_passDay_86 : decode cX3_passDay 86 = .ok (.iconst 0, 1) := by decide +kernel
theorem dX3_passDay_87 : decode cX3_passDay 87 = .ok (.istore_n 2, 1) := by decide +kernel
theorem dX3_passDay_88 : decode cX3_passDay 88 = .ok (.iload_n 2, 1) := by decide +kernel
theorem dX3_passDay_89 : decode cX3_passDay 89 = .ok (.aload_n 0, 1) := by decide +kernel
theorem dX3_passDay_90 : decode cX3_passDay 90 = .ok (.getfield 44, 3) := by decide +kernel
theorem dX3_passDay_93 : decode cX3_passDay 93 = .ok (.if_icmp .ge 61, 3) := by decide +kernel
theorem dX3_passDay_96 : decode cX3_passDay 96 = .ok (.iload_n 2, 1) := by decide +kernel
theorem dX3_passDay_97 : decode cX3_passDay 97 = .ok (.iconst 1, 1) := by decide +kernel
theorem dX3_passDay_98 : decode cX3_passDay 98 = .ok (.iadd, 1) := by decide +kernel
theorem dX3_passDay_99 : decode cX3_passDay 99 = .ok (.istore_n 3, 1) := by decide +kernel
theorem dX3_passDay_100 : decode cX3_passDay 100 = .ok (.iload_n 3, 1) := by decide +kernel
theorem dX3_passDay_101 : decode cX3_passDay 101 = .ok (.aload_n 0, 1) := by decide +kernel
theorem dX3_passDay_102 : decode cX3_passDay 102 = .ok (.getfield 44, 3) := by decide +kernel
theorem dX3_passDay_105 : decode cX3_passDay 105 = .ok (.if_icmp .ge 43, 3) := by decide +kernel
theorem dX3_passDay_108 : decode cX3_passDay 108 = .ok (.iload_n 1, 1) := by decide +kernel
theorem dX3_passDay_109 : decode cX3_passDay 109 = .ok (.ifCond .eq 12, 3) := by decide +kernel
theorem dX3_passDay_112 : decode cX3_passDay 112 = .ok (.aload_n 0, 1) := by decide +kernel
theorem dX3_passDay_113 : decode cX3_passDay 113 = .ok (.iload_n 2, 1) := by decide +kernel
theorem dX3_passDay_114 : decode cX3_passDay 114 = .ok (.iload_n 3, 1) := by decide +kernel
theorem dX3_passDay_115 : decode cX3_passDay 115 = .ok (.invokevirtual 141, 3) := by decide +kernel
theorem dX3_passDay_118 : decode cX3_passDay 118 = .ok (.goto 24, 3) := by decide +kernel
theorem dX3_passDay_121 : decode cX3_passDay 121 = .ok (.aload_n 0, 1) := by decide +kernel
theorem dX3_passDay_122 : decode cX3_passDay 122 = .ok (.getfield 20, 3) := by decide +kernel
theorem dX3_passDay_125 : decode cX3_passDay 125 = .ok (.iload_n 2, 1) := by decide +kernel
theorem dX3_passDay_126 : decode cX3_passDay 126 = .ok (.iaload, 1) := by decide +kernel
theorem dX3_passDay_127 : decode cX3_passDay 127 = .ok (.aload_n 0, 1) := by decide +kernel
theorem dX3_passDay_128 : decode cX3_passDay 128 = .ok (.getfield 20, 3) := by decide +kernel
theorem dX3_passDay_131 : decode cX3_passDay 131 = .ok (.iload_n 3, 1) := by decide +kernel
theorem dX3_passDay_132 : decode cX3_passDay 132 = .ok (.iaload, 1) := by decide +kernel
theorem dX3_passDay_133 : decode cX3_passDay 133 = .ok (.if_icmp .ne 9, 3) := by decide +kernel
theorem dX3_passDay_136 : decode cX3_passDay 136 = .ok (.aload_n 0, 1) := by decide +kernel
theorem dX3_passDay_137 : decode cX3_passDay 137 = .ok (.iload_n 2, 1) := by decide +kernel
theorem dX3_passDay_138 : decode cX3_passDay 138 = .ok (.iload_n 3, 1) := by decide +kernel
theorem dX3_passDay_139 : decode cX3_passDay 139 = .ok (.invokevirtual 145, 3) := by decide +kernel
theorem dX3_passDay_142 : decode cX3_passDay 142 = .ok (.iinc 3 1, 3) := by decide +kernel
theorem dX3_passDay_145 : decode cX3_passDay 145 = .ok (.goto (-45), 3) := by decide +kernel
theorem dX3_passDay_148 : decode cX3_passDay 148 = .ok (.iinc 2 1, 3) := by decide +kernel
theorem dX3_passDay_151 : decode cX3_passDay 151 = .ok (.goto (-63), 3) := by decide +kernel
theorem dX3_passDay_154 : decode cX3_passDay 154 = .ok (.aload_n 0, 1) := by decide +kernel
theorem dX3_passDay_155 : decode cX3_passDay 155 = .ok (.iconst 1, 1) := by decide +kernel
theorem dX3_passDay_156 : decode cX3_passDay 156 = .ok (.invokevirtual 148, 3) := by decide +kernel
theorem dX3_passDay_159 : decode cX3_passDay 159 = .ok (.return_, 1) := by decide +kernel
theorem dX3_mingle_0 : decode cX3_mingle 0 = .ok (.aload_n 0, 1) := by decide +kernel
theorem dX3_mingle_1 : decode cX3_mingle 1 = .ok (.iload_n 1, 1) := by decide +kernel
theorem dX3_mingle_2 : decode cX3_mingle 2 = .ok (.aload_n 0, 1) := by decide +kernel
theorem dX3_mingle_3 : decode cX3_mingle 3 = .ok (.getfield 23, 3) := by decide +kernel
theorem dX3_mingle_6 : decode cX3_mingle 6 = .ok (.iload_n 2, 1) := by decide +kernel
theorem dX3_mingle_7 : decode cX3_mingle 7 = .ok (.iaload, 1) := by decide +kernel
theorem dX3_mingle_8 : decode cX3_mingle 8 = .ok (.invokevirtual 120, 3) := by decide +kernel
theorem dX3_mingle_11 : decode cX3_mingle 11 = .ok (.ifCond .eq 15, 3) := by decide +kernel
theorem dX3_mingle_14 : decode cX3_mingle 14 = .ok (.aload_n 0, 1) := by decide +kernel
theorem dX3_mingle_15 : decode cX3_mingle 15 = .ok (.getfield 26, 3) := by decide +kernel
theorem dX3_mingle_18 : decode cX3_mingle 18 = .ok (.iload_n 1, 1) := by decide +kernel
theorem dX3_mingle_19 : decode cX3_mingle 19 = .ok (.dup2, 1) := by decide +kernel
theorem dX3_mingle_20 : decode cX3_mingle 20 = .ok (.iaload, 1) := by decide +kernel
theorem dX3_mingle_21 : decode cX3_mingle 21 = .ok (.iconst 1, 1) := by decide +kernel
theorem dX3_mingle_22 : decode cX3_mingle 22 = .ok (.iload_n 2, 1) := by decide +kernel
theorem dX3_mingle_23 : decode cX3_mingle 23 = .ok (.ishl, 1) := by decide +kernel
theorem dX3_mingle_24 : decode cX3_mingle 24 = .ok (.ior, 1) := by decide +kernel
theorem dX3_mingle_25 : decode cX3_mingle 25 = .ok (.iastore, 1) := by decide +kernel
theorem dX3_mingle_26 : decode cX3_mingle 26 = .ok (.aload_n 0, 1) := by decide +kernel
theorem dX3_mingle_27 : decode cX3_mingle 27 = .ok (.iload_n 2, 1) := by decide +kernel
theorem dX3_mingle_28 : decode cX3_mingle 28 = .ok (.aload_n 0, 1) := by decide +kernel
theorem dX3_mingle_29 : decode cX3_mingle 29 = .ok (.getfield 23, 3) := by decide +kernel
theorem dX3_mingle_32 : decode cX3_mingle 32 = .ok (.iload_n 1, 1) := by decide +kernel
theorem dX3_mingle_33 : decode cX3_mingle 33 = .ok (.iaload, 1) := by decide +kernel
theorem dX3_mingle_34 : decode cX3_mingle 34 = .ok (.invokevirtual 120, 3) := by decide +kernel
theorem dX3_mingle_37 : decode cX3_mingle 37 = .ok (.ifCond .eq 15, 3) := by decide +kernel
theorem dX3_mingle_40 : decode cX3_mingle 40 = .ok (.aload_n 0, 1) := by decide +kernel
theorem dX3_mingle_41 : decode cX3_mingle 41 = .ok (.getfield 26, 3) := by decide +kernel
theorem dX3_mingle_44 : decode cX3_mingle 44 = .ok (.iload_n 2, 1) := by decide +kernel
theorem dX3_mingle_45 : decode cX3_mingle 45 = .ok (.dup2, 1) := by decide +kernel
theorem dX3_mingle_46 : decode cX3_mingle 46 = .ok (.iaload, 1) := by decide +kernel
theorem dX3_mingle_47 : decode cX3_mingle 47 = .ok (.iconst 1, 1) := by decide +kernel
theorem dX3_mingle_48 : decode cX3_mingle 48 = .ok (.iload_n 1, 1) := by decide +kernel
theorem dX3_mingle_49 : decode cX3_mingle 49 = .ok (.ishl, 1) := by decide +kernel
theorem dX3_mingle_50 : decode cX3_mingle 50 = .ok (.ior, 1) := by decide +kernel
theorem dX3_mingle_51 : decode cX3_mingle 51 = .ok (.iastore, 1) := by decide +kernel
theorem dX3_mingle_52 : decode cX3_mingle 52 = .ok (.return_, 1) := by decide +kernel
theorem dX3_meetEachOther_0 : decode cX3_meetEachOther 0 = .ok (.aload_n 0, 1) := by decide +kernel
theorem dX3_meetEachOther_1 : decode cX3_meetEachOther 1 = .ok (.iload_n 1, 1) := by decide +kernel
theorem dX3_meetEachOther_2 : decode cX3_meetEachOther 2 = .ok (.iload_n 2, 1) := by decide +kernel
theorem dX3_meetEachOther_3 : decode cX3_meetEachOther 3 = .ok (.invokevirtual 152, 3) := by decide +kernel
theorem dX3_meetEachOther_6 : decode cX3_meetEachOther 6 = .ok (.ifCond .eq 27, 3) := by decide +kernel
theorem dX3_meetEachOther_9 : decode cX3_meetEachOther 9 = .ok (.aload_n 0, 1) := by decide +kernel
theorem dX3_meetEachOther_10 : decode cX3_meetEachOther 10 = .ok (.getfield 26, 3) := by decide +kernel
theorem dX3_meetEachOther_13 : decode cX3_meetEachOther 13 = .ok (.iload_n 1, 1) := by decide +kernel
theorem dX3_meetEachOther_14 : decode cX3_meetEachOther 14 = .ok (.dup2, 1) := by decide +kernel
theorem dX3_meetEachOther_15 : decode cX3_meetEachOther 15 = .ok (.iaload, 1) := by decide +kernel
theorem dX3_meetEachOther_16 : decode cX3_meetEachOther 16 = .ok (.iconst 1, 1) := by decide +kernel
theorem dX3_meetEachOther_17 : decode cX3_meetEachOther 17 = .ok (.iload_n 2, 1) := by decide +kernel
theorem dX3_meetEachOther_18 : decode cX3_meetEachOther 18 = .ok (.ishl, 1) := by decide +kernel
theorem dX3_meetEachOther_19 : decode cX3_meetEachOther 19 = .ok (.ior, 1) := by decide +kernel
theorem dX3_meetEachOther_20 : decode cX3_meetEachOther 20 = .ok (.iastore, 1) := by decide +kernel
theorem dX3_meetEachOther_21 : decode cX3_meetEachOther 21 = .ok (.aload_n 0, 1) := by decide +kernel
theorem dX3_meetEachOther_22 : decode cX3_meetEachOther 22 = .ok (.getfield 26, 3) := by decide +kernel
theorem dX3_meetEachOther_25 : decode cX3_meetEachOther 25 = .ok (.iload_n 2, 1) := by decide +kernel
theorem dX3_meetEachOther_26 : decode cX3_meetEachOther 26 = .ok (.dup2, 1) := by decide +kernel
theorem dX3_meetEachOther_27 : decode cX3_meetEachOther 27 = .ok (.iaload, 1) := by decide +kernel
theorem dX3_meetEachOther_28 : decode cX3_meetEachOther 28 = .ok (.iconst 1, 1) := by decide +kernel
theorem dX3_meetEachOther_29 : decode cX3_meetEachOther 29 = .ok (.iload_n 1, 1) := by decide +kernel
theorem dX3_meetEachOther_30 : decode cX3_meetEachOther 30 = .ok (.ishl, 1) := by decide +kernel
theorem dX3_meetEachOther_31 : decode cX3_meetEachOther 31 = .ok (.ior, 1) := by decide +kernel
theorem dX3_meetEachOther_32 : decode cX3_meetEachOther 32 = .ok (.iastore, 1) := by decide +kernel
theorem dX3_meetEachOther_33 : decode cX3_meetEachOther 33 = .ok (.return_, 1) := by decide +kernel
theorem dX3_seeEachOther_0 : decode cX3_seeEachOther 0 = .ok (.aload_n 0, 1) := by decide +kernel
theorem dX3_seeEachOther_1 : decode cX3_seeEachOther 1 = .ok (.iload_n 1, 1) := by decide +kernel
theorem dX3_seeEachOther_2 : decode cX3_seeEachOther 2 = .ok (.iload_n 2, 1) := by decide +kernel
theorem dX3_seeEachOther_3 : decode cX3_seeEachOther 3 = .ok (.invokevirtual 155, 3) := by decide +kernel
theorem dX3_seeEachOther_6 : decode cX3_seeEachOther 6 = .ok (.ifCond .ne 4, 3) := by decide +kernel
theorem dX3_seeEachOther_9 : decode cX3_seeEachOther 9 = .ok (.return_, 1) := by decide +kernel
theorem dX3_seeEachOther_10 : decode cX3_seeEachOther 10 = .ok (.aload_n 0, 1) := by decide +kernel
theorem dX3_seeEachOther_11 : decode cX3_seeEachOther 11 = .ok (.iload_n 1, 1) := by decide +kernel
theorem dX3_seeEachOther_12 : decode cX3_seeEachOther 12 = .ok (.iload_n 2, 1) := by decide +kernel
theorem dX3_seeEachOther_13 : decode cX3_seeEachOther 13 = .ok (.invokevirtual 158, 3) := by decide +kernel
theorem dX3_seeEachOther_16 : decode cX3_seeEachOther 16 = .ok (.ifCond .eq 18, 3) := by decide +kernel
theorem dX3_seeEachOther_19 : decode cX3_seeEachOther 19 = .ok (.aload_n 0, 1) := by decide +kernel
theorem dX3_seeEachOther_20 : decode cX3_seeEachOther 20 = .ok (.iload_n 1, 1) := by decide +kernel
theorem dX3_seeEachOther_21 : decode cX3_seeEachOther 21 = .ok (.iload_n 2, 1) := by decide +kernel
theorem dX3_seeEachOther_22 : decode cX3_seeEachOther 22 = .ok (.invokevirtual 161, 3) := by decide +kernel
theorem dX3_seeEachOther_25 : decode cX3_seeEachOther 25 = .ok (.aload_n 0, 1) := by decide +kernel
theorem dX3_seeEachOther_26 : decode cX3_seeEachOther 26 = .ok (.iload_n 2, 1) := by decide +kernel
theorem dX3_seeEachOther_27 : decode cX3_seeEachOther 27 = .ok (.iload_n 1, 1) := by decide +kernel
theorem dX3_seeEachOther_28 : decode cX3_seeEachOther 28 = .ok (.invokevirtual 161, 3) := by decide +kernel
theorem dX3_seeEachOther_31 : decode cX3_seeEachOther 31 = .ok (.goto 13, 3) := by decide +kernel
theorem dX3_seeEachOther_34 : decode cX3_seeEachOther 34 = .ok (.aload_n 0, 1) := by decide +kernel
theorem dX3_seeEachOther_35 : decode cX3_seeEachOther 35 = .ok (.iload_n 1, 1) := by decide +kernel
theorem dX3_seeEachOther_36 : decode cX3_seeEachOther 36 = .ok (.invokevirtual 164, 3) := by decide +kernel
theorem dX3_seeEachOther_39 : decode cX3_seeEachOther 39 = .ok (.aload_n 0, 1) := by decide +kernel
theorem dX3_seeEachOther_40 : decode cX3_seeEachOther 40 = .ok (.iload_n 2, 1) := by decide +kernel
theorem dX3_seeEachOther_41 : decode cX3_seeEachOther 41 = .ok (.invokevirtual 164, 3) := by decide +kernel
theorem dX3_seeEachOther_44 : decode cX3_seeEachOther 44 = .ok (.return_, 1) := by decide +kernel
theorem dX3_comeToKnow_0 : decode cX3_comeToKnow 0 = .ok (.aload_n 0, 1) := by decide +kernel
theorem dX3_comeToKnow_1 : decode cX3_comeToKnow 1 = .ok (.getfield 29, 3) := by decide +kernel
theorem dX3_comeToKnow_4 : decode cX3_comeToKnow 4 = .ok (.iload_n 1, 1) := by decide +kernel
theorem dX3_comeToKnow_5 : decode cX3_comeToKnow 5 = .ok (.iaload, 1) := by decide +kernel
theorem dX3_comeToKnow_6 : decode cX3_comeToKnow 6 = .ok (.iload_n 2, 1) := by decide +kernel
theorem dX3_comeToKnow_7 : decode cX3_comeToKnow 7 = .ok (.invokestatic 105, 3) := by decide +kernel
theorem dX3_comeToKnow_10 : decode cX3_comeToKnow 10 = .ok (.ifCond .eq 4, 3) := by decide +kernel
theorem dX3_comeToKnow_13 : decode cX3_comeToKnow 13 = .ok (.return_, 1) := by decide +kernel
theorem dX3_comeToKnow_14 : decode cX3_comeToKnow 14 = .ok (.aload_n 0, 1) := by decide +kernel
theorem dX3_comeToKnow_15 : decode cX3_comeToKnow 15 = .ok (.getfield 17, 3) := by decide +kernel
theorem dX3_comeToKnow_18 : decode cX3_comeToKnow 18 = .ok (.iload_n 1, 1) := by decide +kernel
theorem dX3_comeToKnow_19 : decode cX3_comeToKnow 19 = .ok (.iaload, 1) := by decide +kernel
theorem dX3_comeToKnow_20 : decode cX3_comeToKnow 20 = .ok (.aload_n 0, 1) := by decide +kernel
theorem dX3_comeToKnow_21 : decode cX3_comeToKnow 21 = .ok (.getfield 29, 3) := by decide +kernel
theorem dX3_comeToKnow_24 : decode cX3_comeToKnow 24 = .ok (.iload_n 1, 1) := by decide +kernel
theorem dX3_comeToKnow_25 : decode cX3_comeToKnow 25 = .ok (.iaload, 1) := by decide +kernel
theorem dX3_comeToKnow_26 : decode cX3_comeToKnow 26 = .ok (.invokestatic 84, 3) := by decide +kernel
theorem dX3_comeToKnow_29 : decode cX3_comeToKnow 29 = .ok (.invokestatic 89, 3) := by decide +kernel
theorem dX3_comeToKnow_32 : decode cX3_comeToKnow 32 = .ok (.istore_n 3, 1) := by decide +kernel
theorem dX3_comeToKnow_33 : decode cX3_comeToKnow 33 = .ok (.aload_n 0, 1) := by decide +kernel
theorem dX3_comeToKnow_34 : decode cX3_comeToKnow 34 = .ok (.ldc 134, 2) := by decide +kernel
theorem dX3_comeToKnow_36 : decode cX3_comeToKnow 36 = .ok (.aload_n 0, 1) := by decide +kernel
theorem dX3_comeToKnow_37 : decode cX3_comeToKnow 37 = .ok (.getfield 50, 3) := by decide +kernel
theorem dX3_comeToKnow_40 : decode cX3_comeToKnow 40 = .ok (.iload_n 3, 1) := by decide +kernel
theorem dX3_comeToKnow_41 : decode cX3_comeToKnow 41 = .ok (.iadd, 1) := by decide +kernel
theorem dX3_comeToKnow_42 : decode cX3_comeToKnow 42 = .ok (.invokestatic 113, 3) := by decide +kernel
theorem dX3_comeToKnow_45 : decode cX3_comeToKnow 45 = .ok (.putfield 50, 3) := by decide +kernel
theorem dX3_comeToKnow_48 : decode cX3_comeToKnow 48 = .ok (.aload_n 0, 1) := by decide +kernel
theorem dX3_comeToKnow_49 : decode cX3_comeToKnow 49 = .ok (.getfield 29, 3) := by decide +kernel
theorem dX3_comeToKnow_52 : decode cX3_comeToKnow 52 = .ok (.iload_n 1, 1) := by decide +kernel
theorem dX3_comeToKnow_53 : decode cX3_comeToKnow 53 = .ok (.dup2, 1) := by decide +kernel
theorem dX3_comeToKnow_54 : decode cX3_comeToKnow 54 = .ok (.iaload, 1) := by decide +kernel
theorem dX3_comeToKnow_55 : decode cX3_comeToKnow 55 = .ok (.iconst 1, 1) := by decide +kernel
theorem dX3_comeToKnow_56 : decode cX3_comeToKnow 56 = .ok (.iload_n 2, 1) := by decide +kernel
theorem dX3_comeToKnow_57 : decode cX3_comeToKnow 57 = .ok (.ishl, 1) := by decide +kernel
theorem dX3_comeToKnow_58 : decode cX3_comeToKnow 58 = .ok (.ior, 1) := by decide +kernel
theorem dX3_comeToKnow_59 : decode cX3_comeToKnow 59 = .ok (.iastore, 1) := by decide +kernel
theorem dX3_comeToKnow_60 : decode cX3_comeToKnow 60 = .ok (.return_, 1) := by decide +kernel
theorem dX3_goBy_0 : decode cX3_goBy 0 = .ok (.aload_n 0, 1) := by decide +kernel
theorem dX3_goBy_1 : decode cX3_goBy 1 = .ok (.getfield 35, 3) := by decide +kernel
theorem dX3_goBy_4 : decode cX3_goBy 4 = .ok (.iload_n 1, 1) := by decide +kernel
theorem dX3_goBy_5 : decode cX3_goBy 5 = .ok (.sipush 9999, 3) := by decide +kernel
theorem dX3_goBy_8 : decode cX3_goBy 8 = .ok (.aload_n 0, 1) := by decide +kernel
theorem dX3_goBy_9 : decode cX3_goBy 9 = .ok (.getfield 35, 3) := by decide +kernel
theorem dX3_goBy_12 : decode cX3_goBy 12 = .ok (.iload_n 1, 1) := by decide +kernel
theorem dX3_goBy_13 : decode cX3_goBy 13 = .ok (.iaload, 1) := by decide +kernel
theorem dX3_goBy_14 : decode cX3_goBy 14 = .ok (.iconst 1, 1) := by decide +kernel
theorem dX3_goBy_15 : decode cX3_goBy 15 = .ok (.iadd, 1) := by decide +kernel
theorem dX3_goBy_16 : decode cX3_goBy 16 = .ok (.invokestatic 113, 3) := by decide +kernel
theorem dX3_goBy_19 : decode cX3_goBy 19 = .ok (.iastore, 1) := by decide +kernel
theorem dX3_goBy_20 : decode cX3_goBy 20 = .ok (.return_, 1) := by decide +kernel
theorem dX3_draw_0 : decode cX3_draw 0 = .ok (.aload_n 0, 1) := by decide +kernel
theorem dX3_draw_1 : decode cX3_draw 1 = .ok (.aload_n 0, 1) := by decide +kernel
theorem dX3_draw_2 : decode cX3_draw 2 = .ok (.getfield 7, 3) := by decide +kernel
theorem dX3_draw_5 : decode cX3_draw 5 = .ok (.ldc 167, 2) := by decide +kernel
theorem dX3_draw_7 : decode cX3_draw 7 = .ok (.imul, 1) := by decide +kernel
theorem dX3_draw_8 : decode cX3_draw 8 = .ok (.sipush 12345, 3) := by decide +kernel
theorem dX3_draw_11 : decode cX3_draw 11 = .ok (.iadd, 1) := by decide +kernel
theorem dX3_draw_12 : decode cX3_draw 12 = .ok (.putfield 7, 3) := by decide +kernel
theorem dX3_draw_15 : decode cX3_draw 15 = .ok (.aload_n 0, 1) := by decide +kernel
theorem dX3_draw_16 : decode cX3_draw 16 = .ok (.getfield 7, 3) := by decide +kernel
theorem dX3_draw_19 : decode cX3_draw 19 = .ok (.bipush 8, 2) := by decide +kernel
theorem dX3_draw_21 : decode cX3_draw 21 = .ok (.iushr, 1) := by decide +kernel
theorem dX3_draw_22 : decode cX3_draw 22 = .ok (.ireturn, 1) := by decide +kernel
theorem dX4_init_0 : decode cX4_init 0 = .ok (.aload_n 0, 1) := by decide +kernel
theorem dX4_init_1 : decode cX4_init 1 = .ok (.invokespecial 1, 3) := by decide +kernel
theorem dX4_init_4 : decode cX4_init 4 = .ok (.aload_n 0, 1) := by decide +kernel
theorem dX4_init_5 : decode cX4_init 5 = .ok (.new 7, 3) := by decide +kernel
theorem dX4_init_8 : decode cX4_init 8 = .ok (.dup, 1) := by decide +kernel
theorem dX4_init_9 : decode cX4_init 9 = .ok (.invokespecial 9, 3) := by decide +kernel
theorem dX4_init_12 : decode cX4_init 12 = .ok (.putfield 10, 3) := by decide +kernel
theorem dX4_init_15 : decode cX4_init 15 = .ok (.aload_n 0, 1) := by decide +kernel
theorem dX4_init_16 : decode cX4_init 16 = .ok (.new 7, 3) := by decide +kernel
theorem dX4_init_19 : decode cX4_init 19 = .ok (.dup, 1) := by decide +kernel
theorem dX4_init_20 : decode cX4_init 20 = .ok (.invokespecial 9, 3) := by decide +kernel
theorem dX4_init_23 : decode cX4_init 23 = .ok (.putfield 16, 3) := by decide +kernel
theorem dX4_init_26 : decode cX4_init 26 = .ok (.aload_n 0, 1) := by decide +kernel
theorem dX4_init_27 : decode cX4_init 27 = .ok (.new 7, 3) := by decide +kernel
theorem dX4_init_30 : decode cX4_init 30 = .ok (.dup, 1) := by decide +kernel
theorem dX4_init_31 : decode cX4_init 31 = .ok (.invokespecial 9, 3) := by decide +kernel
theorem dX4_init_34 : decode cX4_init 34 = .ok (.putfield 19, 3) := by decide +kernel
theorem dX4_init_37 : decode cX4_init 37 = .ok (.aload_n 0, 1) := by decide +kernel
theorem dX4_init_38 : decode cX4_init 38 = .ok (.new 22, 3) := by decide +kernel
theorem dX4_init_41 : decode cX4_init 41 = .ok (.dup, 1) := by decide +kernel
theorem dX4_init_42 : decode cX4_init 42 = .ok (.invokespecial 24, 3) := by decide +kernel
theorem dX4_init_45 : decode cX4_init 45 = .ok (.putfield 25, 3) := by decide +kernel
theorem dX4_init_48 : decode cX4_init 48 = .ok (.aload_n 0, 1) := by decide +kernel
theorem dX4_init_49 : decode cX4_init 49 = .ok (.new 29, 3) := by decide +kernel
theorem dX4_init_52 : decode cX4_init 52 = .ok (.dup, 1) := by decide +kernel
theorem dX4_init_53 : decode cX4_init 53 = .ok (.invokespecial 31, 3) := by decide +kernel
theorem dX4_init_56 : decode cX4_init 56 = .ok (.putfield 32, 3) := by decide +kernel
theorem dX4_init_59 : decode cX4_init 59 = .ok (.aload_n 0, 1) := by decide +kernel
theorem dX4_init_60 : decode cX4_init 60 = .ok (.bipush 7, 2) := by decide +kernel
theorem dX4_init_62 : decode cX4_init 62 = .ok (.newarray .int, 2) := by decide +kernel
theorem dX4_init_64 : decode cX4_init 64 = .ok (.putfield 36, 3) := by decide +kernel
theorem dX4_init_67 : decode cX4_init 67 = .ok (.return_, 1) := by decide +kernel
theorem dX4_person_0 : decode cX4_person 0 = .ok (.iload_n 1, 1) := by decide +kernel
theorem dX4_person_1 : decode cX4_person 1 = .ok (.bipush 7, 2) := by decide +kernel
theorem dX4_person_3 : decode cX4_person 3 = .ok (.invokestatic 40, 3) := by decide +kernel
theorem dX4_person_6 : decode cX4_person 6 = .ok (.ifCond .eq 12, 3) := by decide +kernel
theorem dX4_person_9 : decode cX4_person 9 = .ok (.iload_n 2, 1) := by decide +kernel
theorem dX4_person_10 : decode cX4_person 10 = .ok (.bipush 16, 2) := by decide +kernel
theorem dX4_person_12 : decode cX4_person 12 = .ok (.invokestatic 40, 3) := by decide +kernel
theorem dX4_person_15 : decode cX4_person 15 = .ok (.ifCond .ne 9, 3) := by decide +kernel
theorem dX4_person_18 : decode cX4_person 18 = .ok (.aload_n 0, 1) := by decide +kernel
theorem dX4_person_19 : decode cX4_person 19 = .ok (.iconst 0, 1) := by decide +kernel
theorem dX4_person_20 : decode cX4_person 20 = .ok (.invokevirtual 44, 3) := by decide +kernel
theorem dX4_person_23 : decode cX4_person 23 = .ok (.ireturn, 1) := by decide +kernel
theorem dX4_person_24 : decode cX4_person 24 = .ok (.aload_n 0, 1) := by decide +kernel
theorem dX4_person_25 : decode cX4_person 25 = .ok (.getfield 10, 3) := by decide +kernel
theorem dX4_person_28 : decode cX4_person 28 = .ok (.invokevirtual 48, 3) := by decide +kernel
theorem dX4_person_31 : decode cX4_person 31 = .ok (.ifCond .eq 9, 3) := by decide +kernel
theorem dX4_person_34 : decode cX4_person 34 = .ok (.aload_n 0, 1) := by decide +kernel
theorem dX4_person_35 : decode cX4_person 35 = .ok (.iconst 1, 1) := by decide +kernel
theorem dX4_person_36 : decode cX4_person 36 = .ok (.invokevirtual 44, 3) := by decide +kernel
theorem dX4_person_39 : decode cX4_person 39 = .ok (.ireturn, 1) := by decide +kernel
theorem dX4_person_40 : decode cX4_person 40 = .ok (.aload_n 0, 1) := by decide +kernel
theorem dX4_person_41 : decode cX4_person 41 = .ok (.getfield 10, 3) := by decide +kernel
theorem dX4_person_44 : decode cX4_person 44 = .ok (.iload_n 1, 1) := by decide +kernel
theorem dX4_person_45 : decode cX4_person 45 = .ok (.iload_n 2, 1) := by decide +kernel
theorem dX4_person_46 : decode cX4_person 46 = .ok (.invokevirtual 52, 3) := by decide +kernel
theorem dX4_person_49 : decode cX4_person 49 = .ok (.ireturn, 1) := by decide +kernel
theorem dX4_of_0 : decode cX4_of 0 = .ok (.aload_n 0, 1) := by decide +kernel
theorem dX4_of_1 : decode cX4_of 1 = .ok (.getfield 10, 3) := by decide +kernel
theorem dX4_of_4 : decode cX4_of 4 = .ok (.iload_n 1, 1) := by decide +kernel
theorem dX4_of_5 : decode cX4_of 5 = .ok (.invokevirtual 56, 3) := by decide +kernel
theorem dX4_of_8 : decode cX4_of 8 = .ok (.ifCond .eq 12, 3) := by decide +kernel
theorem dX4_of_11 : decode cX4_of 11 = .ok (.iload_n 2, 1) := by decide +kernel
theorem dX4_of_12 : decode cX4_of 12 = .ok (.bipush 11, 2) := by decide +kernel
theorem dX4_of_14 : decode cX4_of 14 = .ok (.invokestatic 40, 3) := by decide +kernel
theorem dX4_of_17 : decode cX4_of 17 = .ok (.ifCond .ne 9, 3) := by decide +kernel
theorem dX4_of_20 : decode cX4_of 20 = .ok (.aload_n 0, 1) := by decide +kernel
theorem dX4_of_21 : decode cX4_of 21 = .ok (.iconst 0, 1) := by decide +kernel
theorem dX4_of_22 : decode cX4_of 22 = .ok (.invokevirtual 44, 3) := by decide +kernel
theorem dX4_of_25 : decode cX4_of 25 = .ok (.ireturn, 1) := by decide +kernel
theorem dX4_of_26 : decode cX4_of 26 = .ok (.aload_n 0, 1) := by decide +kernel
theorem dX4_of_27 : decode cX4_of 27 = .ok (.getfield 10, 3) := by decide +kernel
theorem dX4_of_30 : decode cX4_of 30 = .ok (.iload_n 1, 1) := by decide +kernel
theorem dX4_of_31 : decode cX4_of 31 = .ok (.iload_n 2, 1) := by decide +kernel
theorem dX4_of_32 : decode cX4_of 32 = .ok (.invokevirtual 60, 3) := by decide +kernel
theorem dX4_of_35 : decode cX4_of 35 = .ok (.ireturn, 1) := by decide +kernel
theorem dX4_change_0 : decode cX4_change 0 = .ok (.aload_n 0, 1) := by decide +kernel
theorem dX4_change_1 : decode cX4_change 1 = .ok (.getfield 10, 3) := by decide +kernel
theorem dX4_change_4 : decode cX4_change 4 = .ok (.iload_n 1, 1) := by decide +kernel
theorem dX4_change_5 : decode cX4_change 5 = .ok (.invokevirtual 56, 3) := by decide +kernel
theorem dX4_change_8 : decode cX4_change 8 = .ok (.ifCond .eq 16, 3) := by decide +kernel
theorem dX4_change_11 : decode cX4_change 11 = .ok (.aload_n 0, 1) := by decide +kernel
theorem dX4_change_12 : decode cX4_change 12 = .ok (.getfield 10, 3) := by decide +kernel
theorem dX4_change_15 : decode cX4_change 15 = .ok (.iload_n 1, 1) := by decide +kernel
theorem dX4_change_16 : decode cX4_change 16 = .ok (.iload_n 2, 1) := by decide +kernel
theorem dX4_change_17 : decode cX4_change 17 = .ok (.iload_n 3, 1) := by decide +kernel
theorem dX4_change_18 : decode cX4_change 18 = .ok (.invokevirtual 63, 3) := by decide +kernel
theorem dX4_change_21 : decode cX4_change 21 = .ok (.ifCond .ne 9, 3) := by decide +kernel
theorem dX4_change_24 : decode cX4_change 24 = .ok (.aload_n 0, 1) := by decide +kernel
theorem dX4_change_25 : decode cX4_change 25 = .ok (.iconst 0, 1) := by decide +kernel
theorem dX4_change_26 : decode cX4_change 26 = .ok (.invokevirtual 44, 3) := by decide +kernel
theorem dX4_change_29 : decode cX4_change 29 = .ok (.ireturn, 1) := by decide +kernel
theorem dX4_change_30 : decode cX4_change 30 = .ok (.aload_n 0, 1) := by decide +kernel
theorem dX4_change_31 : decode cX4_change 31 = .ok (.getfield 10, 3) := by decide +kernel
theorem dX4_change_34 : decode cX4_change 34 = .ok (.iload_n 1, 1) := by decide +kernel
theorem dX4_change_35 : decode cX4_change 35 = .ok (.iload_n 2, 1) := by decide +kernel
theorem dX4_change_36 : decode cX4_change 36 = .ok (.invokevirtual 60, 3) := by decide +kernel
theorem dX4_change_39 : decode cX4_change 39 = .ok (.istore 4, 2) := by decide +kernel
theorem dX4_change_41 : decode cX4_change 41 = .ok (.aload_n 0, 1) := by decide +kernel
theorem dX4_change_42 : decode cX4_change 42 = .ok (.getfield 10, 3) := by decide +kernel
theorem dX4_change_45 : decode cX4_change 45 = .ok (.iload_n 1, 1) := by decide +kernel
theorem dX4_change_46 : decode cX4_change 46 = .ok (.iload_n 2, 1) := by decide +kernel
theorem dX4_change_47 : decode cX4_change 47 = .ok (.iload_n 3, 1) := by decide +kernel
theorem dX4_change_48 : decode cX4_change 48 = .ok (.invokevirtual 67, 3) := by decide +kernel
theorem dX4_change_51 : decode cX4_change 51 = .ok (.iload 4, 2) := by decide +kernel
theorem dX4_change_53 : decode cX4_change 53 = .ok (.ireturn, 1) := by decide +kernel
theorem dX4_minds_0 : decode cX4_minds 0 = .ok (.aload_n 0, 1) := by decide +kernel
theorem dX4_minds_1 : decode cX4_minds 1 = .ok (.getfield 10, 3) := by decide +kernel
theorem dX4_minds_4 : decode cX4_minds 4 = .ok (.iload_n 1, 1) := by decide +kernel
theorem dX4_minds_5 : decode cX4_minds 5 = .ok (.invokevirtual 56, 3) := by decide +kernel
theorem dX4_minds_8 : decode cX4_minds 8 = .ok (.ifCond .eq 12, 3) := by decide +kernel
theorem dX4_minds_11 : decode cX4_minds 11 = .ok (.iload_n 2, 1) := by decide +kernel
theorem dX4_minds_12 : decode cX4_minds 12 = .ok (.bipush 12, 2) := by decide +kernel
theorem dX4_minds_14 : decode cX4_minds 14 = .ok (.invokestatic 40, 3) := by decide +kernel
theorem dX4_minds_17 : decode cX4_minds 17 = .ok (.ifCond .ne 9, 3) := by decide +kernel
theorem dX4_minds_20 : decode cX4_minds 20 = .ok (.aload_n 0, 1) := by decide +kernel
theorem dX4_minds_21 : decode cX4_minds 21 = .ok (.iconst 0, 1) := by decide +kernel
theorem dX4_minds_22 : decode cX4_minds 22 = .ok (.invokevirtual 44, 3) := by decide +kernel
theorem dX4_minds_25 : decode cX4_minds 25 = .ok (.ireturn, 1) := by decide +kernel
theorem dX4_minds_26 : decode cX4_minds 26 = .ok (.aload_n 0, 1) := by decide +kernel
theorem dX4_minds_27 : decode cX4_minds 27 = .ok (.getfield 10, 3) := by decide +kernel
theorem dX4_minds_30 : decode cX4_minds 30 = .ok (.iload_n 1, 1) := by decide +kernel
theorem dX4_minds_31 : decode cX4_minds 31 = .ok (.iload_n 2, 1) := by decide +kernel
theorem dX4_minds_32 : decode cX4_minds 32 = .ok (.invokevirtual 71, 3) := by decide +kernel
theorem dX4_minds_35 : decode cX4_minds 35 = .ok (.invokestatic 74, 3) := by decide +kernel
theorem dX4_minds_38 : decode cX4_minds 38 = .ok (.ireturn, 1) := by decide +kernel
theorem dX4_far_0 : decode cX4_far 0 = .ok (.aload_n 0, 1) := by decide +kernel
theorem dX4_far_1 : decode cX4_far 1 = .ok (.getfield 10, 3) := by decide +kernel
theorem dX4_far_4 : decode cX4_far 4 = .ok (.iload_n 1, 1) := by decide +kernel
theorem dX4_far_5 : decode cX4_far 5 = .ok (.iload_n 2, 1) := by decide +kernel
theorem dX4_far_6 : decode cX4_far 6 = .ok (.invokevirtual 78, 3) := by decide +kernel
theorem dX4_far_9 : decode cX4_far 9 = .ok (.ifCond .ne 9, 3) := by decide +kernel
theorem dX4_far_12 : decode cX4_far 12 = .ok (.aload_n 0, 1) := by decide +kernel
theorem dX4_far_13 : decode cX4_far 13 = .ok (.iconst 0, 1) := by decide +kernel
theorem dX4_far_14 : decode cX4_far 14 = .ok (.invokevirtual 44, 3) := by decide +kernel
theorem dX4_far_17 : decode cX4_far 17 = .ok (.ireturn, 1) := by decide +kernel
theorem dX4_far_18 : decode cX4_far 18 = .ok (.aload_n 0, 1) := by decide +kernel
theorem dX4_far_19 : decode cX4_far 19 = .ok (.getfield 10, 3) := by decide +kernel
theorem dX4_far_22 : decode cX4_far 22 = .ok (.iload_n 1, 1) := by decide +kernel
theorem dX4_far_23 : decode cX4_far 23 = .ok (.iload_n 2, 1) := by decide +kernel
theorem dX4_far_24 : decode cX4_far 24 = .ok (.invokevirtual 81, 3) := by decide +kernel
theorem dX4_far_27 : decode cX4_far 27 = .ok (.ireturn, 1) := by decide +kernel
theorem dX4_who_0 : decode cX4_who 0 = .ok (.iload_n 1, 1) := by decide +kernel
theorem dX4_who_1 : decode cX4_who 1 = .ok (.bipush 16, 2) := by decide +kernel
theorem dX4_who_3 : decode cX4_who 3 = .ok (.invokestatic 40, 3) := by decide +kernel
theorem dX4_who_6 : decode cX4_who 6 = .ok (.ifCond .ne 9, 3) := by decide +kernel
theorem dX4_who_9 : decode cX4_who 9 = .ok (.aload_n 0, 1) := by decide +kernel
theorem dX4_who_10 : decode cX4_who 10 = .ok (.iconst 0, 1) := by decide +kernel
theorem dX4_who_11 : decode cX4_who 11 = .ok (.invokevirtual 44, 3) := by decide +kernel
theorem dX4_who_14 : decode cX4_who 14 = .ok (.ireturn, 1) := by decide +kernel
theorem dX4_who_15 : decode cX4_who 15 = .ok (.aload_n 0, 1) := by decide +kernel
theorem dX4_who_16 : decode cX4_who 16 = .ok (.getfield 10, 3) := by decide +kernel
theorem dX4_who_19 : decode cX4_who 19 = .ok (.iload_n 1, 1) := by decide +kernel
theorem dX4_who_20 : decode cX4_who 20 = .ok (.invokevirtual 84, 3) := by decide +kernel
theorem dX4_who_23 : decode cX4_who 23 = .ok (.ireturn, 1) := by decide +kernel
theorem dX4_two_0 : decode cX4_two 0 = .ok (.aload_n 0, 1) := by decide +kernel
theorem dX4_two_1 : decode cX4_two 1 = .ok (.getfield 10, 3) := by decide +kernel
theorem dX4_two_4 : decode cX4_two 4 = .ok (.iload_n 1, 1) := by decide +kernel
theorem dX4_two_5 : decode cX4_two 5 = .ok (.iload_n 2, 1) := by decide +kernel
theorem dX4_two_6 : decode cX4_two 6 = .ok (.invokevirtual 78, 3) := by decide +kernel
theorem dX4_two_9 : decode cX4_two 9 = .ok (.ifCond .ne 9, 3) := by decide +kernel
theorem dX4_two_12 : decode cX4_two 12 = .ok (.aload_n 0, 1) := by decide +kernel
theorem dX4_two_13 : decode cX4_two 13 = .ok (.iconst 0, 1) := by decide +kernel
theorem dX4_two_14 : decode cX4_two 14 = .ok (.invokevirtual 44, 3) := by decide +kernel
theorem dX4_two_17 : decode cX4_two 17 = .ok (.ireturn, 1) := by decide +kernel
theorem dX4_two_18 : decode cX4_two 18 = .ok (.iload_n 3, 1) := by decide +kernel
theorem dX4_two_19 : decode cX4_two 19 = .ok (.tableswitch 64 0 2 #[25, 38, 51], 25) := by decide +kernel
theorem dX4_two_44 : decode cX4_two 44 = .ok (.aload_n 0, 1) := by decide +kernel
theorem dX4_two_45 : decode cX4_two 45 = .ok (.getfield 10, 3) := by decide +kernel
theorem dX4_two_48 : decode cX4_two 48 = .ok (.iload_n 1, 1) := by decide +kernel
theorem dX4_two_49 : decode cX4_two 49 = .ok (.iload_n 2, 1) := by decide +kernel
theorem dX4_two_50 : decode cX4_two 50 = .ok (.invokevirtual 87, 3) := by decide +kernel
theorem dX4_two_53 : decode cX4_two 53 = .ok (.invokestatic 74, 3) := by decide +kernel
theorem dX4_two_56 : decode cX4_two 56 = .ok (.ireturn, 1) := by decide +kernel
theorem dX4_two_57 : decode cX4_two 57 = .ok (.aload_n 0, 1) := by decide +kernel
theorem dX4_two_58 : decode cX4_two 58 = .ok (.getfield 10, 3) := by decide +kernel
theorem dX4_two_61 : decode cX4_two 61 = .ok (.iload_n 1, 1) := by decide +kernel
theorem dX4_two_62 : decode cX4_two 62 = .ok (.iload_n 2, 1) := by decide +kernel
theorem dX4_two_63 : decode cX4_two 63 = .ok (.invokevirtual 90, 3) := by decide +kernel
theorem dX4_two_66 : decode cX4_two 66 = .ok (.invokestatic 74, 3) := by decide +kernel
theorem dX4_two_69 : decode cX4_two 69 = .ok (.ireturn, 1) := by decide +kernel
theorem dX4_two_70 : decode cX4_two 70 = .ok (.aload_n 0, 1) := by decide +kernel
theorem dX4_two_71 : decode cX4_two 71 = .ok (.getfield 10, 3) := by decide +kernel
theorem dX4_two_74 : decode cX4_two 74 = .ok (.iload_n 1, 1) := by decide +kernel
theorem dX4_two_75 : decode cX4_two 75 = .ok (.iload_n 2, 1) := by decide +kernel
theorem dX4_two_76 : decode cX4_two 76 = .ok (.invokevirtual 93, 3) := by decide +kernel
theorem dX4_two_79 : decode cX4_two 79 = .ok (.invokestatic 74, 3) := by decide +kernel
theorem dX4_two_82 : decode cX4_two 82 = .ok (.ireturn, 1) := by decide +kernel
theorem dX4_two_83 : decode cX4_two 83 = .ok (.aload_n 0, 1) := by decide +kernel
theorem dX4_two_84 : decode cX4_two 84 = .ok (.iconst 0, 1) := by decide +kernel
theorem dX4_two_85 : decode cX4_two 85 = .ok (.invokevirtual 44, 3) := by decide +kernel
theorem dX4_two_88 : decode cX4_two 88 = .ok (.ireturn, 1) := by decide +kernel
theorem dX4_go_0 : decode cX4_go 0 = .ok (.iload_n 1, 1) := by decide +kernel
theorem dX4_go_1 : decode cX4_go 1 = .ok (.iconst 1, 1) := by decide +kernel
theorem dX4_go_2 : decode cX4_go 2 = .ok (.if_icmp .lt 9, 3) := by decide +kernel
theorem dX4_go_5 : decode cX4_go 5 = .ok (.iload_n 1, 1) := by decide +kernel
theorem dX4_go_6 : decode cX4_go 6 = .ok (.bipush 60, 2) := by decide +kernel
theorem dX4_go_8 : decode cX4_go 8 = .ok (.if_icmp .le 9, 3) := by decide +kernel
theorem dX4_go_11 : decode cX4_go 11 = .ok (.aload_n 0, 1) := by decide +kernel
theorem dX4_go_12 : decode cX4_go 12 = .ok (.iconst 0, 1) := by decide +kernel
theorem dX4_go_13 : decode cX4_go 13 = .ok (.invokevirtual 44, 3) := by decide +kernel
theorem dX4_go_16 : decode cX4_go 16 = .ok (.ireturn, 1) := by decide +kernel
theorem dX4_go_17 : decode cX4_go 17 = .ok (.aload_n 0, 1) := by decide +kernel
theorem dX4_go_18 : decode cX4_go 18 = .ok (.getfield 10, 3) := by decide +kernel
theorem dX4_go_21 : decode cX4_go 21 = .ok (.iload_n 1, 1) := by decide +kernel
theorem dX4_go_22 : decode cX4_go 22 = .ok (.invokevirtual 96, 3) := by decide +kernel
theorem dX4_go_25 : decode cX4_go 25 = .ok (.ifCond .ne 9, 3) := by decide +kernel
theorem dX4_go_28 : decode cX4_go 28 = .ok (.aload_n 0, 1) := by decide +kernel
theorem dX4_go_29 : decode cX4_go 29 = .ok (.iconst 4, 1) := by decide +kernel
theorem dX4_go_30 : decode cX4_go 30 = .ok (.invokevirtual 44, 3) := by decide +kernel
theorem dX4_go_33 : decode cX4_go 33 = .ok (.ireturn, 1) := by decide +kernel
theorem dX4_go_34 : decode cX4_go 34 = .ok (.aload_n 0, 1) := by decide +kernel
theorem dX4_go_35 : decode cX4_go 35 = .ok (.getfield 10, 3) := by decide +kernel
theorem dX4_go_38 : decode cX4_go 38 = .ok (.iload_n 1, 1) := by decide +kernel
theorem dX4_go_39 : decode cX4_go 39 = .ok (.invokevirtual 99, 3) := by decide +kernel
theorem dX4_go_42 : decode cX4_go 42 = .ok (.aload_n 0, 1) := by decide +kernel
theorem dX4_go_43 : decode cX4_go 43 = .ok (.getfield 10, 3) := by decide +kernel
theorem dX4_go_46 : decode cX4_go 46 = .ok (.getfield 103, 3) := by decide +kernel
theorem dX4_go_49 : decode cX4_go 49 = .ok (.ireturn, 1) := by decide +kernel
theorem dX4_now_0 : decode cX4_now 0 = .ok (.iload_n 1, 1) := by decide +kernel
theorem dX4_now_1 : decode cX4_now 1 = .ok (.tableswitch 117 0 7 #[47, 55, 63, 71, 79, 87, 95, 103], 47) := by decide +kernel
theorem dX4_now_48 : decode cX4_now 48 = .ok (.aload_n 0, 1) := by decide +kernel
theorem dX4_now_49 : decode cX4_now 49 = .ok (.getfield 10, 3) := by decide +kernel
theorem dX4_now_52 : decode cX4_now 52 = .ok (.getfield 107, 3) := by decide +kernel
theorem dX4_now_55 : decode cX4_now 55 = .ok (.ireturn, 1) := by decide +kernel
theorem dX4_now_56 : decode cX4_now 56 = .ok (.aload_n 0, 1) := by decide +kernel
theorem dX4_now_57 : decode cX4_now 57 = .ok (.getfield 10, 3) := by decide +kernel
theorem dX4_now_60 : decode cX4_now 60 = .ok (.getfield 103, 3) := by decide +kernel
theorem dX4_now_63 : decode cX4_now 63 = .ok (.ireturn, 1) := by decide +kernel
theorem dX4_now_64 : decode cX4_now 64 = .ok (.aload_n 0, 1) := by decide +kernel
theorem dX4_now_65 : decode cX4_now 65 = .ok (.getfield 10, 3) := by decide +kernel
theorem dX4_now_68 : decode cX4_now 68 = .ok (.invokevirtual 110, 3) := by decide +kernel
theorem dX4_now_71 : decode cX4_now 71 = .ok (.ireturn, 1) := by decide +kernel
theorem dX4_now_72 : decode cX4_now 72 = .ok (.aload_n 0, 1) := by decide +kernel
theorem dX4_now_73 : decode cX4_now 73 = .ok (.getfield 10, 3) := by decide +kernel
