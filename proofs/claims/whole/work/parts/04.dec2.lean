theorem dX4_now_76 : decode cX4_now 76 = .ok (.invokevirtual 114, 3) := by decide +kernel
theorem dX4_now_79 : decode cX4_now 79 = .ok (.ireturn, 1) := by decide +kernel
theorem dX4_now_80 : decode cX4_now 80 = .ok (.aload_n 0, 1) := by decide +kernel
theorem dX4_now_81 : decode cX4_now 81 = .ok (.getfield 10, 3) := by decide +kernel
theorem dX4_now_84 : decode cX4_now 84 = .ok (.invokevirtual 117, 3) := by decide +kernel
theorem dX4_now_87 : decode cX4_now 87 = .ok (.ireturn, 1) := by decide +kernel
theorem dX4_now_88 : decode cX4_now 88 = .ok (.aload_n 0, 1) := by decide +kernel
theorem dX4_now_89 : decode cX4_now 89 = .ok (.getfield 10, 3) := by decide +kernel
theorem dX4_now_92 : decode cX4_now 92 = .ok (.invokevirtual 120, 3) := by decide +kernel
theorem dX4_now_95 : decode cX4_now 95 = .ok (.ireturn, 1) := by decide +kernel
theorem dX4_now_96 : decode cX4_now 96 = .ok (.aload_n 0, 1) := by decide +kernel
theorem dX4_now_97 : decode cX4_now 97 = .ok (.getfield 10, 3) := by decide +kernel
theorem dX4_now_100 : decode cX4_now 100 = .ok (.invokevirtual 123, 3) := by decide +kernel
theorem dX4_now_103 : decode cX4_now 103 = .ok (.ireturn, 1) := by decide +kernel
theorem dX4_now_104 : decode cX4_now 104 = .ok (.aload_n 0, 1) := by decide +kernel
theorem dX4_now_105 : decode cX4_now 105 = .ok (.getfield 10, 3) := by decide +kernel
theorem dX4_now_108 : decode cX4_now 108 = .ok (.getfield 107, 3) := by decide +kernel
theorem dX4_now_111 : decode cX4_now 111 = .ok (.invokestatic 126, 3) := by decide +kernel
theorem dX4_now_114 : decode cX4_now 114 = .ok (.invokestatic 74, 3) := by decide +kernel
theorem dX4_now_117 : decode cX4_now 117 = .ok (.ireturn, 1) := by decide +kernel
theorem dX4_now_118 : decode cX4_now 118 = .ok (.aload_n 0, 1) := by decide +kernel
theorem dX4_now_119 : decode cX4_now 119 = .ok (.iconst 0, 1) := by decide +kernel
theorem dX4_now_120 : decode cX4_now 120 = .ok (.invokevirtual 44, 3) := by decide +kernel
theorem dX4_now_123 : decode cX4_now 123 = .ok (.ireturn, 1) := by decide +kernel
theorem dX4_ahead_0 : decode cX4_ahead 0 = .ok (.iload_n 2, 1) := by decide +kernel
theorem dX4_ahead_1 : decode cX4_ahead 1 = .ok (.iconst 1, 1) := by decide +kernel
theorem dX4_ahead_2 : decode cX4_ahead 2 = .ok (.if_icmp .eq 24, 3) := by decide +kernel
theorem dX4_ahead_5 : decode cX4_ahead 5 = .ok (.iload_n 2, 1) := by decide +kernel
theorem dX4_ahead_6 : decode cX4_ahead 6 = .ok (.iconst 2, 1) := by decide +kernel
theorem dX4_ahead_7 : decode cX4_ahead 7 = .ok (.if_icmp .eq 19, 3) := by decide +kernel
theorem dX4_ahead_10 : decode cX4_ahead 10 = .ok (.iload_n 2, 1) := by decide +kernel
theorem dX4_ahead_11 : decode cX4_ahead 11 = .ok (.iconst 3, 1) := by decide +kernel
theorem dX4_ahead_12 : decode cX4_ahead 12 = .ok (.if_icmp .eq 14, 3) := by decide +kernel
theorem dX4_ahead_15 : decode cX4_ahead 15 = .ok (.iload_n 2, 1) := by decide +kernel
theorem dX4_ahead_16 : decode cX4_ahead 16 = .ok (.iconst 4, 1) := by decide +kernel
theorem dX4_ahead_17 : decode cX4_ahead 17 = .ok (.if_icmp .eq 9, 3) := by decide +kernel
theorem dX4_ahead_20 : decode cX4_ahead 20 = .ok (.iload_n 2, 1) := by decide +kernel
theorem dX4_ahead_21 : decode cX4_ahead 21 = .ok (.bipush 6, 2) := by decide +kernel
theorem dX4_ahead_23 : decode cX4_ahead 23 = .ok (.if_icmp .ne 7, 3) := by decide +kernel
theorem dX4_ahead_26 : decode cX4_ahead 26 = .ok (.iconst 1, 1) := by decide +kernel
theorem dX4_ahead_27 : decode cX4_ahead 27 = .ok (.goto 4, 3) := by decide +kernel
theorem dX4_ahead_30 : decode cX4_ahead 30 = .ok (.iconst 0, 1) := by decide +kernel
theorem dX4_ahead_31 : decode cX4_ahead 31 = .ok (.istore 4, 2) := by decide +kernel
theorem dX4_ahead_33 : decode cX4_ahead 33 = .ok (.aload_n 0, 1) := by decide +kernel
theorem dX4_ahead_34 : decode cX4_ahead 34 = .ok (.getfield 10, 3) := by decide +kernel
theorem dX4_ahead_37 : decode cX4_ahead 37 = .ok (.iload_n 1, 1) := by decide +kernel
theorem dX4_ahead_38 : decode cX4_ahead 38 = .ok (.invokevirtual 56, 3) := by decide +kernel
theorem dX4_ahead_41 : decode cX4_ahead 41 = .ok (.ifCond .eq 18, 3) := by decide +kernel
theorem dX4_ahead_44 : decode cX4_ahead 44 = .ok (.iload 4, 2) := by decide +kernel
theorem dX4_ahead_46 : decode cX4_ahead 46 = .ok (.ifCond .eq 13, 3) := by decide +kernel
theorem dX4_ahead_49 : decode cX4_ahead 49 = .ok (.iload_n 3, 1) := by decide +kernel
theorem dX4_ahead_50 : decode cX4_ahead 50 = .ok (.ifCond .lt 9, 3) := by decide +kernel
theorem dX4_ahead_53 : decode cX4_ahead 53 = .ok (.iload_n 3, 1) := by decide +kernel
theorem dX4_ahead_54 : decode cX4_ahead 54 = .ok (.bipush 100, 2) := by decide +kernel
theorem dX4_ahead_56 : decode cX4_ahead 56 = .ok (.if_icmp .le 9, 3) := by decide +kernel
theorem dX4_ahead_59 : decode cX4_ahead 59 = .ok (.aload_n 0, 1) := by decide +kernel
theorem dX4_ahead_60 : decode cX4_ahead 60 = .ok (.iconst 0, 1) := by decide +kernel
theorem dX4_ahead_61 : decode cX4_ahead 61 = .ok (.invokevirtual 44, 3) := by decide +kernel
theorem dX4_ahead_64 : decode cX4_ahead 64 = .ok (.ireturn, 1) := by decide +kernel
theorem dX4_ahead_65 : decode cX4_ahead 65 = .ok (.aload_n 0, 1) := by decide +kernel
theorem dX4_ahead_66 : decode cX4_ahead 66 = .ok (.getfield 16, 3) := by decide +kernel
theorem dX4_ahead_69 : decode cX4_ahead 69 = .ok (.aload_n 0, 1) := by decide +kernel
theorem dX4_ahead_70 : decode cX4_ahead 70 = .ok (.getfield 10, 3) := by decide +kernel
theorem dX4_ahead_73 : decode cX4_ahead 73 = .ok (.invokevirtual 129, 3) := by decide +kernel
theorem dX4_ahead_76 : decode cX4_ahead 76 = .ok (.aload_n 0, 1) := by decide +kernel
theorem dX4_ahead_77 : decode cX4_ahead 77 = .ok (.getfield 16, 3) := by decide +kernel
theorem dX4_ahead_80 : decode cX4_ahead 80 = .ok (.iload_n 3, 1) := by decide +kernel
theorem dX4_ahead_81 : decode cX4_ahead 81 = .ok (.invokevirtual 99, 3) := by decide +kernel
theorem dX4_ahead_84 : decode cX4_ahead 84 = .ok (.aload_n 0, 1) := by decide +kernel
theorem dX4_ahead_85 : decode cX4_ahead 85 = .ok (.getfield 16, 3) := by decide +kernel
theorem dX4_ahead_88 : decode cX4_ahead 88 = .ok (.iload_n 1, 1) := by decide +kernel
theorem dX4_ahead_89 : decode cX4_ahead 89 = .ok (.iload_n 2, 1) := by decide +kernel
theorem dX4_ahead_90 : decode cX4_ahead 90 = .ok (.invokevirtual 60, 3) := by decide +kernel
theorem dX4_ahead_93 : decode cX4_ahead 93 = .ok (.ireturn, 1) := by decide +kernel
theorem dX4_joy_0 : decode cX4_joy 0 = .ok (.iload_n 1, 1) := by decide +kernel
theorem dX4_joy_1 : decode cX4_joy 1 = .ok (.ifCond .lt 9, 3) := by decide +kernel
theorem dX4_joy_4 : decode cX4_joy 4 = .ok (.iload_n 1, 1) := by decide +kernel
theorem dX4_joy_5 : decode cX4_joy 5 = .ok (.bipush 100, 2) := by decide +kernel
theorem dX4_joy_7 : decode cX4_joy 7 = .ok (.if_icmp .le 9, 3) := by decide +kernel
theorem dX4_joy_10 : decode cX4_joy 10 = .ok (.aload_n 0, 1) := by decide +kernel
theorem dX4_joy_11 : decode cX4_joy 11 = .ok (.iconst 0, 1) := by decide +kernel
theorem dX4_joy_12 : decode cX4_joy 12 = .ok (.invokevirtual 44, 3) := by decide +kernel
theorem dX4_joy_15 : decode cX4_joy 15 = .ok (.ireturn, 1) := by decide +kernel
theorem dX4_joy_16 : decode cX4_joy 16 = .ok (.aload_n 0, 1) := by decide +kernel
theorem dX4_joy_17 : decode cX4_joy 17 = .ok (.getfield 16, 3) := by decide +kernel
theorem dX4_joy_20 : decode cX4_joy 20 = .ok (.aload_n 0, 1) := by decide +kernel
theorem dX4_joy_21 : decode cX4_joy 21 = .ok (.getfield 10, 3) := by decide +kernel
theorem dX4_joy_24 : decode cX4_joy 24 = .ok (.invokevirtual 129, 3) := by decide +kernel
theorem dX4_joy_27 : decode cX4_joy 27 = .ok (.aload_n 0, 1) := by decide +kernel
theorem dX4_joy_28 : decode cX4_joy 28 = .ok (.getfield 16, 3) := by decide +kernel
theorem dX4_joy_31 : decode cX4_joy 31 = .ok (.iload_n 1, 1) := by decide +kernel
theorem dX4_joy_32 : decode cX4_joy 32 = .ok (.invokevirtual 99, 3) := by decide +kernel
theorem dX4_joy_35 : decode cX4_joy 35 = .ok (.aload_n 0, 1) := by decide +kernel
theorem dX4_joy_36 : decode cX4_joy 36 = .ok (.getfield 16, 3) := by decide +kernel
theorem dX4_joy_39 : decode cX4_joy 39 = .ok (.getfield 103, 3) := by decide +kernel
theorem dX4_joy_42 : decode cX4_joy 42 = .ok (.ireturn, 1) := by decide +kernel
theorem dX4_when_0 : decode cX4_when 0 = .ok (.aload_n 0, 1) := by decide +kernel
theorem dX4_when_1 : decode cX4_when 1 = .ok (.getfield 10, 3) := by decide +kernel
theorem dX4_when_4 : decode cX4_when 4 = .ok (.iload_n 1, 1) := by decide +kernel
theorem dX4_when_5 : decode cX4_when 5 = .ok (.iload_n 2, 1) := by decide +kernel
theorem dX4_when_6 : decode cX4_when 6 = .ok (.invokevirtual 78, 3) := by decide +kernel
theorem dX4_when_9 : decode cX4_when 9 = .ok (.ifCond .eq 12, 3) := by decide +kernel
theorem dX4_when_12 : decode cX4_when 12 = .ok (.iload_n 3, 1) := by decide +kernel
theorem dX4_when_13 : decode cX4_when 13 = .ok (.ifCond .lt 8, 3) := by decide +kernel
theorem dX4_when_16 : decode cX4_when 16 = .ok (.iload_n 3, 1) := by decide +kernel
theorem dX4_when_17 : decode cX4_when 17 = .ok (.iconst 2, 1) := by decide +kernel
theorem dX4_when_18 : decode cX4_when 18 = .ok (.if_icmp .le 9, 3) := by decide +kernel
theorem dX4_when_21 : decode cX4_when 21 = .ok (.aload_n 0, 1) := by decide +kernel
theorem dX4_when_22 : decode cX4_when 22 = .ok (.iconst 0, 1) := by decide +kernel
theorem dX4_when_23 : decode cX4_when 23 = .ok (.invokevirtual 44, 3) := by decide +kernel
theorem dX4_when_26 : decode cX4_when 26 = .ok (.ireturn, 1) := by decide +kernel
theorem dX4_when_27 : decode cX4_when 27 = .ok (.aload_n 0, 1) := by decide +kernel
theorem dX4_when_28 : decode cX4_when 28 = .ok (.getfield 16, 3) := by decide +kernel
theorem dX4_when_31 : decode cX4_when 31 = .ok (.aload_n 0, 1) := by decide +kernel
theorem dX4_when_32 : decode cX4_when 32 = .ok (.getfield 10, 3) := by decide +kernel
theorem dX4_when_35 : decode cX4_when 35 = .ok (.invokevirtual 129, 3) := by decide +kernel
theorem dX4_when_38 : decode cX4_when 38 = .ok (.iconst 0, 1) := by decide +kernel
theorem dX4_when_39 : decode cX4_when 39 = .ok (.istore 4, 2) := by decide +kernel
theorem dX4_when_41 : decode cX4_when 41 = .ok (.iload 4, 2) := by decide +kernel
theorem dX4_when_43 : decode cX4_when 43 = .ok (.sipush 200, 3) := by decide +kernel
theorem dX4_when_46 : decode cX4_when 46 = .ok (.if_icmp .gt 32, 3) := by decide +kernel
theorem dX4_when_49 : decode cX4_when 49 = .ok (.aload_n 0, 1) := by decide +kernel
theorem dX4_when_50 : decode cX4_when 50 = .ok (.getfield 16, 3) := by decide +kernel
theorem dX4_when_53 : decode cX4_when 53 = .ok (.iload_n 1, 1) := by decide +kernel
theorem dX4_when_54 : decode cX4_when 54 = .ok (.iload_n 2, 1) := by decide +kernel
theorem dX4_when_55 : decode cX4_when 55 = .ok (.iload_n 3, 1) := by decide +kernel
theorem dX4_when_56 : decode cX4_when 56 = .ok (.invokestatic 133, 3) := by decide +kernel
theorem dX4_when_59 : decode cX4_when 59 = .ok (.ifCond .eq 6, 3) := by decide +kernel
theorem dX4_when_62 : decode cX4_when 62 = .ok (.iload 4, 2) := by decide +kernel
theorem dX4_when_64 : decode cX4_when 64 = .ok (.ireturn, 1) := by decide +kernel
theorem dX4_when_65 : decode cX4_when 65 = .ok (.aload_n 0, 1) := by decide +kernel
theorem dX4_when_66 : decode cX4_when 66 = .ok (.getfield 16, 3) := by decide +kernel
theorem dX4_when_69 : decode cX4_when 69 = .ok (.invokevirtual 137, 3) := by decide +kernel
theorem dX4_when_72 : decode cX4_when 72 = .ok (.iinc 4 1, 3) := by decide +kernel
theorem dX4_when_75 : decode cX4_when 75 = .ok (.goto (-34), 3) := by decide +kernel
theorem dX4_when_78 : decode cX4_when 78 = .ok (.aload_n 0, 1) := by decide +kernel
theorem dX4_when_79 : decode cX4_when 79 = .ok (.iconst 3, 1) := by decide +kernel
theorem dX4_when_80 : decode cX4_when 80 = .ok (.invokevirtual 44, 3) := by decide +kernel
theorem dX4_when_83 : decode cX4_when 83 = .ok (.ireturn, 1) := by decide +kernel
theorem dX4_isSo_0 : decode cX4_isSo 0 = .ok (.iload_n 3, 1) := by decide +kernel
theorem dX4_isSo_1 : decode cX4_isSo 1 = .ok (.lookupswitch 41 #[(0, 27), (1, 34)], 27) := by decide +kernel
theorem dX4_isSo_28 : decode cX4_isSo 28 = .ok (.aload_n 0, 1) := by decide +kernel
theorem dX4_isSo_29 : decode cX4_isSo 29 = .ok (.iload_n 1, 1) := by decide +kernel
theorem dX4_isSo_30 : decode cX4_isSo 30 = .ok (.iload_n 2, 1) := by decide +kernel
theorem dX4_isSo_31 : decode cX4_isSo 31 = .ok (.invokevirtual 87, 3) := by decide +kernel
theorem dX4_isSo_34 : decode cX4_isSo 34 = .ok (.ireturn, 1) := by decide +kernel
theorem dX4_isSo_35 : decode cX4_isSo 35 = .ok (.aload_n 0, 1) := by decide +kernel
theorem dX4_isSo_36 : decode cX4_isSo 36 = .ok (.iload_n 1, 1) := by decide +kernel
theorem dX4_isSo_37 : decode cX4_isSo 37 = .ok (.iload_n 2, 1) := by decide +kernel
theorem dX4_isSo_38 : decode cX4_isSo 38 = .ok (.invokevirtual 90, 3) := by decide +kernel
theorem dX4_isSo_41 : decode cX4_isSo 41 = .ok (.ireturn, 1) := by decide +kernel
theorem dX4_isSo_42 : decode cX4_isSo 42 = .ok (.aload_n 0, 1) := by decide +kernel
theorem dX4_isSo_43 : decode cX4_isSo 43 = .ok (.iload_n 1, 1) := by decide +kernel
theorem dX4_isSo_44 : decode cX4_isSo 44 = .ok (.iload_n 2, 1) := by decide +kernel
theorem dX4_isSo_45 : decode cX4_isSo 45 = .ok (.invokevirtual 81, 3) := by decide +kernel
theorem dX4_isSo_48 : decode cX4_isSo 48 = .ok (.ifCond .ne 7, 3) := by decide +kernel
theorem dX4_isSo_51 : decode cX4_isSo 51 = .ok (.iconst 1, 1) := by decide +kernel
theorem dX4_isSo_52 : decode cX4_isSo 52 = .ok (.goto 4, 3) := by decide +kernel
theorem dX4_isSo_55 : decode cX4_isSo 55 = .ok (.iconst 0, 1) := by decide +kernel
theorem dX4_isSo_56 : decode cX4_isSo 56 = .ok (.ireturn, 1) := by decide +kernel
theorem dX4_known_0 : decode cX4_known 0 = .ok (.aload_n 0, 1) := by decide +kernel
theorem dX4_known_1 : decode cX4_known 1 = .ok (.getfield 16, 3) := by decide +kernel
theorem dX4_known_4 : decode cX4_known 4 = .ok (.aload_n 0, 1) := by decide +kernel
theorem dX4_known_5 : decode cX4_known 5 = .ok (.getfield 10, 3) := by decide +kernel
theorem dX4_known_8 : decode cX4_known 8 = .ok (.invokevirtual 129, 3) := by decide +kernel
theorem dX4_known_11 : decode cX4_known 11 = .ok (.iconst 0, 1) := by decide +kernel
theorem dX4_known_12 : decode cX4_known 12 = .ok (.istore_n 1, 1) := by decide +kernel
theorem dX4_known_13 : decode cX4_known 13 = .ok (.iload_n 1, 1) := by decide +kernel
theorem dX4_known_14 : decode cX4_known 14 = .ok (.sipush 200, 3) := by decide +kernel
theorem dX4_known_17 : decode cX4_known 17 = .ok (.if_icmp .gt 28, 3) := by decide +kernel
theorem dX4_known_20 : decode cX4_known 20 = .ok (.aload_n 0, 1) := by decide +kernel
theorem dX4_known_21 : decode cX4_known 21 = .ok (.getfield 16, 3) := by decide +kernel
theorem dX4_known_24 : decode cX4_known 24 = .ok (.invokevirtual 110, 3) := by decide +kernel
theorem dX4_known_27 : decode cX4_known 27 = .ok (.ifCond .eq 5, 3) := by decide +kernel
theorem dX4_known_30 : decode cX4_known 30 = .ok (.iload_n 1, 1) := by decide +kernel
theorem dX4_known_31 : decode cX4_known 31 = .ok (.ireturn, 1) := by decide +kernel
theorem dX4_known_32 : decode cX4_known 32 = .ok (.aload_n 0, 1) := by decide +kernel
theorem dX4_known_33 : decode cX4_known 33 = .ok (.getfield 16, 3) := by decide +kernel
theorem dX4_known_36 : decode cX4_known 36 = .ok (.invokevirtual 137, 3) := by decide +kernel
theorem dX4_known_39 : decode cX4_known 39 = .ok (.iinc 1 1, 3) := by decide +kernel
theorem dX4_known_42 : decode cX4_known 42 = .ok (.goto (-29), 3) := by decide +kernel
theorem dX4_known_45 : decode cX4_known 45 = .ok (.aload_n 0, 1) := by decide +kernel
theorem dX4_known_46 : decode cX4_known 46 = .ok (.iconst 3, 1) := by decide +kernel
theorem dX4_known_47 : decode cX4_known 47 = .ok (.invokevirtual 44, 3) := by decide +kernel
theorem dX4_known_50 : decode cX4_known 50 = .ok (.ireturn, 1) := by decide +kernel
theorem dX4_passed_0 : decode cX4_passed 0 = .ok (.aload_n 0, 1) := by decide +kernel
theorem dX4_passed_1 : decode cX4_passed 1 = .ok (.getfield 10, 3) := by decide +kernel
theorem dX4_passed_4 : decode cX4_passed 4 = .ok (.iload_n 1, 1) := by decide +kernel
theorem dX4_passed_5 : decode cX4_passed 5 = .ok (.invokevirtual 56, 3) := by decide +kernel
theorem dX4_passed_8 : decode cX4_passed 8 = .ok (.ifCond .eq 14, 3) := by decide +kernel
theorem dX4_passed_11 : decode cX4_passed 11 = .ok (.iload_n 2, 1) := by decide +kernel
theorem dX4_passed_12 : decode cX4_passed 12 = .ok (.ifCond .lt 10, 3) := by decide +kernel
theorem dX4_passed_15 : decode cX4_passed 15 = .ok (.iload_n 2, 1) := by decide +kernel
theorem dX4_passed_16 : decode cX4_passed 16 = .ok (.sipush 9999, 3) := by decide +kernel
theorem dX4_passed_19 : decode cX4_passed 19 = .ok (.if_icmp .le 9, 3) := by decide +kernel
theorem dX4_passed_22 : decode cX4_passed 22 = .ok (.aload_n 0, 1) := by decide +kernel
theorem dX4_passed_23 : decode cX4_passed 23 = .ok (.iconst 0, 1) := by decide +kernel
theorem dX4_passed_24 : decode cX4_passed 24 = .ok (.invokevirtual 44, 3) := by decide +kernel
theorem dX4_passed_27 : decode cX4_passed 27 = .ok (.ireturn, 1) := by decide +kernel
theorem dX4_passed_28 : decode cX4_passed 28 = .ok (.aload_n 0, 1) := by decide +kernel
theorem dX4_passed_29 : decode cX4_passed 29 = .ok (.getfield 16, 3) := by decide +kernel
theorem dX4_passed_32 : decode cX4_passed 32 = .ok (.aload_n 0, 1) := by decide +kernel
theorem dX4_passed_33 : decode cX4_passed 33 = .ok (.getfield 10, 3) := by decide +kernel
theorem dX4_passed_36 : decode cX4_passed 36 = .ok (.invokevirtual 129, 3) := by decide +kernel
theorem dX4_passed_39 : decode cX4_passed 39 = .ok (.iconst 0, 1) := by decide +kernel
theorem dX4_passed_40 : decode cX4_passed 40 = .ok (.istore_n 3, 1) := by decide +kernel
theorem dX4_passed_41 : decode cX4_passed 41 = .ok (.iload_n 3, 1) := by decide +kernel
theorem dX4_passed_42 : decode cX4_passed 42 = .ok (.sipush 200, 3) := by decide +kernel
theorem dX4_passed_45 : decode cX4_passed 45 = .ok (.if_icmp .gt 32, 3) := by decide +kernel
theorem dX4_passed_48 : decode cX4_passed 48 = .ok (.aload_n 0, 1) := by decide +kernel
theorem dX4_passed_49 : decode cX4_passed 49 = .ok (.getfield 16, 3) := by decide +kernel
theorem dX4_passed_52 : decode cX4_passed 52 = .ok (.iload_n 1, 1) := by decide +kernel
theorem dX4_passed_53 : decode cX4_passed 53 = .ok (.bipush 6, 2) := by decide +kernel
theorem dX4_passed_55 : decode cX4_passed 55 = .ok (.invokevirtual 60, 3) := by decide +kernel
theorem dX4_passed_58 : decode cX4_passed 58 = .ok (.iload_n 2, 1) := by decide +kernel
theorem dX4_passed_59 : decode cX4_passed 59 = .ok (.if_icmp .lt 5, 3) := by decide +kernel
theorem dX4_passed_62 : decode cX4_passed 62 = .ok (.iload_n 3, 1) := by decide +kernel
theorem dX4_passed_63 : decode cX4_passed 63 = .ok (.ireturn, 1) := by decide +kernel
theorem dX4_passed_64 : decode cX4_passed 64 = .ok (.aload_n 0, 1) := by decide +kernel
theorem dX4_passed_65 : decode cX4_passed 65 = .ok (.getfield 16, 3) := by decide +kernel
theorem dX4_passed_68 : decode cX4_passed 68 = .ok (.invokevirtual 137, 3) := by decide +kernel
theorem dX4_passed_71 : decode cX4_passed 71 = .ok (.iinc 3 1, 3) := by decide +kernel
theorem dX4_passed_74 : decode cX4_passed 74 = .ok (.goto (-33), 3) := by decide +kernel
theorem dX4_passed_77 : decode cX4_passed 77 = .ok (.aload_n 0, 1) := by decide +kernel
theorem dX4_passed_78 : decode cX4_passed 78 = .ok (.iconst 3, 1) := by decide +kernel
theorem dX4_passed_79 : decode cX4_passed 79 = .ok (.invokevirtual 44, 3) := by decide +kernel
theorem dX4_passed_82 : decode cX4_passed 82 = .ok (.ireturn, 1) := by decide +kernel
theorem dX4_standFor_0 : decode cX4_standFor 0 = .ok (.aload_n 0, 1) := by decide +kernel
theorem dX4_standFor_1 : decode cX4_standFor 1 = .ok (.iload_n 1, 1) := by decide +kernel
theorem dX4_standFor_2 : decode cX4_standFor 2 = .ok (.iconst 1, 1) := by decide +kernel
theorem dX4_standFor_3 : decode cX4_standFor 3 = .ok (.bipush 16, 2) := by decide +kernel
theorem dX4_standFor_5 : decode cX4_standFor 5 = .ok (.iload_n 2, 1) := by decide +kernel
theorem dX4_standFor_6 : decode cX4_standFor 6 = .ok (.invokevirtual 140, 3) := by decide +kernel
theorem dX4_standFor_9 : decode cX4_standFor 9 = .ok (.ireturn, 1) := by decide +kernel
theorem dX4_guiseFor_0 : decode cX4_guiseFor 0 = .ok (.aload_n 0, 1) := by decide +kernel
theorem dX4_guiseFor_1 : decode cX4_guiseFor 1 = .ok (.iload_n 1, 1) := by decide +kernel
theorem dX4_guiseFor_2 : decode cX4_guiseFor 2 = .ok (.iconst 2, 1) := by decide +kernel
theorem dX4_guiseFor_3 : decode cX4_guiseFor 3 = .ok (.bipush 12, 2) := by decide +kernel
theorem dX4_guiseFor_5 : decode cX4_guiseFor 5 = .ok (.iload_n 2, 1) := by decide +kernel
theorem dX4_guiseFor_6 : decode cX4_guiseFor 6 = .ok (.invokevirtual 140, 3) := by decide +kernel
theorem dX4_guiseFor_9 : decode cX4_guiseFor 9 = .ok (.ireturn, 1) := by decide +kernel
theorem dX4_kindFor_0 : decode cX4_kindFor 0 = .ok (.aload_n 0, 1) := by decide +kernel
theorem dX4_kindFor_1 : decode cX4_kindFor 1 = .ok (.iload_n 1, 1) := by decide +kernel
theorem dX4_kindFor_2 : decode cX4_kindFor 2 = .ok (.iconst 0, 1) := by decide +kernel
theorem dX4_kindFor_3 : decode cX4_kindFor 3 = .ok (.bipush 7, 2) := by decide +kernel
theorem dX4_kindFor_5 : decode cX4_kindFor 5 = .ok (.iload_n 2, 1) := by decide +kernel
theorem dX4_kindFor_6 : decode cX4_kindFor 6 = .ok (.invokevirtual 140, 3) := by decide +kernel
theorem dX4_kindFor_9 : decode cX4_kindFor 9 = .ok (.ireturn, 1) := by decide +kernel
theorem dX4_mostJoyous_0 : decode cX4_mostJoyous 0 = .ok (.aload_n 0, 1) := by decide +kernel
theorem dX4_mostJoyous_1 : decode cX4_mostJoyous 1 = .ok (.getfield 10, 3) := by decide +kernel
theorem dX4_mostJoyous_4 : decode cX4_mostJoyous 4 = .ok (.iload_n 1, 1) := by decide +kernel
theorem dX4_mostJoyous_5 : decode cX4_mostJoyous 5 = .ok (.invokevirtual 56, 3) := by decide +kernel
theorem dX4_mostJoyous_8 : decode cX4_mostJoyous 8 = .ok (.ifCond .eq 15, 3) := by decide +kernel
theorem dX4_mostJoyous_11 : decode cX4_mostJoyous 11 = .ok (.iload 4, 2) := by decide +kernel
theorem dX4_mostJoyous_13 : decode cX4_mostJoyous 13 = .ok (.ifCond .lt 10, 3) := by decide +kernel
theorem dX4_mostJoyous_16 : decode cX4_mostJoyous 16 = .ok (.iload 4, 2) := by decide +kernel
theorem dX4_mostJoyous_18 : decode cX4_mostJoyous 18 = .ok (.bipush 60, 2) := by decide +kernel
theorem dX4_mostJoyous_20 : decode cX4_mostJoyous 20 = .ok (.if_icmp .le 9, 3) := by decide +kernel
theorem dX4_mostJoyous_23 : decode cX4_mostJoyous 23 = .ok (.aload_n 0, 1) := by decide +kernel
theorem dX4_mostJoyous_24 : decode cX4_mostJoyous 24 = .ok (.iconst 0, 1) := by decide +kernel
theorem dX4_mostJoyous_25 : decode cX4_mostJoyous 25 = .ok (.invokevirtual 44, 3) := by decide +kernel
theorem dX4_mostJoyous_28 : decode cX4_mostJoyous 28 = .ok (.ireturn, 1) := by decide +kernel
theorem dX4_mostJoyous_29 : decode cX4_mostJoyous 29 = .ok (.iconst 0, 1) := by decide +kernel
theorem dX4_mostJoyous_30 : decode cX4_mostJoyous 30 = .ok (.istore 5, 2) := by decide +kernel
theorem dX4_mostJoyous_32 : decode cX4_mostJoyous 32 = .ok (.iconst (-1), 1) := by decide +kernel
theorem dX4_mostJoyous_33 : decode cX4_mostJoyous 33 = .ok (.istore 6, 2) := by decide +kernel
theorem dX4_mostJoyous_35 : decode cX4_mostJoyous 35 = .ok (.iconst 0, 1) := by decide +kernel
theorem dX4_mostJoyous_36 : decode cX4_mostJoyous 36 = .ok (.istore 7, 2) := by decide +kernel
theorem dX4_mostJoyous_38 : decode cX4_mostJoyous 38 = .ok (.iload 7, 2) := by decide +kernel
theorem dX4_mostJoyous_40 : decode cX4_mostJoyous 40 = .ok (.iload_n 3, 1) := by decide +kernel
theorem dX4_mostJoyous_41 : decode cX4_mostJoyous 41 = .ok (.if_icmp .ge 65, 3) := by decide +kernel
theorem dX4_mostJoyous_44 : decode cX4_mostJoyous 44 = .ok (.aload_n 0, 1) := by decide +kernel
theorem dX4_mostJoyous_45 : decode cX4_mostJoyous 45 = .ok (.getfield 16, 3) := by decide +kernel
theorem dX4_mostJoyous_48 : decode cX4_mostJoyous 48 = .ok (.aload_n 0, 1) := by decide +kernel
theorem dX4_mostJoyous_49 : decode cX4_mostJoyous 49 = .ok (.getfield 10, 3) := by decide +kernel
theorem dX4_mostJoyous_52 : decode cX4_mostJoyous 52 = .ok (.invokevirtual 129, 3) := by decide +kernel
theorem dX4_mostJoyous_55 : decode cX4_mostJoyous 55 = .ok (.aload_n 0, 1) := by decide +kernel
theorem dX4_mostJoyous_56 : decode cX4_mostJoyous 56 = .ok (.getfield 16, 3) := by decide +kernel
theorem dX4_mostJoyous_59 : decode cX4_mostJoyous 59 = .ok (.iload_n 1, 1) := by decide +kernel
theorem dX4_mostJoyous_60 : decode cX4_mostJoyous 60 = .ok (.iload_n 2, 1) := by decide +kernel
theorem dX4_mostJoyous_61 : decode cX4_mostJoyous 61 = .ok (.iload 7, 2) := by decide +kernel
theorem dX4_mostJoyous_63 : decode cX4_mostJoyous 63 = .ok (.invokevirtual 67, 3) := by decide +kernel
theorem dX4_mostJoyous_66 : decode cX4_mostJoyous 66 = .ok (.aload_n 0, 1) := by decide +kernel
theorem dX4_mostJoyous_67 : decode cX4_mostJoyous 67 = .ok (.getfield 16, 3) := by decide +kernel
theorem dX4_mostJoyous_70 : decode cX4_mostJoyous 70 = .ok (.iload 4, 2) := by decide +kernel
theorem dX4_mostJoyous_72 : decode cX4_mostJoyous 72 = .ok (.invokevirtual 99, 3) := by decide +kernel
theorem dX4_mostJoyous_75 : decode cX4_mostJoyous 75 = .ok (.aload_n 0, 1) := by decide +kernel
theorem dX4_mostJoyous_76 : decode cX4_mostJoyous 76 = .ok (.getfield 16, 3) := by decide +kernel
theorem dX4_mostJoyous_79 : decode cX4_mostJoyous 79 = .ok (.getfield 103, 3) := by decide +kernel
theorem dX4_mostJoyous_82 : decode cX4_mostJoyous 82 = .ok (.iload 6, 2) := by decide +kernel
theorem dX4_mostJoyous_84 : decode cX4_mostJoyous 84 = .ok (.if_icmp .le 16, 3) := by decide +kernel
theorem dX4_mostJoyous_87 : decode cX4_mostJoyous 87 = .ok (.aload_n 0, 1) := by decide +kernel
theorem dX4_mostJoyous_88 : decode cX4_mostJoyous 88 = .ok (.getfield 16, 3) := by decide +kernel
theorem dX4_mostJoyous_91 : decode cX4_mostJoyous 91 = .ok (.getfield 103, 3) := by decide +kernel
theorem dX4_mostJoyous_94 : decode cX4_mostJoyous 94 = .ok (.istore 6, 2) := by decide +kernel
theorem dX4_mostJoyous_96 : decode cX4_mostJoyous 96 = .ok (.iload 7, 2) := by decide +kernel
theorem dX4_mostJoyous_98 : decode cX4_mostJoyous 98 = .ok (.istore 5, 2) := by decide +kernel
theorem dX4_mostJoyous_100 : decode cX4_mostJoyous 100 = .ok (.iinc 7 1, 3) := by decide +kernel
theorem dX4_mostJoyous_103 : decode cX4_mostJoyous 103 = .ok (.goto (-65), 3) := by decide +kernel
theorem dX4_mostJoyous_106 : decode cX4_mostJoyous 106 = .ok (.iload 5, 2) := by decide +kernel
theorem dX4_mostJoyous_108 : decode cX4_mostJoyous 108 = .ok (.ireturn, 1) := by decide +kernel
theorem dX4_dark_0 : decode cX4_dark 0 = .ok (.iload_n 1, 1) := by decide +kernel
theorem dX4_dark_1 : decode cX4_dark 1 = .ok (.ifCond .lt 9, 3) := by decide +kernel
theorem dX4_dark_4 : decode cX4_dark 4 = .ok (.iload_n 1, 1) := by decide +kernel
theorem dX4_dark_5 : decode cX4_dark 5 = .ok (.bipush 24, 2) := by decide +kernel
theorem dX4_dark_7 : decode cX4_dark 7 = .ok (.if_icmp .le 9, 3) := by decide +kernel
theorem dX4_dark_10 : decode cX4_dark 10 = .ok (.aload_n 0, 1) := by decide +kernel
theorem dX4_dark_11 : decode cX4_dark 11 = .ok (.iconst 0, 1) := by decide +kernel
theorem dX4_dark_12 : decode cX4_dark 12 = .ok (.invokevirtual 44, 3) := by decide +kernel
theorem dX4_dark_15 : decode cX4_dark 15 = .ok (.ireturn, 1) := by decide +kernel
theorem dX4_dark_16 : decode cX4_dark 16 = .ok (.iconst 0, 1) := by decide +kernel
theorem dX4_dark_17 : decode cX4_dark 17 = .ok (.istore_n 2, 1) := by decide +kernel
theorem dX4_dark_18 : decode cX4_dark 18 = .ok (.iload_n 2, 1) := by decide +kernel
theorem dX4_dark_19 : decode cX4_dark 19 = .ok (.aload_n 0, 1) := by decide +kernel
theorem dX4_dark_20 : decode cX4_dark 20 = .ok (.getfield 10, 3) := by decide +kernel
theorem dX4_dark_23 : decode cX4_dark 23 = .ok (.getfield 144, 3) := by decide +kernel
theorem dX4_dark_26 : decode cX4_dark 26 = .ok (.if_icmp .gt 47, 3) := by decide +kernel
theorem dX4_dark_29 : decode cX4_dark 29 = .ok (.iconst 0, 1) := by decide +kernel
theorem dX4_dark_30 : decode cX4_dark 30 = .ok (.istore_n 3, 1) := by decide +kernel
theorem dX4_dark_31 : decode cX4_dark 31 = .ok (.iload_n 3, 1) := by decide +kernel
theorem dX4_dark_32 : decode cX4_dark 32 = .ok (.aload_n 0, 1) := by decide +kernel
theorem dX4_dark_33 : decode cX4_dark 33 = .ok (.getfield 10, 3) := by decide +kernel
theorem dX4_dark_36 : decode cX4_dark 36 = .ok (.invokevirtual 147, 3) := by decide +kernel
theorem dX4_dark_39 : decode cX4_dark 39 = .ok (.if_icmp .gt 28, 3) := by decide +kernel
theorem dX4_dark_42 : decode cX4_dark 42 = .ok (.iload_n 3, 1) := by decide +kernel
theorem dX4_dark_43 : decode cX4_dark 43 = .ok (.invokestatic 150, 3) := by decide +kernel
theorem dX4_dark_46 : decode cX4_dark 46 = .ok (.iload_n 2, 1) := by decide +kernel
theorem dX4_dark_47 : decode cX4_dark 47 = .ok (.if_icmp .ne 14, 3) := by decide +kernel
theorem dX4_dark_50 : decode cX4_dark 50 = .ok (.aload_n 0, 1) := by decide +kernel
theorem dX4_dark_51 : decode cX4_dark 51 = .ok (.iload_n 3, 1) := by decide +kernel
theorem dX4_dark_52 : decode cX4_dark 52 = .ok (.iload_n 1, 1) := by decide +kernel
theorem dX4_dark_53 : decode cX4_dark 53 = .ok (.invokevirtual 155, 3) := by decide +kernel
theorem dX4_dark_56 : decode cX4_dark 56 = .ok (.ifCond .eq 5, 3) := by decide +kernel
theorem dX4_dark_59 : decode cX4_dark 59 = .ok (.iload_n 3, 1) := by decide +kernel
theorem dX4_dark_60 : decode cX4_dark 60 = .ok (.ireturn, 1) := by decide +kernel
theorem dX4_dark_61 : decode cX4_dark 61 = .ok (.iinc 3 1, 3) := by decide +kernel
theorem dX4_dark_64 : decode cX4_dark 64 = .ok (.goto (-33), 3) := by decide +kernel
theorem dX4_dark_67 : decode cX4_dark 67 = .ok (.iinc 2 1, 3) := by decide +kernel
theorem dX4_dark_70 : decode cX4_dark 70 = .ok (.goto (-52), 3) := by decide +kernel
theorem dX4_dark_73 : decode cX4_dark 73 = .ok (.aload_n 0, 1) := by decide +kernel
theorem dX4_dark_74 : decode cX4_dark 74 = .ok (.iconst 3, 1) := by decide +kernel
theorem dX4_dark_75 : decode cX4_dark 75 = .ok (.invokevirtual 44, 3) := by decide +kernel
theorem dX4_dark_78 : decode cX4_dark 78 = .ok (.ireturn, 1) := by decide +kernel
theorem dX4_staysJoyless_0 : decode cX4_staysJoyless 0 = .ok (.aload_n 0, 1) := by decide +kernel
theorem dX4_staysJoyless_1 : decode cX4_staysJoyless 1 = .ok (.getfield 16, 3) := by decide +kernel
theorem dX4_staysJoyless_4 : decode cX4_staysJoyless 4 = .ok (.aload_n 0, 1) := by decide +kernel
theorem dX4_staysJoyless_5 : decode cX4_staysJoyless 5 = .ok (.getfield 10, 3) := by decide +kernel
theorem dX4_staysJoyless_8 : decode cX4_staysJoyless 8 = .ok (.invokevirtual 129, 3) := by decide +kernel
theorem dX4_staysJoyless_11 : decode cX4_staysJoyless 11 = .ok (.aload_n 0, 1) := by decide +kernel
theorem dX4_staysJoyless_12 : decode cX4_staysJoyless 12 = .ok (.getfield 16, 3) := by decide +kernel
theorem dX4_staysJoyless_15 : decode cX4_staysJoyless 15 = .ok (.iload_n 1, 1) := by decide +kernel
theorem dX4_staysJoyless_16 : decode cX4_staysJoyless 16 = .ok (.invokevirtual 158, 3) := by decide +kernel
theorem dX4_staysJoyless_19 : decode cX4_staysJoyless 19 = .ok (.iconst 0, 1) := by decide +kernel
theorem dX4_staysJoyless_20 : decode cX4_staysJoyless 20 = .ok (.istore_n 3, 1) := by decide +kernel
theorem dX4_staysJoyless_21 : decode cX4_staysJoyless 21 = .ok (.iload_n 3, 1) := by decide +kernel
theorem dX4_staysJoyless_22 : decode cX4_staysJoyless 22 = .ok (.iload_n 2, 1) := by decide +kernel
theorem dX4_staysJoyless_23 : decode cX4_staysJoyless 23 = .ok (.if_icmp .ge 33, 3) := by decide +kernel
theorem dX4_staysJoyless_26 : decode cX4_staysJoyless 26 = .ok (.aload_n 0, 1) := by decide +kernel
theorem dX4_staysJoyless_27 : decode cX4_staysJoyless 27 = .ok (.getfield 16, 3) := by decide +kernel
theorem dX4_staysJoyless_30 : decode cX4_staysJoyless 30 = .ok (.getfield 103, 3) := by decide +kernel
theorem dX4_staysJoyless_33 : decode cX4_staysJoyless 33 = .ok (.aload_n 0, 1) := by decide +kernel
theorem dX4_staysJoyless_34 : decode cX4_staysJoyless 34 = .ok (.getfield 10, 3) := by decide +kernel
theorem dX4_staysJoyless_37 : decode cX4_staysJoyless 37 = .ok (.getfield 103, 3) := by decide +kernel
theorem dX4_staysJoyless_40 : decode cX4_staysJoyless 40 = .ok (.if_icmp .ne 16, 3) := by decide +kernel
theorem dX4_staysJoyless_43 : decode cX4_staysJoyless 43 = .ok (.aload_n 0, 1) := by decide +kernel
theorem dX4_staysJoyless_44 : decode cX4_staysJoyless 44 = .ok (.getfield 16, 3) := by decide +kernel
theorem dX4_staysJoyless_47 : decode cX4_staysJoyless 47 = .ok (.invokevirtual 137, 3) := by decide +kernel
theorem dX4_staysJoyless_50 : decode cX4_staysJoyless 50 = .ok (.iinc 3 1, 3) := by decide +kernel
theorem dX4_staysJoyless_53 : decode cX4_staysJoyless 53 = .ok (.goto (-32), 3) := by decide +kernel
theorem dX4_staysJoyless_56 : decode cX4_staysJoyless 56 = .ok (.aload_n 0, 1) := by decide +kernel
theorem dX4_staysJoyless_57 : decode cX4_staysJoyless 57 = .ok (.getfield 16, 3) := by decide +kernel
theorem dX4_staysJoyless_60 : decode cX4_staysJoyless 60 = .ok (.getfield 103, 3) := by decide +kernel
theorem dX4_staysJoyless_63 : decode cX4_staysJoyless 63 = .ok (.aload_n 0, 1) := by decide +kernel
theorem dX4_staysJoyless_64 : decode cX4_staysJoyless 64 = .ok (.getfield 10, 3) := by decide +kernel
theorem dX4_staysJoyless_67 : decode cX4_staysJoyless 67 = .ok (.getfield 103, 3) := by decide +kernel
theorem dX4_staysJoyless_70 : decode cX4_staysJoyless 70 = .ok (.if_icmp .ne 7, 3) := by decide +kernel
theorem dX4_staysJoyless_73 : decode cX4_staysJoyless 73 = .ok (.iconst 1, 1) := by decide +kernel
theorem dX4_staysJoyless_74 : decode cX4_staysJoyless 74 = .ok (.goto 4, 3) := by decide +kernel
theorem dX4_staysJoyless_77 : decode cX4_staysJoyless 77 = .ok (.iconst 0, 1) := by decide +kernel
theorem dX4_staysJoyless_78 : decode cX4_staysJoyless 78 = .ok (.ireturn, 1) := by decide +kernel
theorem dX4_circle_0 : decode cX4_circle 0 = .ok (.iload_n 1, 1) := by decide +kernel
theorem dX4_circle_1 : decode cX4_circle 1 = .ok (.ifCond .eq 14, 3) := by decide +kernel
theorem dX4_circle_4 : decode cX4_circle 4 = .ok (.iload_n 1, 1) := by decide +kernel
theorem dX4_circle_5 : decode cX4_circle 5 = .ok (.iconst 1, 1) := by decide +kernel
theorem dX4_circle_6 : decode cX4_circle 6 = .ok (.if_icmp .eq 9, 3) := by decide +kernel
theorem dX4_circle_9 : decode cX4_circle 9 = .ok (.aload_n 0, 1) := by decide +kernel
theorem dX4_circle_10 : decode cX4_circle 10 = .ok (.iconst 0, 1) := by decide +kernel
theorem dX4_circle_11 : decode cX4_circle 11 = .ok (.invokevirtual 44, 3) := by decide +kernel
theorem dX4_circle_14 : decode cX4_circle 14 = .ok (.ireturn, 1) := by decide +kernel
theorem dX4_circle_15 : decode cX4_circle 15 = .ok (.iconst 0, 1) := by decide +kernel
theorem dX4_circle_16 : decode cX4_circle 16 = .ok (.istore_n 2, 1) := by decide +kernel
theorem dX4_circle_17 : decode cX4_circle 17 = .ok (.iconst 1, 1) := by decide +kernel
theorem dX4_circle_18 : decode cX4_circle 18 = .ok (.istore_n 3, 1) := by decide +kernel
theorem dX4_circle_19 : decode cX4_circle 19 = .ok (.iload_n 3, 1) := by decide +kernel
theorem dX4_circle_20 : decode cX4_circle 20 = .ok (.aload_n 0, 1) := by decide +kernel
theorem dX4_circle_21 : decode cX4_circle 21 = .ok (.getfield 10, 3) := by decide +kernel
theorem dX4_circle_24 : decode cX4_circle 24 = .ok (.invokevirtual 147, 3) := by decide +kernel
theorem dX4_circle_27 : decode cX4_circle 27 = .ok (.if_icmp .gt 43, 3) := by decide +kernel
theorem dX4_circle_30 : decode cX4_circle 30 = .ok (.iload_n 3, 1) := by decide +kernel
theorem dX4_circle_31 : decode cX4_circle 31 = .ok (.invokestatic 150, 3) := by decide +kernel
theorem dX4_circle_34 : decode cX4_circle 34 = .ok (.iload_n 2, 1) := by decide +kernel
theorem dX4_circle_35 : decode cX4_circle 35 = .ok (.invokestatic 150, 3) := by decide +kernel
theorem dX4_circle_38 : decode cX4_circle 38 = .ok (.if_icmp .le 26, 3) := by decide +kernel
theorem dX4_circle_41 : decode cX4_circle 41 = .ok (.aload_n 0, 1) := by decide +kernel
theorem dX4_circle_42 : decode cX4_circle 42 = .ok (.getfield 10, 3) := by decide +kernel
theorem dX4_circle_45 : decode cX4_circle 45 = .ok (.iload_n 3, 1) := by decide +kernel
theorem dX4_circle_46 : decode cX4_circle 46 = .ok (.iload_n 1, 1) := by decide +kernel
theorem dX4_circle_47 : decode cX4_circle 47 = .ok (.iconst 1, 1) := by decide +kernel
theorem dX4_circle_48 : decode cX4_circle 48 = .ok (.if_icmp .ne 7, 3) := by decide +kernel
theorem dX4_circle_51 : decode cX4_circle 51 = .ok (.iconst 1, 1) := by decide +kernel
theorem dX4_circle_52 : decode cX4_circle 52 = .ok (.goto 4, 3) := by decide +kernel
theorem dX4_circle_55 : decode cX4_circle 55 = .ok (.iconst 0, 1) := by decide +kernel
theorem dX4_circle_56 : decode cX4_circle 56 = .ok (.invokevirtual 161, 3) := by decide +kernel
theorem dX4_circle_59 : decode cX4_circle 59 = .ok (.ifCond .eq 5, 3) := by decide +kernel
theorem dX4_circle_62 : decode cX4_circle 62 = .ok (.iload_n 3, 1) := by decide +kernel
theorem dX4_circle_63 : decode cX4_circle 63 = .ok (.istore_n 2, 1) := by decide +kernel
theorem dX4_circle_64 : decode cX4_circle 64 = .ok (.iinc 3 1, 3) := by decide +kernel
theorem dX4_circle_67 : decode cX4_circle 67 = .ok (.goto (-48), 3) := by decide +kernel
theorem dX4_circle_70 : decode cX4_circle 70 = .ok (.iload_n 2, 1) := by decide +kernel
theorem dX4_circle_71 : decode cX4_circle 71 = .ok (.ireturn, 1) := by decide +kernel
theorem dX4_fits_0 : decode cX4_fits 0 = .ok (.aload_n 0, 1) := by decide +kernel
theorem dX4_fits_1 : decode cX4_fits 1 = .ok (.iload_n 1, 1) := by decide +kernel
theorem dX4_fits_2 : decode cX4_fits 2 = .ok (.iload_n 2, 1) := by decide +kernel
theorem dX4_fits_3 : decode cX4_fits 3 = .ok (.iconst 2, 1) := by decide +kernel
theorem dX4_fits_4 : decode cX4_fits 4 = .ok (.bipush 12, 2) := by decide +kernel
theorem dX4_fits_6 : decode cX4_fits 6 = .ok (.invokevirtual 165, 3) := by decide +kernel
theorem dX4_fits_9 : decode cX4_fits 9 = .ok (.ireturn, 1) := by decide +kernel
theorem dX4_kinds_0 : decode cX4_kinds 0 = .ok (.aload_n 0, 1) := by decide +kernel
theorem dX4_kinds_1 : decode cX4_kinds 1 = .ok (.iload_n 1, 1) := by decide +kernel
theorem dX4_kinds_2 : decode cX4_kinds 2 = .ok (.iload_n 2, 1) := by decide +kernel
theorem dX4_kinds_3 : decode cX4_kinds 3 = .ok (.iconst 0, 1) := by decide +kernel
theorem dX4_kinds_4 : decode cX4_kinds 4 = .ok (.bipush 7, 2) := by decide +kernel
theorem dX4_kinds_6 : decode cX4_kinds 6 = .ok (.invokevirtual 165, 3) := by decide +kernel
theorem dX4_kinds_9 : decode cX4_kinds 9 = .ok (.ireturn, 1) := by decide +kernel
theorem dX4_fitting_0 : decode cX4_fitting 0 = .ok (.iload_n 1, 1) := by decide +kernel
theorem dX4_fitting_1 : decode cX4_fitting 1 = .ok (.iconst 4, 1) := by decide +kernel
theorem dX4_fitting_2 : decode cX4_fitting 2 = .ok (.invokestatic 40, 3) := by decide +kernel
theorem dX4_fitting_5 : decode cX4_fitting 5 = .ok (.ifCond .ne 9, 3) := by decide +kernel
theorem dX4_fitting_8 : decode cX4_fitting 8 = .ok (.aload_n 0, 1) := by decide +kernel
theorem dX4_fitting_9 : decode cX4_fitting 9 = .ok (.iconst 0, 1) := by decide +kernel
theorem dX4_fitting_10 : decode cX4_fitting 10 = .ok (.invokevirtual 44, 3) := by decide +kernel
theorem dX4_fitting_13 : decode cX4_fitting 13 = .ok (.ireturn, 1) := by decide +kernel
theorem dX4_fitting_14 : decode cX4_fitting 14 = .ok (.aload_n 0, 1) := by decide +kernel
theorem dX4_fitting_15 : decode cX4_fitting 15 = .ok (.getfield 32, 3) := by decide +kernel
theorem dX4_fitting_18 : decode cX4_fitting 18 = .ok (.iload_n 1, 1) := by decide +kernel
theorem dX4_fitting_19 : decode cX4_fitting 19 = .ok (.invokevirtual 168, 3) := by decide +kernel
theorem dX4_fitting_22 : decode cX4_fitting 22 = .ok (.ifCond .eq 9, 3) := by decide +kernel
theorem dX4_fitting_25 : decode cX4_fitting 25 = .ok (.aload_n 0, 1) := by decide +kernel
theorem dX4_fitting_26 : decode cX4_fitting 26 = .ok (.iconst 5, 1) := by decide +kernel
theorem dX4_fitting_27 : decode cX4_fitting 27 = .ok (.invokevirtual 44, 3) := by decide +kernel
theorem dX4_fitting_30 : decode cX4_fitting 30 = .ok (.ireturn, 1) := by decide +kernel
theorem dX4_fitting_31 : decode cX4_fitting 31 = .ok (.aload_n 0, 1) := by decide +kernel
theorem dX4_fitting_32 : decode cX4_fitting 32 = .ok (.getfield 10, 3) := by decide +kernel
theorem dX4_fitting_35 : decode cX4_fitting 35 = .ok (.iload_n 2, 1) := by decide +kernel
theorem dX4_fitting_36 : decode cX4_fitting 36 = .ok (.invokevirtual 56, 3) := by decide +kernel
theorem dX4_fitting_39 : decode cX4_fitting 39 = .ok (.ifCond .ne 9, 3) := by decide +kernel
theorem dX4_fitting_42 : decode cX4_fitting 42 = .ok (.aload_n 0, 1) := by decide +kernel
theorem dX4_fitting_43 : decode cX4_fitting 43 = .ok (.iconst 0, 1) := by decide +kernel
theorem dX4_fitting_44 : decode cX4_fitting 44 = .ok (.invokevirtual 44, 3) := by decide +kernel
theorem dX4_fitting_47 : decode cX4_fitting 47 = .ok (.ireturn, 1) := by decide +kernel
theorem dX4_fitting_48 : decode cX4_fitting 48 = .ok (.iconst 0, 1) := by decide +kernel
theorem dX4_fitting_49 : decode cX4_fitting 49 = .ok (.istore 5, 2) := by decide +kernel
theorem dX4_fitting_51 : decode cX4_fitting 51 = .ok (.iconst 0, 1) := by decide +kernel
theorem dX4_fitting_52 : decode cX4_fitting 52 = .ok (.istore 6, 2) := by decide +kernel
theorem dX4_fitting_54 : decode cX4_fitting 54 = .ok (.iload 6, 2) := by decide +kernel
theorem dX4_fitting_56 : decode cX4_fitting 56 = .ok (.iload 4, 2) := by decide +kernel
theorem dX4_fitting_58 : decode cX4_fitting 58 = .ok (.if_icmp .ge 49, 3) := by decide +kernel
theorem dX4_fitting_61 : decode cX4_fitting 61 = .ok (.aload_n 0, 1) := by decide +kernel
theorem dX4_fitting_62 : decode cX4_fitting 62 = .ok (.getfield 16, 3) := by decide +kernel
theorem dX4_fitting_65 : decode cX4_fitting 65 = .ok (.aload_n 0, 1) := by decide +kernel
theorem dX4_fitting_66 : decode cX4_fitting 66 = .ok (.getfield 10, 3) := by decide +kernel
theorem dX4_fitting_69 : decode cX4_fitting 69 = .ok (.invokevirtual 129, 3) := by decide +kernel
theorem dX4_fitting_72 : decode cX4_fitting 72 = .ok (.aload_n 0, 1) := by decide +kernel
theorem dX4_fitting_73 : decode cX4_fitting 73 = .ok (.getfield 16, 3) := by decide +kernel
theorem dX4_fitting_76 : decode cX4_fitting 76 = .ok (.iload_n 2, 1) := by decide +kernel
theorem dX4_fitting_77 : decode cX4_fitting 77 = .ok (.iload_n 3, 1) := by decide +kernel
theorem dX4_fitting_78 : decode cX4_fitting 78 = .ok (.iload 6, 2) := by decide +kernel
theorem dX4_fitting_80 : decode cX4_fitting 80 = .ok (.invokevirtual 67, 3) := by decide +kernel
theorem dX4_fitting_83 : decode cX4_fitting 83 = .ok (.aload_n 0, 1) := by decide +kernel
theorem dX4_fitting_84 : decode cX4_fitting 84 = .ok (.iload_n 1, 1) := by decide +kernel
theorem dX4_fitting_85 : decode cX4_fitting 85 = .ok (.iload_n 2, 1) := by decide +kernel
theorem dX4_fitting_86 : decode cX4_fitting 86 = .ok (.invokevirtual 171, 3) := by decide +kernel
theorem dX4_fitting_89 : decode cX4_fitting 89 = .ok (.ifCond .eq 12, 3) := by decide +kernel
theorem dX4_fitting_92 : decode cX4_fitting 92 = .ok (.iload 5, 2) := by decide +kernel
theorem dX4_fitting_94 : decode cX4_fitting 94 = .ok (.iconst 1, 1) := by decide +kernel
theorem dX4_fitting_95 : decode cX4_fitting 95 = .ok (.iload 6, 2) := by decide +kernel
theorem dX4_fitting_97 : decode cX4_fitting 97 = .ok (.ishl, 1) := by decide +kernel
theorem dX4_fitting_98 : decode cX4_fitting 98 = .ok (.ior, 1) := by decide +kernel
theorem dX4_fitting_99 : decode cX4_fitting 99 = .ok (.istore 5, 2) := by decide +kernel
theorem dX4_fitting_101 : decode cX4_fitting 101 = .ok (.iinc 6 1, 3) := by decide +kernel
theorem dX4_fitting_104 : decode cX4_fitting 104 = .ok (.goto (-50), 3) := by decide +kernel
theorem dX4_fitting_107 : decode cX4_fitting 107 = .ok (.iload 5, 2) := by decide +kernel
theorem dX4_fitting_109 : decode cX4_fitting 109 = .ok (.ireturn, 1) := by decide +kernel
theorem dX4_meetsAsTold_0 : decode cX4_meetsAsTold 0 = .ok (.iconst 0, 1) := by decide +kernel
theorem dX4_meetsAsTold_1 : decode cX4_meetsAsTold 1 = .ok (.istore_n 3, 1) := by decide +kernel
theorem dX4_meetsAsTold_2 : decode cX4_meetsAsTold 2 = .ok (.iload_n 3, 1) := by decide +kernel
theorem dX4_meetsAsTold_3 : decode cX4_meetsAsTold 3 = .ok (.aload_n 0, 1) := by decide +kernel
theorem dX4_meetsAsTold_4 : decode cX4_meetsAsTold 4 = .ok (.getfield 32, 3) := by decide +kernel
theorem dX4_meetsAsTold_7 : decode cX4_meetsAsTold 7 = .ok (.iload_n 1, 1) := by decide +kernel
theorem dX4_meetsAsTold_8 : decode cX4_meetsAsTold 8 = .ok (.invokevirtual 174, 3) := by decide +kernel
theorem dX4_meetsAsTold_11 : decode cX4_meetsAsTold 11 = .ok (.if_icmp .ge 53, 3) := by decide +kernel
theorem dX4_meetsAsTold_14 : decode cX4_meetsAsTold 14 = .ok (.iload_n 3, 1) := by decide +kernel
theorem dX4_meetsAsTold_15 : decode cX4_meetsAsTold 15 = .ok (.ifCond .le 10, 3) := by decide +kernel
theorem dX4_meetsAsTold_18 : decode cX4_meetsAsTold 18 = .ok (.aload_n 0, 1) := by decide +kernel
theorem dX4_meetsAsTold_19 : decode cX4_meetsAsTold 19 = .ok (.getfield 16, 3) := by decide +kernel
theorem dX4_meetsAsTold_22 : decode cX4_meetsAsTold 22 = .ok (.invokevirtual 137, 3) := by decide +kernel
theorem dX4_meetsAsTold_25 : decode cX4_meetsAsTold 25 = .ok (.aload_n 0, 1) := by decide +kernel
theorem dX4_meetsAsTold_26 : decode cX4_meetsAsTold 26 = .ok (.getfield 32, 3) := by decide +kernel
theorem dX4_meetsAsTold_29 : decode cX4_meetsAsTold 29 = .ok (.iload_n 1, 1) := by decide +kernel
theorem dX4_meetsAsTold_30 : decode cX4_meetsAsTold 30 = .ok (.iload_n 3, 1) := by decide +kernel
theorem dX4_meetsAsTold_31 : decode cX4_meetsAsTold 31 = .ok (.invokevirtual 177, 3) := by decide +kernel
theorem dX4_meetsAsTold_34 : decode cX4_meetsAsTold 34 = .ok (.istore 4, 2) := by decide +kernel
theorem dX4_meetsAsTold_36 : decode cX4_meetsAsTold 36 = .ok (.iload 4, 2) := by decide +kernel
theorem dX4_meetsAsTold_38 : decode cX4_meetsAsTold 38 = .ok (.iconst (-1), 1) := by decide +kernel
theorem dX4_meetsAsTold_39 : decode cX4_meetsAsTold 39 = .ok (.if_icmp .eq 19, 3) := by decide +kernel
theorem dX4_meetsAsTold_42 : decode cX4_meetsAsTold 42 = .ok (.iload 4, 2) := by decide +kernel
theorem dX4_meetsAsTold_44 : decode cX4_meetsAsTold 44 = .ok (.aload_n 0, 1) := by decide +kernel
theorem dX4_meetsAsTold_45 : decode cX4_meetsAsTold 45 = .ok (.getfield 16, 3) := by decide +kernel
theorem dX4_meetsAsTold_48 : decode cX4_meetsAsTold 48 = .ok (.iload_n 2, 1) := by decide +kernel
theorem dX4_meetsAsTold_49 : decode cX4_meetsAsTold 49 = .ok (.iconst 3, 1) := by decide +kernel
theorem dX4_meetsAsTold_50 : decode cX4_meetsAsTold 50 = .ok (.invokevirtual 60, 3) := by decide +kernel
theorem dX4_meetsAsTold_53 : decode cX4_meetsAsTold 53 = .ok (.if_icmp .eq 5, 3) := by decide +kernel
theorem dX4_meetsAsTold_56 : decode cX4_meetsAsTold 56 = .ok (.iconst 0, 1) := by decide +kernel
theorem dX4_meetsAsTold_57 : decode cX4_meetsAsTold 57 = .ok (.ireturn, 1) := by decide +kernel
theorem dX4_meetsAsTold_58 : decode cX4_meetsAsTold 58 = .ok (.iinc 3 1, 3) := by decide +kernel
theorem dX4_meetsAsTold_61 : decode cX4_meetsAsTold 61 = .ok (.goto (-59), 3) := by decide +kernel
theorem dX4_meetsAsTold_64 : decode cX4_meetsAsTold 64 = .ok (.iconst 1, 1) := by decide +kernel
theorem dX4_meetsAsTold_65 : decode cX4_meetsAsTold 65 = .ok (.ireturn, 1) := by decide +kernel
theorem dX4_night_0 : decode cX4_night 0 = .ok (.iload_n 1, 1) := by decide +kernel
theorem dX4_night_1 : decode cX4_night 1 = .ok (.iconst 1, 1) := by decide +kernel
theorem dX4_night_2 : decode cX4_night 2 = .ok (.if_icmp .lt 9, 3) := by decide +kernel
theorem dX4_night_5 : decode cX4_night 5 = .ok (.iload_n 1, 1) := by decide +kernel
theorem dX4_night_6 : decode cX4_night 6 = .ok (.bipush 20, 2) := by decide +kernel
theorem dX4_night_8 : decode cX4_night 8 = .ok (.if_icmp .le 9, 3) := by decide +kernel
theorem dX4_night_11 : decode cX4_night 11 = .ok (.aload_n 0, 1) := by decide +kernel
theorem dX4_night_12 : decode cX4_night 12 = .ok (.iconst 0, 1) := by decide +kernel
theorem dX4_night_13 : decode cX4_night 13 = .ok (.invokevirtual 44, 3) := by decide +kernel
theorem dX4_night_16 : decode cX4_night 16 = .ok (.ireturn, 1) := by decide +kernel
theorem dX4_night_17 : decode cX4_night 17 = .ok (.aload_n 0, 1) := by decide +kernel
theorem dX4_night_18 : decode cX4_night 18 = .ok (.getfield 10, 3) := by decide +kernel
theorem dX4_night_21 : decode cX4_night 21 = .ok (.iload_n 1, 1) := by decide +kernel
theorem dX4_night_22 : decode cX4_night 22 = .ok (.invokevirtual 96, 3) := by decide +kernel
theorem dX4_night_25 : decode cX4_night 25 = .ok (.ifCond .ne 9, 3) := by decide +kernel
theorem dX4_night_28 : decode cX4_night 28 = .ok (.aload_n 0, 1) := by decide +kernel
theorem dX4_night_29 : decode cX4_night 29 = .ok (.iconst 4, 1) := by decide +kernel
theorem dX4_night_30 : decode cX4_night 30 = .ok (.invokevirtual 44, 3) := by decide +kernel
theorem dX4_night_33 : decode cX4_night 33 = .ok (.ireturn, 1) := by decide +kernel
theorem dX4_night_34 : decode cX4_night 34 = .ok (.iconst 0, 1) := by decide +kernel
theorem dX4_night_35 : decode cX4_night 35 = .ok (.istore_n 2, 1) := by decide +kernel
theorem dX4_night_36 : decode cX4_night 36 = .ok (.iload_n 2, 1) := by decide +kernel
theorem dX4_night_37 : decode cX4_night 37 = .ok (.iload_n 1, 1) := by decide +kernel
theorem dX4_night_38 : decode cX4_night 38 = .ok (.if_icmp .ge 84, 3) := by decide +kernel
theorem dX4_night_41 : decode cX4_night 41 = .ok (.aload_n 0, 1) := by decide +kernel
theorem dX4_night_42 : decode cX4_night 42 = .ok (.getfield 10, 3) := by decide +kernel
theorem dX4_night_45 : decode cX4_night 45 = .ok (.invokevirtual 180, 3) := by decide +kernel
theorem dX4_night_48 : decode cX4_night 48 = .ok (.bipush 8, 2) := by decide +kernel
theorem dX4_night_50 : decode cX4_night 50 = .ok (.irem, 1) := by decide +kernel
theorem dX4_night_51 : decode cX4_night 51 = .ok (.istore_n 3, 1) := by decide +kernel
theorem dX4_night_52 : decode cX4_night 52 = .ok (.aload_n 0, 1) := by decide +kernel
theorem dX4_night_53 : decode cX4_night 53 = .ok (.getfield 10, 3) := by decide +kernel
theorem dX4_night_56 : decode cX4_night 56 = .ok (.invokevirtual 180, 3) := by decide +kernel
theorem dX4_night_59 : decode cX4_night 59 = .ok (.bipush 16, 2) := by decide +kernel
theorem dX4_night_61 : decode cX4_night 61 = .ok (.irem, 1) := by decide +kernel
theorem dX4_night_62 : decode cX4_night 62 = .ok (.istore 4, 2) := by decide +kernel
theorem dX4_night_64 : decode cX4_night 64 = .ok (.aload_n 0, 1) := by decide +kernel
theorem dX4_night_65 : decode cX4_night 65 = .ok (.getfield 10, 3) := by decide +kernel
theorem dX4_night_68 : decode cX4_night 68 = .ok (.invokevirtual 180, 3) := by decide +kernel
theorem dX4_night_71 : decode cX4_night 71 = .ok (.bipush 12, 2) := by decide +kernel
theorem dX4_night_73 : decode cX4_night 73 = .ok (.irem, 1) := by decide +kernel
theorem dX4_night_74 : decode cX4_night 74 = .ok (.istore 5, 2) := by decide +kernel
theorem dX4_night_76 : decode cX4_night 76 = .ok (.aload_n 0, 1) := by decide +kernel
theorem dX4_night_77 : decode cX4_night 77 = .ok (.getfield 10, 3) := by decide +kernel
theorem dX4_night_80 : decode cX4_night 80 = .ok (.iload_n 3, 1) := by decide +kernel
theorem dX4_night_81 : decode cX4_night 81 = .ok (.invokevirtual 56, 3) := by decide +kernel
theorem dX4_night_84 : decode cX4_night 84 = .ok (.ifCond .eq 25, 3) := by decide +kernel
theorem dX4_night_87 : decode cX4_night 87 = .ok (.aload_n 0, 1) := by decide +kernel
theorem dX4_night_88 : decode cX4_night 88 = .ok (.getfield 10, 3) := by decide +kernel
theorem dX4_night_91 : decode cX4_night 91 = .ok (.iload_n 3, 1) := by decide +kernel
theorem dX4_night_92 : decode cX4_night 92 = .ok (.iconst 1, 1) := by decide +kernel
theorem dX4_night_93 : decode cX4_night 93 = .ok (.iload 4, 2) := by decide +kernel
theorem dX4_night_95 : decode cX4_night 95 = .ok (.invokevirtual 67, 3) := by decide +kernel
theorem dX4_night_98 : decode cX4_night 98 = .ok (.aload_n 0, 1) := by decide +kernel
theorem dX4_night_99 : decode cX4_night 99 = .ok (.getfield 10, 3) := by decide +kernel
theorem dX4_night_102 : decode cX4_night 102 = .ok (.iload_n 3, 1) := by decide +kernel
theorem dX4_night_103 : decode cX4_night 103 = .ok (.iconst 2, 1) := by decide +kernel
theorem dX4_night_104 : decode cX4_night 104 = .ok (.iload 5, 2) := by decide +kernel
theorem dX4_night_106 : decode cX4_night 106 = .ok (.invokevirtual 67, 3) := by decide +kernel
theorem dX4_night_109 : decode cX4_night 109 = .ok (.aload_n 0, 1) := by decide +kernel
theorem dX4_night_110 : decode cX4_night 110 = .ok (.getfield 10, 3) := by decide +kernel
theorem dX4_night_113 : decode cX4_night 113 = .ok (.invokevirtual 137, 3) := by decide +kernel
theorem dX4_night_116 : decode cX4_night 116 = .ok (.iinc 2 1, 3) := by decide +kernel
theorem dX4_night_119 : decode cX4_night 119 = .ok (.goto (-83), 3) := by decide +kernel
theorem dX4_night_122 : decode cX4_night 122 = .ok (.aload_n 0, 1) := by decide +kernel
theorem dX4_night_123 : decode cX4_night 123 = .ok (.getfield 10, 3) := by decide +kernel
theorem dX4_night_126 : decode cX4_night 126 = .ok (.getfield 103, 3) := by decide +kernel
theorem dX4_night_129 : decode cX4_night 129 = .ok (.ireturn, 1) := by decide +kernel
theorem dX4_odds_0 : decode cX4_odds 0 = .ok (.aload_n 0, 1) := by decide +kernel
theorem dX4_odds_1 : decode cX4_odds 1 = .ok (.getfield 10, 3) := by decide +kernel
theorem dX4_odds_4 : decode cX4_odds 4 = .ok (.iload_n 1, 1) := by decide +kernel
theorem dX4_odds_5 : decode cX4_odds 5 = .ok (.invokevirtual 56, 3) := by decide +kernel
theorem dX4_odds_8 : decode cX4_odds 8 = .ok (.ifCond .eq 22, 3) := by decide +kernel
theorem dX4_odds_11 : decode cX4_odds 11 = .ok (.iload_n 2, 1) := by decide +kernel
theorem dX4_odds_12 : decode cX4_odds 12 = .ok (.ifCond .lt 18, 3) := by decide +kernel
theorem dX4_odds_15 : decode cX4_odds 15 = .ok (.iload_n 2, 1) := by decide +kernel
theorem dX4_odds_16 : decode cX4_odds 16 = .ok (.bipush 17, 2) := by decide +kernel
theorem dX4_odds_18 : decode cX4_odds 18 = .ok (.if_icmp .gt 12, 3) := by decide +kernel
theorem dX4_odds_21 : decode cX4_odds 21 = .ok (.iload_n 3, 1) := by decide +kernel
theorem dX4_odds_22 : decode cX4_odds 22 = .ok (.ifCond .lt 8, 3) := by decide +kernel
theorem dX4_odds_25 : decode cX4_odds 25 = .ok (.iload_n 3, 1) := by decide +kernel
theorem dX4_odds_26 : decode cX4_odds 26 = .ok (.iconst 1, 1) := by decide +kernel
theorem dX4_odds_27 : decode cX4_odds 27 = .ok (.if_icmp .le 10, 3) := by decide +kernel
theorem dX4_odds_30 : decode cX4_odds 30 = .ok (.aload_n 0, 1) := by decide +kernel
theorem dX4_odds_31 : decode cX4_odds 31 = .ok (.iconst 0, 1) := by decide +kernel
theorem dX4_odds_32 : decode cX4_odds 32 = .ok (.invokevirtual 44, 3) := by decide +kernel
theorem dX4_odds_35 : decode cX4_odds 35 = .ok (.i2l, 1) := by decide +kernel
theorem dX4_odds_36 : decode cX4_odds 36 = .ok (.lreturn, 1) := by decide +kernel
theorem dX4_odds_37 : decode cX4_odds 37 = .ok (.aload_n 0, 1) := by decide +kernel
theorem dX4_odds_38 : decode cX4_odds 38 = .ok (.getfield 10, 3) := by decide +kernel
theorem dX4_odds_41 : decode cX4_odds 41 = .ok (.iload_n 1, 1) := by decide +kernel
theorem dX4_odds_42 : decode cX4_odds 42 = .ok (.invokevirtual 183, 3) := by decide +kernel
theorem dX4_odds_45 : decode cX4_odds 45 = .ok (.istore 4, 2) := by decide +kernel
theorem dX4_odds_47 : decode cX4_odds 47 = .ok (.iload 4, 2) := by decide +kernel
theorem dX4_odds_49 : decode cX4_odds 49 = .ok (.invokestatic 186, 3) := by decide +kernel
theorem dX4_odds_52 : decode cX4_odds 52 = .ok (.istore 5, 2) := by decide +kernel
theorem dX4_odds_54 : decode cX4_odds 54 = .ok (.iload_n 3, 1) := by decide +kernel
theorem dX4_odds_55 : decode cX4_odds 55 = .ok (.ifCond .ne 8, 3) := by decide +kernel
theorem dX4_odds_58 : decode cX4_odds 58 = .ok (.iload 4, 2) := by decide +kernel
theorem dX4_odds_60 : decode cX4_odds 60 = .ok (.goto 5, 3) := by decide +kernel
theorem dX4_odds_63 : decode cX4_odds 63 = .ok (.bipush 12, 2) := by decide +kernel
theorem dX4_odds_65 : decode cX4_odds 65 = .ok (.iload 5, 2) := by decide +kernel
theorem dX4_odds_67 : decode cX4_odds 67 = .ok (.idiv, 1) := by decide +kernel
theorem dX4_odds_68 : decode cX4_odds 68 = .ok (.i2l, 1) := by decide +kernel
theorem dX4_odds_69 : decode cX4_odds 69 = .ok (.lstore 6, 2) := by decide +kernel
theorem dX4_odds_71 : decode cX4_odds 71 = .ok (.lconst 1, 1) := by decide +kernel
theorem dX4_odds_72 : decode cX4_odds 72 = .ok (.lstore 8, 2) := by decide +kernel
theorem dX4_odds_74 : decode cX4_odds 74 = .ok (.iconst 0, 1) := by decide +kernel
theorem dX4_odds_75 : decode cX4_odds 75 = .ok (.istore 10, 2) := by decide +kernel
theorem dX4_odds_77 : decode cX4_odds 77 = .ok (.iload 10, 2) := by decide +kernel
theorem dX4_odds_79 : decode cX4_odds 79 = .ok (.iload_n 2, 1) := by decide +kernel
theorem dX4_odds_80 : decode cX4_odds 80 = .ok (.if_icmp .ge 16, 3) := by decide +kernel
theorem dX4_odds_83 : decode cX4_odds 83 = .ok (.lload 8, 2) := by decide +kernel
theorem dX4_odds_85 : decode cX4_odds 85 = .ok (.lload 6, 2) := by decide +kernel
theorem dX4_odds_87 : decode cX4_odds 87 = .ok (.lmul, 1) := by decide +kernel
theorem dX4_odds_88 : decode cX4_odds 88 = .ok (.lstore 8, 2) := by decide +kernel
theorem dX4_odds_90 : decode cX4_odds 90 = .ok (.iinc 10 1, 3) := by decide +kernel
theorem dX4_odds_93 : decode cX4_odds 93 = .ok (.goto (-16), 3) := by decide +kernel
theorem dX4_odds_96 : decode cX4_odds 96 = .ok (.lload 8, 2) := by decide +kernel
theorem dX4_odds_98 : decode cX4_odds 98 = .ok (.lreturn, 1) := by decide +kernel
theorem dX4_divisorWithGuises_0 : decode cX4_divisorWithGuises 0 = .ok (.bipush 12, 2) := by decide +kernel
theorem dX4_divisorWithGuises_2 : decode cX4_divisorWithGuises 2 = .ok (.istore_n 1, 1) := by decide +kernel
theorem dX4_divisorWithGuises_3 : decode cX4_divisorWithGuises 3 = .ok (.iload_n 1, 1) := by decide +kernel
theorem dX4_divisorWithGuises_4 : decode cX4_divisorWithGuises 4 = .ok (.iconst 1, 1) := by decide +kernel
theorem dX4_divisorWithGuises_5 : decode cX4_divisorWithGuises 5 = .ok (.if_icmp .le 24, 3) := by decide +kernel
theorem dX4_divisorWithGuises_8 : decode cX4_divisorWithGuises 8 = .ok (.iload_n 0, 1) := by decide +kernel
theorem dX4_divisorWithGuises_9 : decode cX4_divisorWithGuises 9 = .ok (.iload_n 1, 1) := by decide +kernel
theorem dX4_divisorWithGuises_10 : decode cX4_divisorWithGuises 10 = .ok (.irem, 1) := by decide +kernel
theorem dX4_divisorWithGuises_11 : decode cX4_divisorWithGuises 11 = .ok (.ifCond .ne 12, 3) := by decide +kernel
theorem dX4_divisorWithGuises_14 : decode cX4_divisorWithGuises 14 = .ok (.bipush 12, 2) := by decide +kernel
theorem dX4_divisorWithGuises_16 : decode cX4_divisorWithGuises 16 = .ok (.iload_n 1, 1) := by decide +kernel
theorem dX4_divisorWithGuises_17 : decode cX4_divisorWithGuises 17 = .ok (.irem, 1) := by decide +kernel
theorem dX4_divisorWithGuises_18 : decode cX4_divisorWithGuises 18 = .ok (.ifCond .ne 5, 3) := by decide +kernel
theorem dX4_divisorWithGuises_21 : decode cX4_divisorWithGuises 21 = .ok (.iload_n 1, 1) := by decide +kernel
theorem dX4_divisorWithGuises_22 : decode cX4_divisorWithGuises 22 = .ok (.ireturn, 1) := by decide +kernel
theorem dX4_divisorWithGuises_23 : decode cX4_divisorWithGuises 23 = .ok (.iinc 1 (-1), 3) := by decide +kernel
theorem dX4_divisorWithGuises_26 : decode cX4_divisorWithGuises 26 = .ok (.goto (-23), 3) := by decide +kernel
theorem dX4_divisorWithGuises_29 : decode cX4_divisorWithGuises 29 = .ok (.iconst 1, 1) := by decide +kernel
theorem dX4_divisorWithGuises_30 : decode cX4_divisorWithGuises 30 = .ok (.ireturn, 1) := by decide +kernel
theorem dX4_seed_0 : decode cX4_seed 0 = .ok (.aload_n 0, 1) := by decide +kernel
theorem dX4_seed_1 : decode cX4_seed 1 = .ok (.getfield 10, 3) := by decide +kernel
theorem dX4_seed_4 : decode cX4_seed 4 = .ok (.getfield 189, 3) := by decide +kernel
theorem dX4_seed_7 : decode cX4_seed 7 = .ok (.istore_n 2, 1) := by decide +kernel
theorem dX4_seed_8 : decode cX4_seed 8 = .ok (.aload_n 0, 1) := by decide +kernel
theorem dX4_seed_9 : decode cX4_seed 9 = .ok (.getfield 10, 3) := by decide +kernel
theorem dX4_seed_12 : decode cX4_seed 12 = .ok (.iload_n 1, 1) := by decide +kernel
theorem dX4_seed_13 : decode cX4_seed 13 = .ok (.putfield 189, 3) := by decide +kernel
theorem dX4_seed_16 : decode cX4_seed 16 = .ok (.iload_n 2, 1) := by decide +kernel
theorem dX4_seed_17 : decode cX4_seed 17 = .ok (.ireturn, 1) := by decide +kernel
theorem dX4_feed_0 : decode cX4_feed 0 = .ok (.iload_n 2, 1) := by decide +kernel
theorem dX4_feed_1 : decode cX4_feed 1 = .ok (.iconst 1, 1) := by decide +kernel
theorem dX4_feed_2 : decode cX4_feed 2 = .ok (.if_icmp .lt 8, 3) := by decide +kernel
theorem dX4_feed_5 : decode cX4_feed 5 = .ok (.iload_n 2, 1) := by decide +kernel
theorem dX4_feed_6 : decode cX4_feed 6 = .ok (.iconst 4, 1) := by decide +kernel
theorem dX4_feed_7 : decode cX4_feed 7 = .ok (.if_icmp .le 9, 3) := by decide +kernel
theorem dX4_feed_10 : decode cX4_feed 10 = .ok (.aload_n 0, 1) := by decide +kernel
theorem dX4_feed_11 : decode cX4_feed 11 = .ok (.iconst 0, 1) := by decide +kernel
theorem dX4_feed_12 : decode cX4_feed 12 = .ok (.invokevirtual 44, 3) := by decide +kernel
theorem dX4_feed_15 : decode cX4_feed 15 = .ok (.ireturn, 1) := by decide +kernel
theorem dX4_feed_16 : decode cX4_feed 16 = .ok (.iload_n 2, 1) := by decide +kernel
theorem dX4_feed_17 : decode cX4_feed 17 = .ok (.aload_n 0, 1) := by decide +kernel
theorem dX4_feed_18 : decode cX4_feed 18 = .ok (.getfield 25, 3) := by decide +kernel
theorem dX4_feed_21 : decode cX4_feed 21 = .ok (.invokevirtual 192, 3) := by decide +kernel
theorem dX4_feed_24 : decode cX4_feed 24 = .ok (.if_icmp .le 9, 3) := by decide +kernel
theorem dX4_feed_27 : decode cX4_feed 27 = .ok (.aload_n 0, 1) := by decide +kernel
theorem dX4_feed_28 : decode cX4_feed 28 = .ok (.iconst 1, 1) := by decide +kernel
theorem dX4_feed_29 : decode cX4_feed 29 = .ok (.invokevirtual 44, 3) := by decide +kernel
theorem dX4_feed_32 : decode cX4_feed 32 = .ok (.ireturn, 1) := by decide +kernel
theorem dX4_feed_33 : decode cX4_feed 33 = .ok (.iload_n 2, 1) := by decide +kernel
theorem dX4_feed_34 : decode cX4_feed 34 = .ok (.iconst 1, 1) := by decide +kernel
theorem dX4_feed_35 : decode cX4_feed 35 = .ok (.isub, 1) := by decide +kernel
theorem dX4_feed_36 : decode cX4_feed 36 = .ok (.istore_n 3, 1) := by decide +kernel
theorem dX4_feed_37 : decode cX4_feed 37 = .ok (.iload_n 3, 1) := by decide +kernel
theorem dX4_feed_38 : decode cX4_feed 38 = .ok (.ifCond .lt 26, 3) := by decide +kernel
theorem dX4_feed_41 : decode cX4_feed 41 = .ok (.aload_n 0, 1) := by decide +kernel
theorem dX4_feed_42 : decode cX4_feed 42 = .ok (.getfield 25, 3) := by decide +kernel
theorem dX4_feed_45 : decode cX4_feed 45 = .ok (.iload_n 1, 1) := by decide +kernel
theorem dX4_feed_46 : decode cX4_feed 46 = .ok (.bipush 8, 2) := by decide +kernel
theorem dX4_feed_48 : decode cX4_feed 48 = .ok (.iload_n 3, 1) := by decide +kernel
theorem dX4_feed_49 : decode cX4_feed 49 = .ok (.imul, 1) := by decide +kernel
theorem dX4_feed_50 : decode cX4_feed 50 = .ok (.iushr, 1) := by decide +kernel
theorem dX4_feed_51 : decode cX4_feed 51 = .ok (.sipush 255, 3) := by decide +kernel
theorem dX4_feed_54 : decode cX4_feed 54 = .ok (.iand, 1) := by decide +kernel
theorem dX4_feed_55 : decode cX4_feed 55 = .ok (.invokevirtual 195, 3) := by decide +kernel
theorem dX4_feed_58 : decode cX4_feed 58 = .ok (.iinc 3 (-1), 3) := by decide +kernel
theorem dX4_feed_61 : decode cX4_feed 61 = .ok (.goto (-24), 3) := by decide +kernel
theorem dX4_feed_64 : decode cX4_feed 64 = .ok (.aload_n 0, 1) := by decide +kernel
theorem dX4_feed_65 : decode cX4_feed 65 = .ok (.getfield 25, 3) := by decide +kernel
theorem dX4_feed_68 : decode cX4_feed 68 = .ok (.invokevirtual 197, 3) := by decide +kernel
theorem dX4_feed_71 : decode cX4_feed 71 = .ok (.ireturn, 1) := by decide +kernel
theorem dX4_wipe_0 : decode cX4_wipe 0 = .ok (.aload_n 0, 1) := by decide +kernel
theorem dX4_wipe_1 : decode cX4_wipe 1 = .ok (.getfield 25, 3) := by decide +kernel
theorem dX4_wipe_4 : decode cX4_wipe 4 = .ok (.invokevirtual 199, 3) := by decide +kernel
theorem dX4_wipe_7 : decode cX4_wipe 7 = .ok (.ireturn, 1) := by decide +kernel
theorem dX4_text_0 : decode cX4_text 0 = .ok (.aload_n 0, 1) := by decide +kernel
theorem dX4_text_1 : decode cX4_text 1 = .ok (.getfield 16, 3) := by decide +kernel
theorem dX4_text_4 : decode cX4_text 4 = .ok (.aload_n 0, 1) := by decide +kernel
theorem dX4_text_5 : decode cX4_text 5 = .ok (.getfield 10, 3) := by decide +kernel
theorem dX4_text_8 : decode cX4_text 8 = .ok (.invokevirtual 129, 3) := by decide +kernel
theorem dX4_text_11 : decode cX4_text 11 = .ok (.aload_n 0, 1) := by decide +kernel
theorem dX4_text_12 : decode cX4_text 12 = .ok (.getfield 25, 3) := by decide +kernel
theorem dX4_text_15 : decode cX4_text 15 = .ok (.aload_n 0, 1) := by decide +kernel
theorem dX4_text_16 : decode cX4_text 16 = .ok (.getfield 16, 3) := by decide +kernel
theorem dX4_text_19 : decode cX4_text 19 = .ok (.invokevirtual 202, 3) := by decide +kernel
theorem dX4_text_22 : decode cX4_text 22 = .ok (.istore_n 1, 1) := by decide +kernel
theorem dX4_text_23 : decode cX4_text 23 = .ok (.aload_n 0, 1) := by decide +kernel
theorem dX4_text_24 : decode cX4_text 24 = .ok (.getfield 25, 3) := by decide +kernel
theorem dX4_text_27 : decode cX4_text 27 = .ok (.invokevirtual 199, 3) := by decide +kernel
theorem dX4_text_30 : decode cX4_text 30 = .ok (.pop, 1) := by decide +kernel
theorem dX4_text_31 : decode cX4_text 31 = .ok (.iload_n 1, 1) := by decide +kernel
theorem dX4_text_32 : decode cX4_text 32 = .ok (.ifCond .lt 14, 3) := by decide +kernel
theorem dX4_text_35 : decode cX4_text 35 = .ok (.aload_n 0, 1) := by decide +kernel
theorem dX4_text_36 : decode cX4_text 36 = .ok (.getfield 10, 3) := by decide +kernel
theorem dX4_text_39 : decode cX4_text 39 = .ok (.aload_n 0, 1) := by decide +kernel
theorem dX4_text_40 : decode cX4_text 40 = .ok (.getfield 16, 3) := by decide +kernel
theorem dX4_text_43 : decode cX4_text 43 = .ok (.invokevirtual 129, 3) := by decide +kernel
theorem dX4_text_46 : decode cX4_text 46 = .ok (.iload_n 1, 1) := by decide +kernel
theorem dX4_text_47 : decode cX4_text 47 = .ok (.ireturn, 1) := by decide +kernel
theorem dX4_hold_0 : decode cX4_hold 0 = .ok (.iload_n 1, 1) := by decide +kernel
theorem dX4_hold_1 : decode cX4_hold 1 = .ok (.bipush 10, 2) := by decide +kernel
theorem dX4_hold_3 : decode cX4_hold 3 = .ok (.invokestatic 40, 3) := by decide +kernel
theorem dX4_hold_6 : decode cX4_hold 6 = .ok (.ifCond .eq 19, 3) := by decide +kernel
theorem dX4_hold_9 : decode cX4_hold 9 = .ok (.iload_n 2, 1) := by decide +kernel
theorem dX4_hold_10 : decode cX4_hold 10 = .ok (.iconst (-1), 1) := by decide +kernel
theorem dX4_hold_11 : decode cX4_hold 11 = .ok (.if_icmp .eq 20, 3) := by decide +kernel
theorem dX4_hold_14 : decode cX4_hold 14 = .ok (.aload_n 0, 1) := by decide +kernel
theorem dX4_hold_15 : decode cX4_hold 15 = .ok (.getfield 10, 3) := by decide +kernel
theorem dX4_hold_18 : decode cX4_hold 18 = .ok (.iload_n 2, 1) := by decide +kernel
theorem dX4_hold_19 : decode cX4_hold 19 = .ok (.invokevirtual 56, 3) := by decide +kernel
theorem dX4_hold_22 : decode cX4_hold 22 = .ok (.ifCond .ne 9, 3) := by decide +kernel
theorem dX4_hold_25 : decode cX4_hold 25 = .ok (.aload_n 0, 1) := by decide +kernel
theorem dX4_hold_26 : decode cX4_hold 26 = .ok (.iconst 0, 1) := by decide +kernel
theorem dX4_hold_27 : decode cX4_hold 27 = .ok (.invokevirtual 44, 3) := by decide +kernel
theorem dX4_hold_30 : decode cX4_hold 30 = .ok (.ireturn, 1) := by decide +kernel
theorem dX4_hold_31 : decode cX4_hold 31 = .ok (.aload_n 0, 1) := by decide +kernel
theorem dX4_hold_32 : decode cX4_hold 32 = .ok (.getfield 10, 3) := by decide +kernel
theorem dX4_hold_35 : decode cX4_hold 35 = .ok (.getfield 206, 3) := by decide +kernel
theorem dX4_hold_38 : decode cX4_hold 38 = .ok (.iload_n 1, 1) := by decide +kernel
theorem dX4_hold_39 : decode cX4_hold 39 = .ok (.iload_n 2, 1) := by decide +kernel
theorem dX4_hold_40 : decode cX4_hold 40 = .ok (.iastore, 1) := by decide +kernel
theorem dX4_hold_41 : decode cX4_hold 41 = .ok (.iconst 1, 1) := by decide +kernel
theorem dX4_hold_42 : decode cX4_hold 42 = .ok (.ireturn, 1) := by decide +kernel
theorem dX4_as_0 : decode cX4_as 0 = .ok (.iload_n 1, 1) := by decide +kernel
theorem dX4_as_1 : decode cX4_as 1 = .ok (.bipush 10, 2) := by decide +kernel
theorem dX4_as_3 : decode cX4_as 3 = .ok (.invokestatic 40, 3) := by decide +kernel
theorem dX4_as_6 : decode cX4_as 6 = .ok (.ifCond .eq 12, 3) := by decide +kernel
theorem dX4_as_9 : decode cX4_as 9 = .ok (.iload_n 2, 1) := by decide +kernel
theorem dX4_as_10 : decode cX4_as 10 = .ok (.bipush 7, 2) := by decide +kernel
theorem dX4_as_12 : decode cX4_as 12 = .ok (.invokestatic 40, 3) := by decide +kernel
theorem dX4_as_15 : decode cX4_as 15 = .ok (.ifCond .ne 9, 3) := by decide +kernel
theorem dX4_as_18 : decode cX4_as 18 = .ok (.aload_n 0, 1) := by decide +kernel
theorem dX4_as_19 : decode cX4_as 19 = .ok (.iconst 0, 1) := by decide +kernel
theorem dX4_as_20 : decode cX4_as 20 = .ok (.invokevirtual 44, 3) := by decide +kernel
theorem dX4_as_23 : decode cX4_as 23 = .ok (.ireturn, 1) := by decide +kernel
theorem dX4_as_24 : decode cX4_as 24 = .ok (.aload_n 0, 1) := by decide +kernel
theorem dX4_as_25 : decode cX4_as 25 = .ok (.getfield 10, 3) := by decide +kernel
theorem dX4_as_28 : decode cX4_as 28 = .ok (.getfield 206, 3) := by decide +kernel
theorem dX4_as_31 : decode cX4_as 31 = .ok (.iload_n 1, 1) := by decide +kernel
theorem dX4_as_32 : decode cX4_as 32 = .ok (.iaload, 1) := by decide +kernel
theorem dX4_as_33 : decode cX4_as 33 = .ok (.istore_n 3, 1) := by decide +kernel
theorem dX4_as_34 : decode cX4_as 34 = .ok (.aload_n 0, 1) := by decide +kernel
theorem dX4_as_35 : decode cX4_as 35 = .ok (.getfield 10, 3) := by decide +kernel
theorem dX4_as_38 : decode cX4_as 38 = .ok (.iload_n 3, 1) := by decide +kernel
theorem dX4_as_39 : decode cX4_as 39 = .ok (.invokevirtual 56, 3) := by decide +kernel
theorem dX4_as_42 : decode cX4_as 42 = .ok (.ifCond .ne 9, 3) := by decide +kernel
theorem dX4_as_45 : decode cX4_as 45 = .ok (.aload_n 0, 1) := by decide +kernel
theorem dX4_as_46 : decode cX4_as 46 = .ok (.iconst 5, 1) := by decide +kernel
theorem dX4_as_47 : decode cX4_as 47 = .ok (.invokevirtual 44, 3) := by decide +kernel
theorem dX4_as_50 : decode cX4_as 50 = .ok (.ireturn, 1) := by decide +kernel
theorem dX4_as_51 : decode cX4_as 51 = .ok (.aload_n 0, 1) := by decide +kernel
theorem dX4_as_52 : decode cX4_as 52 = .ok (.getfield 10, 3) := by decide +kernel
theorem dX4_as_55 : decode cX4_as 55 = .ok (.iload_n 3, 1) := by decide +kernel
theorem dX4_as_56 : decode cX4_as 56 = .ok (.iconst 0, 1) := by decide +kernel
theorem dX4_as_57 : decode cX4_as 57 = .ok (.invokevirtual 60, 3) := by decide +kernel
theorem dX4_as_60 : decode cX4_as 60 = .ok (.iload_n 2, 1) := by decide +kernel
theorem dX4_as_61 : decode cX4_as 61 = .ok (.invokestatic 209, 3) := by decide +kernel
theorem dX4_as_64 : decode cX4_as 64 = .ok (.ifCond .ne 9, 3) := by decide +kernel
theorem dX4_as_67 : decode cX4_as 67 = .ok (.aload_n 0, 1) := by decide +kernel
theorem dX4_as_68 : decode cX4_as 68 = .ok (.iconst 2, 1) := by decide +kernel
theorem dX4_as_69 : decode cX4_as 69 = .ok (.invokevirtual 44, 3) := by decide +kernel
theorem dX4_as_72 : decode cX4_as 72 = .ok (.ireturn, 1) := by decide +kernel
theorem dX4_as_73 : decode cX4_as 73 = .ok (.iload_n 3, 1) := by decide +kernel
theorem dX4_as_74 : decode cX4_as 74 = .ok (.ireturn, 1) := by decide +kernel
theorem dX4_sheet_0 : decode cX4_sheet 0 = .ok (.iload_n 1, 1) := by decide +kernel
theorem dX4_sheet_1 : decode cX4_sheet 1 = .ok (.iconst 4, 1) := by decide +kernel
theorem dX4_sheet_2 : decode cX4_sheet 2 = .ok (.invokestatic 40, 3) := by decide +kernel
theorem dX4_sheet_5 : decode cX4_sheet 5 = .ok (.ifCond .eq 25, 3) := by decide +kernel
theorem dX4_sheet_8 : decode cX4_sheet 8 = .ok (.iload_n 2, 1) := by decide +kernel
theorem dX4_sheet_9 : decode cX4_sheet 9 = .ok (.ifCond .eq 27, 3) := by decide +kernel
theorem dX4_sheet_12 : decode cX4_sheet 12 = .ok (.iload_n 2, 1) := by decide +kernel
theorem dX4_sheet_13 : decode cX4_sheet 13 = .ok (.bipush 8, 2) := by decide +kernel
theorem dX4_sheet_15 : decode cX4_sheet 15 = .ok (.if_icmp .eq 21, 3) := by decide +kernel
theorem dX4_sheet_18 : decode cX4_sheet 18 = .ok (.iload_n 2, 1) := by decide +kernel
theorem dX4_sheet_19 : decode cX4_sheet 19 = .ok (.bipush 16, 2) := by decide +kernel
theorem dX4_sheet_21 : decode cX4_sheet 21 = .ok (.if_icmp .eq 15, 3) := by decide +kernel
theorem dX4_sheet_24 : decode cX4_sheet 24 = .ok (.iload_n 2, 1) := by decide +kernel
theorem dX4_sheet_25 : decode cX4_sheet 25 = .ok (.bipush 32, 2) := by decide +kernel
theorem dX4_sheet_27 : decode cX4_sheet 27 = .ok (.if_icmp .eq 9, 3) := by decide +kernel
theorem dX4_sheet_30 : decode cX4_sheet 30 = .ok (.aload_n 0, 1) := by decide +kernel
theorem dX4_sheet_31 : decode cX4_sheet 31 = .ok (.iconst 0, 1) := by decide +kernel
theorem dX4_sheet_32 : decode cX4_sheet 32 = .ok (.invokevirtual 44, 3) := by decide +kernel
theorem dX4_sheet_35 : decode cX4_sheet 35 = .ok (.ireturn, 1) := by decide +kernel
theorem dX4_sheet_36 : decode cX4_sheet 36 = .ok (.iload_n 3, 1) := by decide +kernel
theorem dX4_sheet_37 : decode cX4_sheet 37 = .ok (.ifCond .ge 10, 3) := by decide +kernel
theorem dX4_sheet_40 : decode cX4_sheet 40 = .ok (.aload_n 0, 1) := by decide +kernel
theorem dX4_sheet_41 : decode cX4_sheet 41 = .ok (.bipush 6, 2) := by decide +kernel
theorem dX4_sheet_43 : decode cX4_sheet 43 = .ok (.invokevirtual 44, 3) := by decide +kernel
theorem dX4_sheet_46 : decode cX4_sheet 46 = .ok (.ireturn, 1) := by decide +kernel
theorem dX4_sheet_47 : decode cX4_sheet 47 = .ok (.iload_n 3, 1) := by decide +kernel
theorem dX4_sheet_48 : decode cX4_sheet 48 = .ok (.bipush 40, 2) := by decide +kernel
theorem dX4_sheet_50 : decode cX4_sheet 50 = .ok (.if_icmp .le 9, 3) := by decide +kernel
theorem dX4_sheet_53 : decode cX4_sheet 53 = .ok (.aload_n 0, 1) := by decide +kernel
theorem dX4_sheet_54 : decode cX4_sheet 54 = .ok (.iconst 0, 1) := by decide +kernel
theorem dX4_sheet_55 : decode cX4_sheet 55 = .ok (.invokevirtual 44, 3) := by decide +kernel
theorem dX4_sheet_58 : decode cX4_sheet 58 = .ok (.ireturn, 1) := by decide +kernel
theorem dX4_sheet_59 : decode cX4_sheet 59 = .ok (.aload_n 0, 1) := by decide +kernel
theorem dX4_sheet_60 : decode cX4_sheet 60 = .ok (.getfield 32, 3) := by decide +kernel
theorem dX4_sheet_63 : decode cX4_sheet 63 = .ok (.iload_n 1, 1) := by decide +kernel
theorem dX4_sheet_64 : decode cX4_sheet 64 = .ok (.iload_n 2, 1) := by decide +kernel
theorem dX4_sheet_65 : decode cX4_sheet 65 = .ok (.iload_n 2, 1) := by decide +kernel
theorem dX4_sheet_66 : decode cX4_sheet 66 = .ok (.ifCond .ne 7, 3) := by decide +kernel
theorem dX4_sheet_69 : decode cX4_sheet 69 = .ok (.iconst 0, 1) := by decide +kernel
theorem dX4_sheet_70 : decode cX4_sheet 70 = .ok (.goto 4, 3) := by decide +kernel
theorem dX4_sheet_73 : decode cX4_sheet 73 = .ok (.iload_n 3, 1) := by decide +kernel
theorem dX4_sheet_74 : decode cX4_sheet 74 = .ok (.invokevirtual 214, 3) := by decide +kernel
theorem dX4_sheet_77 : decode cX4_sheet 77 = .ok (.aload_n 0, 1) := by decide +kernel
theorem dX4_sheet_78 : decode cX4_sheet 78 = .ok (.getfield 32, 3) := by decide +kernel
theorem dX4_sheet_81 : decode cX4_sheet 81 = .ok (.iload_n 1, 1) := by decide +kernel
theorem dX4_sheet_82 : decode cX4_sheet 82 = .ok (.invokevirtual 174, 3) := by decide +kernel
theorem dX4_sheet_85 : decode cX4_sheet 85 = .ok (.ireturn, 1) := by decide +kernel
theorem dX4_write_0 : decode cX4_write 0 = .ok (.iload_n 1, 1) := by decide +kernel
theorem dX4_write_1 : decode cX4_write 1 = .ok (.iconst 4, 1) := by decide +kernel
theorem dX4_write_2 : decode cX4_write 2 = .ok (.invokestatic 40, 3) := by decide +kernel
theorem dX4_write_5 : decode cX4_write 5 = .ok (.ifCond .ne 9, 3) := by decide +kernel
theorem dX4_write_8 : decode cX4_write 8 = .ok (.aload_n 0, 1) := by decide +kernel
theorem dX4_write_9 : decode cX4_write 9 = .ok (.iconst 0, 1) := by decide +kernel
theorem dX4_write_10 : decode cX4_write 10 = .ok (.invokevirtual 44, 3) := by decide +kernel
theorem dX4_write_13 : decode cX4_write 13 = .ok (.ireturn, 1) := by decide +kernel
theorem dX4_write_14 : decode cX4_write 14 = .ok (.aload_n 0, 1) := by decide +kernel
theorem dX4_write_15 : decode cX4_write 15 = .ok (.getfield 32, 3) := by decide +kernel
theorem dX4_write_18 : decode cX4_write 18 = .ok (.iload_n 1, 1) := by decide +kernel
theorem dX4_write_19 : decode cX4_write 19 = .ok (.invokevirtual 168, 3) := by decide +kernel
theorem dX4_write_22 : decode cX4_write 22 = .ok (.ifCond .eq 9, 3) := by decide +kernel
theorem dX4_write_25 : decode cX4_write 25 = .ok (.aload_n 0, 1) := by decide +kernel
theorem dX4_write_26 : decode cX4_write 26 = .ok (.iconst 5, 1) := by decide +kernel
theorem dX4_write_27 : decode cX4_write 27 = .ok (.invokevirtual 44, 3) := by decide +kernel
theorem dX4_write_30 : decode cX4_write 30 = .ok (.ireturn, 1) := by decide +kernel
theorem dX4_write_31 : decode cX4_write 31 = .ok (.iload_n 2, 1) := by decide +kernel
theorem dX4_write_32 : decode cX4_write 32 = .ok (.aload_n 0, 1) := by decide +kernel
theorem dX4_write_33 : decode cX4_write 33 = .ok (.getfield 32, 3) := by decide +kernel
theorem dX4_write_36 : decode cX4_write 36 = .ok (.iload_n 1, 1) := by decide +kernel
theorem dX4_write_37 : decode cX4_write 37 = .ok (.invokevirtual 174, 3) := by decide +kernel
theorem dX4_write_40 : decode cX4_write 40 = .ok (.invokestatic 40, 3) := by decide +kernel
theorem dX4_write_43 : decode cX4_write 43 = .ok (.ifCond .ne 9, 3) := by decide +kernel
theorem dX4_write_46 : decode cX4_write 46 = .ok (.aload_n 0, 1) := by decide +kernel
theorem dX4_write_47 : decode cX4_write 47 = .ok (.iconst 0, 1) := by decide +kernel
theorem dX4_write_48 : decode cX4_write 48 = .ok (.invokevirtual 44, 3) := by decide +kernel
theorem dX4_write_51 : decode cX4_write 51 = .ok (.ireturn, 1) := by decide +kernel
theorem dX4_write_52 : decode cX4_write 52 = .ok (.aload_n 0, 1) := by decide +kernel
theorem dX4_write_53 : decode cX4_write 53 = .ok (.getfield 32, 3) := by decide +kernel
theorem dX4_write_56 : decode cX4_write 56 = .ok (.iload_n 1, 1) := by decide +kernel
theorem dX4_write_57 : decode cX4_write 57 = .ok (.iload_n 2, 1) := by decide +kernel
theorem dX4_write_58 : decode cX4_write 58 = .ok (.iload_n 3, 1) := by decide +kernel
theorem dX4_write_59 : decode cX4_write 59 = .ok (.invokevirtual 217, 3) := by decide +kernel
theorem dX4_write_62 : decode cX4_write 62 = .ok (.iconst 1, 1) := by decide +kernel
theorem dX4_write_63 : decode cX4_write 63 = .ok (.ireturn, 1) := by decide +kernel
theorem dX4_copy_0 : decode cX4_copy 0 = .ok (.iload_n 1, 1) := by decide +kernel
theorem dX4_copy_1 : decode cX4_copy 1 = .ok (.iconst 4, 1) := by decide +kernel
theorem dX4_copy_2 : decode cX4_copy 2 = .ok (.invokestatic 40, 3) := by decide +kernel
theorem dX4_copy_5 : decode cX4_copy 5 = .ok (.ifCond .eq 11, 3) := by decide +kernel
theorem dX4_copy_8 : decode cX4_copy 8 = .ok (.iload_n 3, 1) := by decide +kernel
theorem dX4_copy_9 : decode cX4_copy 9 = .ok (.iconst 4, 1) := by decide +kernel
theorem dX4_copy_10 : decode cX4_copy 10 = .ok (.invokestatic 40, 3) := by decide +kernel
theorem dX4_copy_13 : decode cX4_copy 13 = .ok (.ifCond .ne 9, 3) := by decide +kernel
theorem dX4_copy_16 : decode cX4_copy 16 = .ok (.aload_n 0, 1) := by decide +kernel
theorem dX4_copy_17 : decode cX4_copy 17 = .ok (.iconst 0, 1) := by decide +kernel
theorem dX4_copy_18 : decode cX4_copy 18 = .ok (.invokevirtual 44, 3) := by decide +kernel
theorem dX4_copy_21 : decode cX4_copy 21 = .ok (.ireturn, 1) := by decide +kernel
theorem dX4_copy_22 : decode cX4_copy 22 = .ok (.aload_n 0, 1) := by decide +kernel
theorem dX4_copy_23 : decode cX4_copy 23 = .ok (.getfield 32, 3) := by decide +kernel
theorem dX4_copy_26 : decode cX4_copy 26 = .ok (.iload_n 1, 1) := by decide +kernel
theorem dX4_copy_27 : decode cX4_copy 27 = .ok (.invokevirtual 168, 3) := by decide +kernel
theorem dX4_copy_30 : decode cX4_copy 30 = .ok (.ifCond .ne 14, 3) := by decide +kernel
theorem dX4_copy_33 : decode cX4_copy 33 = .ok (.aload_n 0, 1) := by decide +kernel
theorem dX4_copy_34 : decode cX4_copy 34 = .ok (.getfield 32, 3) := by decide +kernel
theorem dX4_copy_37 : decode cX4_copy 37 = .ok (.iload_n 3, 1) := by decide +kernel
theorem dX4_copy_38 : decode cX4_copy 38 = .ok (.invokevirtual 168, 3) := by decide +kernel
theorem dX4_copy_41 : decode cX4_copy 41 = .ok (.ifCond .eq 9, 3) := by decide +kernel
theorem dX4_copy_44 : decode cX4_copy 44 = .ok (.aload_n 0, 1) := by decide +kernel
theorem dX4_copy_45 : decode cX4_copy 45 = .ok (.iconst 5, 1) := by decide +kernel
theorem dX4_copy_46 : decode cX4_copy 46 = .ok (.invokevirtual 44, 3) := by decide +kernel
theorem dX4_copy_49 : decode cX4_copy 49 = .ok (.ireturn, 1) := by decide +kernel
theorem dX4_copy_50 : decode cX4_copy 50 = .ok (.aload_n 0, 1) := by decide +kernel
theorem dX4_copy_51 : decode cX4_copy 51 = .ok (.getfield 32, 3) := by decide +kernel
theorem dX4_copy_54 : decode cX4_copy 54 = .ok (.iload_n 1, 1) := by decide +kernel
theorem dX4_copy_55 : decode cX4_copy 55 = .ok (.invokevirtual 218, 3) := by decide +kernel
theorem dX4_copy_58 : decode cX4_copy 58 = .ok (.aload_n 0, 1) := by decide +kernel
theorem dX4_copy_59 : decode cX4_copy 59 = .ok (.getfield 32, 3) := by decide +kernel
theorem dX4_copy_62 : decode cX4_copy 62 = .ok (.iload_n 3, 1) := by decide +kernel
theorem dX4_copy_63 : decode cX4_copy 63 = .ok (.invokevirtual 218, 3) := by decide +kernel
theorem dX4_copy_66 : decode cX4_copy 66 = .ok (.if_icmp .eq 9, 3) := by decide +kernel
theorem dX4_copy_69 : decode cX4_copy 69 = .ok (.aload_n 0, 1) := by decide +kernel
theorem dX4_copy_70 : decode cX4_copy 70 = .ok (.iconst 2, 1) := by decide +kernel
theorem dX4_copy_71 : decode cX4_copy 71 = .ok (.invokevirtual 44, 3) := by decide +kernel
theorem dX4_copy_74 : decode cX4_copy 74 = .ok (.ireturn, 1) := by decide +kernel
theorem dX4_copy_75 : decode cX4_copy 75 = .ok (.aload_n 0, 1) := by decide +kernel
theorem dX4_copy_76 : decode cX4_copy 76 = .ok (.getfield 32, 3) := by decide +kernel
theorem dX4_copy_79 : decode cX4_copy 79 = .ok (.iload_n 1, 1) := by decide +kernel
theorem dX4_copy_80 : decode cX4_copy 80 = .ok (.iload_n 2, 1) := by decide +kernel
theorem dX4_copy_81 : decode cX4_copy 81 = .ok (.iload 5, 2) := by decide +kernel
theorem dX4_copy_83 : decode cX4_copy 83 = .ok (.invokevirtual 221, 3) := by decide +kernel
theorem dX4_copy_86 : decode cX4_copy 86 = .ok (.ifCond .eq 18, 3) := by decide +kernel
theorem dX4_copy_89 : decode cX4_copy 89 = .ok (.aload_n 0, 1) := by decide +kernel
theorem dX4_copy_90 : decode cX4_copy 90 = .ok (.getfield 32, 3) := by decide +kernel
theorem dX4_copy_93 : decode cX4_copy 93 = .ok (.iload_n 3, 1) := by decide +kernel
theorem dX4_copy_94 : decode cX4_copy 94 = .ok (.iload 4, 2) := by decide +kernel
theorem dX4_copy_96 : decode cX4_copy 96 = .ok (.iload 5, 2) := by decide +kernel
theorem dX4_copy_98 : decode cX4_copy 98 = .ok (.invokevirtual 221, 3) := by decide +kernel
theorem dX4_copy_101 : decode cX4_copy 101 = .ok (.ifCond .ne 9, 3) := by decide +kernel
theorem dX4_copy_104 : decode cX4_copy 104 = .ok (.aload_n 0, 1) := by decide +kernel
theorem dX4_copy_105 : decode cX4_copy 105 = .ok (.iconst 0, 1) := by decide +kernel
theorem dX4_copy_106 : decode cX4_copy 106 = .ok (.invokevirtual 44, 3) := by decide +kernel
theorem dX4_copy_109 : decode cX4_copy 109 = .ok (.ireturn, 1) := by decide +kernel
theorem dX4_copy_110 : decode cX4_copy 110 = .ok (.aload_n 0, 1) := by decide +kernel
theorem dX4_copy_111 : decode cX4_copy 111 = .ok (.getfield 32, 3) := by decide +kernel
theorem dX4_copy_114 : decode cX4_copy 114 = .ok (.iload_n 1, 1) := by decide +kernel
theorem dX4_copy_115 : decode cX4_copy 115 = .ok (.iload_n 2, 1) := by decide +kernel
theorem dX4_copy_116 : decode cX4_copy 116 = .ok (.iload_n 3, 1) := by decide +kernel
theorem dX4_copy_117 : decode cX4_copy 117 = .ok (.iload 4, 2) := by decide +kernel
theorem dX4_copy_119 : decode cX4_copy 119 = .ok (.iload 5, 2) := by decide +kernel
theorem dX4_copy_121 : decode cX4_copy 121 = .ok (.invokevirtual 224, 3) := by decide +kernel
theorem dX4_copy_124 : decode cX4_copy 124 = .ok (.iload 5, 2) := by decide +kernel
theorem dX4_copy_126 : decode cX4_copy 126 = .ok (.ireturn, 1) := by decide +kernel
theorem dX4_load_0 : decode cX4_load 0 = .ok (.iload_n 1, 1) := by decide +kernel
theorem dX4_load_1 : decode cX4_load 1 = .ok (.iconst 4, 1) := by decide +kernel
theorem dX4_load_2 : decode cX4_load 2 = .ok (.invokestatic 40, 3) := by decide +kernel
theorem dX4_load_5 : decode cX4_load 5 = .ok (.ifCond .ne 9, 3) := by decide +kernel
theorem dX4_load_8 : decode cX4_load 8 = .ok (.aload_n 0, 1) := by decide +kernel
theorem dX4_load_9 : decode cX4_load 9 = .ok (.iconst 0, 1) := by decide +kernel
theorem dX4_load_10 : decode cX4_load 10 = .ok (.invokevirtual 44, 3) := by decide +kernel
theorem dX4_load_13 : decode cX4_load 13 = .ok (.ireturn, 1) := by decide +kernel
theorem dX4_load_14 : decode cX4_load 14 = .ok (.aload_n 0, 1) := by decide +kernel
theorem dX4_load_15 : decode cX4_load 15 = .ok (.getfield 32, 3) := by decide +kernel
theorem dX4_load_18 : decode cX4_load 18 = .ok (.iload_n 1, 1) := by decide +kernel
theorem dX4_load_19 : decode cX4_load 19 = .ok (.invokevirtual 168, 3) := by decide +kernel
theorem dX4_load_22 : decode cX4_load 22 = .ok (.ifCond .eq 9, 3) := by decide +kernel
theorem dX4_load_25 : decode cX4_load 25 = .ok (.aload_n 0, 1) := by decide +kernel
theorem dX4_load_26 : decode cX4_load 26 = .ok (.iconst 5, 1) := by decide +kernel
theorem dX4_load_27 : decode cX4_load 27 = .ok (.invokevirtual 44, 3) := by decide +kernel
theorem dX4_load_30 : decode cX4_load 30 = .ok (.ireturn, 1) := by decide +kernel
theorem dX4_load_31 : decode cX4_load 31 = .ok (.aload_n 0, 1) := by decide +kernel
theorem dX4_load_32 : decode cX4_load 32 = .ok (.getfield 32, 3) := by decide +kernel
theorem dX4_load_35 : decode cX4_load 35 = .ok (.iload_n 1, 1) := by decide +kernel
theorem dX4_load_36 : decode cX4_load 36 = .ok (.invokevirtual 174, 3) := by decide +kernel
theorem dX4_load_39 : decode cX4_load 39 = .ok (.aload_n 0, 1) := by decide +kernel
theorem dX4_load_40 : decode cX4_load 40 = .ok (.getfield 10, 3) := by decide +kernel
theorem dX4_load_43 : decode cX4_load 43 = .ok (.getfield 144, 3) := by decide +kernel
theorem dX4_load_46 : decode cX4_load 46 = .ok (.invokestatic 228, 3) := by decide +kernel
theorem dX4_load_49 : decode cX4_load 49 = .ok (.istore_n 2, 1) := by decide +kernel
theorem dX4_load_50 : decode cX4_load 50 = .ok (.iconst 0, 1) := by decide +kernel
theorem dX4_load_51 : decode cX4_load 51 = .ok (.istore_n 3, 1) := by decide +kernel
theorem dX4_load_52 : decode cX4_load 52 = .ok (.iload_n 3, 1) := by decide +kernel
theorem dX4_load_53 : decode cX4_load 53 = .ok (.iload_n 2, 1) := by decide +kernel
theorem dX4_load_54 : decode cX4_load 54 = .ok (.if_icmp .ge 43, 3) := by decide +kernel
theorem dX4_load_57 : decode cX4_load 57 = .ok (.aload_n 0, 1) := by decide +kernel
theorem dX4_load_58 : decode cX4_load 58 = .ok (.getfield 32, 3) := by decide +kernel
theorem dX4_load_61 : decode cX4_load 61 = .ok (.iload_n 1, 1) := by decide +kernel
theorem dX4_load_62 : decode cX4_load 62 = .ok (.iload_n 3, 1) := by decide +kernel
theorem dX4_load_63 : decode cX4_load 63 = .ok (.invokevirtual 177, 3) := by decide +kernel
theorem dX4_load_66 : decode cX4_load 66 = .ok (.istore 4, 2) := by decide +kernel
theorem dX4_load_68 : decode cX4_load 68 = .ok (.iload 4, 2) := by decide +kernel
theorem dX4_load_70 : decode cX4_load 70 = .ok (.bipush 12, 2) := by decide +kernel
theorem dX4_load_72 : decode cX4_load 72 = .ok (.invokestatic 40, 3) := by decide +kernel
theorem dX4_load_75 : decode cX4_load 75 = .ok (.ifCond .ne 5, 3) := by decide +kernel
theorem dX4_load_78 : decode cX4_load 78 = .ok (.iload_n 3, 1) := by decide +kernel
theorem dX4_load_79 : decode cX4_load 79 = .ok (.ireturn, 1) := by decide +kernel
theorem dX4_load_80 : decode cX4_load 80 = .ok (.aload_n 0, 1) := by decide +kernel
theorem dX4_load_81 : decode cX4_load 81 = .ok (.getfield 10, 3) := by decide +kernel
theorem dX4_load_84 : decode cX4_load 84 = .ok (.iload_n 3, 1) := by decide +kernel
theorem dX4_load_85 : decode cX4_load 85 = .ok (.iconst 2, 1) := by decide +kernel
theorem dX4_load_86 : decode cX4_load 86 = .ok (.iload 4, 2) := by decide +kernel
theorem dX4_load_88 : decode cX4_load 88 = .ok (.invokevirtual 67, 3) := by decide +kernel
theorem dX4_load_91 : decode cX4_load 91 = .ok (.iinc 3 1, 3) := by decide +kernel
theorem dX4_load_94 : decode cX4_load 94 = .ok (.goto (-42), 3) := by decide +kernel
theorem dX4_load_97 : decode cX4_load 97 = .ok (.iload_n 2, 1) := by decide +kernel
theorem dX4_load_98 : decode cX4_load 98 = .ok (.ireturn, 1) := by decide +kernel
theorem dX4_judge_0 : decode cX4_judge 0 = .ok (.iload_n 1, 1) := by decide +kernel
theorem dX4_judge_1 : decode cX4_judge 1 = .ok (.iconst 4, 1) := by decide +kernel
theorem dX4_judge_2 : decode cX4_judge 2 = .ok (.invokestatic 40, 3) := by decide +kernel
theorem dX4_judge_5 : decode cX4_judge 5 = .ok (.ifCond .ne 9, 3) := by decide +kernel
theorem dX4_judge_8 : decode cX4_judge 8 = .ok (.aload_n 0, 1) := by decide +kernel
theorem dX4_judge_9 : decode cX4_judge 9 = .ok (.iconst 0, 1) := by decide +kernel
theorem dX4_judge_10 : decode cX4_judge 10 = .ok (.invokevirtual 44, 3) := by decide +kernel
theorem dX4_judge_13 : decode cX4_judge 13 = .ok (.ireturn, 1) := by decide +kernel
theorem dX4_judge_14 : decode cX4_judge 14 = .ok (.aload_n 0, 1) := by decide +kernel
theorem dX4_judge_15 : decode cX4_judge 15 = .ok (.getfield 32, 3) := by decide +kernel
theorem dX4_judge_18 : decode cX4_judge 18 = .ok (.iload_n 1, 1) := by decide +kernel
theorem dX4_judge_19 : decode cX4_judge 19 = .ok (.invokevirtual 168, 3) := by decide +kernel
theorem dX4_judge_22 : decode cX4_judge 22 = .ok (.ifCond .eq 9, 3) := by decide +kernel
theorem dX4_judge_25 : decode cX4_judge 25 = .ok (.aload_n 0, 1) := by decide +kernel
theorem dX4_judge_26 : decode cX4_judge 26 = .ok (.iconst 5, 1) := by decide +kernel
theorem dX4_judge_27 : decode cX4_judge 27 = .ok (.invokevirtual 44, 3) := by decide +kernel
theorem dX4_judge_30 : decode cX4_judge 30 = .ok (.ireturn, 1) := by decide +kernel
theorem dX4_judge_31 : decode cX4_judge 31 = .ok (.iconst 0, 1) := by decide +kernel
theorem dX4_judge_32 : decode cX4_judge 32 = .ok (.istore_n 2, 1) := by decide +kernel
theorem dX4_judge_33 : decode cX4_judge 33 = .ok (.iload_n 2, 1) := by decide +kernel
theorem dX4_judge_34 : decode cX4_judge 34 = .ok (.aload_n 0, 1) := by decide +kernel
theorem dX4_judge_35 : decode cX4_judge 35 = .ok (.getfield 32, 3) := by decide +kernel
theorem dX4_judge_38 : decode cX4_judge 38 = .ok (.iload_n 1, 1) := by decide +kernel
theorem dX4_judge_39 : decode cX4_judge 39 = .ok (.invokevirtual 174, 3) := by decide +kernel
theorem dX4_judge_42 : decode cX4_judge 42 = .ok (.if_icmp .ge 45, 3) := by decide +kernel
theorem dX4_judge_45 : decode cX4_judge 45 = .ok (.aload_n 0, 1) := by decide +kernel
theorem dX4_judge_46 : decode cX4_judge 46 = .ok (.getfield 10, 3) := by decide +kernel
theorem dX4_judge_49 : decode cX4_judge 49 = .ok (.iload_n 2, 1) := by decide +kernel
theorem dX4_judge_50 : decode cX4_judge 50 = .ok (.invokevirtual 56, 3) := by decide +kernel
theorem dX4_judge_53 : decode cX4_judge 53 = .ok (.ifCond .eq 24, 3) := by decide +kernel
theorem dX4_judge_56 : decode cX4_judge 56 = .ok (.aload_n 0, 1) := by decide +kernel
theorem dX4_judge_57 : decode cX4_judge 57 = .ok (.getfield 32, 3) := by decide +kernel
theorem dX4_judge_60 : decode cX4_judge 60 = .ok (.iload_n 1, 1) := by decide +kernel
theorem dX4_judge_61 : decode cX4_judge 61 = .ok (.iload_n 2, 1) := by decide +kernel
theorem dX4_judge_62 : decode cX4_judge 62 = .ok (.invokevirtual 177, 3) := by decide +kernel
theorem dX4_judge_65 : decode cX4_judge 65 = .ok (.aload_n 0, 1) := by decide +kernel
theorem dX4_judge_66 : decode cX4_judge 66 = .ok (.getfield 10, 3) := by decide +kernel
theorem dX4_judge_69 : decode cX4_judge 69 = .ok (.iload_n 2, 1) := by decide +kernel
theorem dX4_judge_70 : decode cX4_judge 70 = .ok (.iconst 4, 1) := by decide +kernel
theorem dX4_judge_71 : decode cX4_judge 71 = .ok (.invokevirtual 60, 3) := by decide +kernel
theorem dX4_judge_74 : decode cX4_judge 74 = .ok (.if_icmp .eq 7, 3) := by decide +kernel
theorem dX4_judge_77 : decode cX4_judge 77 = .ok (.iconst 1, 1) := by decide +kernel
theorem dX4_judge_78 : decode cX4_judge 78 = .ok (.iload_n 2, 1) := by decide +kernel
theorem dX4_judge_79 : decode cX4_judge 79 = .ok (.iadd, 1) := by decide +kernel
theorem dX4_judge_80 : decode cX4_judge 80 = .ok (.ireturn, 1) := by decide +kernel
theorem dX4_judge_81 : decode cX4_judge 81 = .ok (.iinc 2 1, 3) := by decide +kernel
theorem dX4_judge_84 : decode cX4_judge 84 = .ok (.goto (-51), 3) := by decide +kernel
theorem dX4_judge_87 : decode cX4_judge 87 = .ok (.iconst 0, 1) := by decide +kernel
theorem dX4_judge_88 : decode cX4_judge 88 = .ok (.ireturn, 1) := by decide +kernel
theorem dX4_image_0 : decode cX4_image 0 = .ok (.aload_n 0, 1) := by decide +kernel
theorem dX4_image_1 : decode cX4_image 1 = .ok (.getfield 19, 3) := by decide +kernel
theorem dX4_image_4 : decode cX4_image 4 = .ok (.aload_n 0, 1) := by decide +kernel
theorem dX4_image_5 : decode cX4_image 5 = .ok (.getfield 10, 3) := by decide +kernel
theorem dX4_image_8 : decode cX4_image 8 = .ok (.invokevirtual 129, 3) := by decide +kernel
theorem dX4_image_11 : decode cX4_image 11 = .ok (.aload_n 0, 1) := by decide +kernel
theorem dX4_image_12 : decode cX4_image 12 = .ok (.iconst 1, 1) := by decide +kernel
theorem dX4_image_13 : decode cX4_image 13 = .ok (.putfield 233, 3) := by decide +kernel
theorem dX4_image_16 : decode cX4_image 16 = .ok (.iconst 1, 1) := by decide +kernel
theorem dX4_image_17 : decode cX4_image 17 = .ok (.ireturn, 1) := by decide +kernel
theorem dX4_undo_0 : decode cX4_undo 0 = .ok (.aload_n 0, 1) := by decide +kernel
theorem dX4_undo_1 : decode cX4_undo 1 = .ok (.getfield 233, 3) := by decide +kernel
theorem dX4_undo_4 : decode cX4_undo 4 = .ok (.ifCond .ne 9, 3) := by decide +kernel
theorem dX4_undo_7 : decode cX4_undo 7 = .ok (.aload_n 0, 1) := by decide +kernel
theorem dX4_undo_8 : decode cX4_undo 8 = .ok (.iconst 3, 1) := by decide +kernel
theorem dX4_undo_9 : decode cX4_undo 9 = .ok (.invokevirtual 44, 3) := by decide +kernel
theorem dX4_undo_12 : decode cX4_undo 12 = .ok (.ireturn, 1) := by decide +kernel
theorem dX4_undo_13 : decode cX4_undo 13 = .ok (.aload_n 0, 1) := by decide +kernel
theorem dX4_undo_14 : decode cX4_undo 14 = .ok (.getfield 10, 3) := by decide +kernel
theorem dX4_undo_17 : decode cX4_undo 17 = .ok (.aload_n 0, 1) := by decide +kernel
theorem dX4_undo_18 : decode cX4_undo 18 = .ok (.getfield 19, 3) := by decide +kernel
theorem dX4_undo_21 : decode cX4_undo 21 = .ok (.invokevirtual 129, 3) := by decide +kernel
theorem dX4_undo_24 : decode cX4_undo 24 = .ok (.aload_n 0, 1) := by decide +kernel
theorem dX4_undo_25 : decode cX4_undo 25 = .ok (.getfield 10, 3) := by decide +kernel
theorem dX4_undo_28 : decode cX4_undo 28 = .ok (.getfield 107, 3) := by decide +kernel
theorem dX4_undo_31 : decode cX4_undo 31 = .ok (.ireturn, 1) := by decide +kernel
theorem dX4_tear_0 : decode cX4_tear 0 = .ok (.aload_n 0, 1) := by decide +kernel
theorem dX4_tear_1 : decode cX4_tear 1 = .ok (.getfield 233, 3) := by decide +kernel
theorem dX4_tear_4 : decode cX4_tear 4 = .ok (.invokestatic 74, 3) := by decide +kernel
theorem dX4_tear_7 : decode cX4_tear 7 = .ok (.istore_n 1, 1) := by decide +kernel
theorem dX4_tear_8 : decode cX4_tear 8 = .ok (.aload_n 0, 1) := by decide +kernel
theorem dX4_tear_9 : decode cX4_tear 9 = .ok (.iconst 0, 1) := by decide +kernel
theorem dX4_tear_10 : decode cX4_tear 10 = .ok (.putfield 233, 3) := by decide +kernel
theorem dX4_tear_13 : decode cX4_tear 13 = .ok (.iload_n 1, 1) := by decide +kernel
theorem dX4_tear_14 : decode cX4_tear 14 = .ok (.ireturn, 1) := by decide +kernel
theorem dX4_count_0 : decode cX4_count 0 = .ok (.iload_n 1, 1) := by decide +kernel
theorem dX4_count_1 : decode cX4_count 1 = .ok (.tableswitch 111 0 7 #[47, 55, 63, 71, 79, 87, 95, 103], 47) := by decide +kernel
theorem dX4_count_48 : decode cX4_count 48 = .ok (.aload_n 0, 1) := by decide +kernel
theorem dX4_count_49 : decode cX4_count 49 = .ok (.getfield 10, 3) := by decide +kernel
theorem dX4_count_52 : decode cX4_count 52 = .ok (.getfield 107, 3) := by decide +kernel
theorem dX4_count_55 : decode cX4_count 55 = .ok (.ireturn, 1) := by decide +kernel
theorem dX4_count_56 : decode cX4_count 56 = .ok (.aload_n 0, 1) := by decide +kernel
theorem dX4_count_57 : decode cX4_count 57 = .ok (.getfield 10, 3) := by decide +kernel
theorem dX4_count_60 : decode cX4_count 60 = .ok (.getfield 144, 3) := by decide +kernel
theorem dX4_count_63 : decode cX4_count 63 = .ok (.ireturn, 1) := by decide +kernel
theorem dX4_count_64 : decode cX4_count 64 = .ok (.aload_n 0, 1) := by decide +kernel
theorem dX4_count_65 : decode cX4_count 65 = .ok (.getfield 10, 3) := by decide +kernel
theorem dX4_count_68 : decode cX4_count 68 = .ok (.getfield 103, 3) := by decide +kernel
theorem dX4_count_71 : decode cX4_count 71 = .ok (.ireturn, 1) := by decide +kernel
theorem dX4_count_72 : decode cX4_count 72 = .ok (.aload_n 0, 1) := by decide +kernel
theorem dX4_count_73 : decode cX4_count 73 = .ok (.getfield 10, 3) := by decide +kernel
theorem dX4_count_76 : decode cX4_count 76 = .ok (.invokevirtual 114, 3) := by decide +kernel
theorem dX4_count_79 : decode cX4_count 79 = .ok (.ireturn, 1) := by decide +kernel
theorem dX4_count_80 : decode cX4_count 80 = .ok (.aload_n 0, 1) := by decide +kernel
theorem dX4_count_81 : decode cX4_count 81 = .ok (.getfield 10, 3) := by decide +kernel
theorem dX4_count_84 : decode cX4_count 84 = .ok (.invokevirtual 123, 3) := by decide +kernel
theorem dX4_count_87 : decode cX4_count 87 = .ok (.ireturn, 1) := by decide +kernel
theorem dX4_count_88 : decode cX4_count 88 = .ok (.aload_n 0, 1) := by decide +kernel
theorem dX4_count_89 : decode cX4_count 89 = .ok (.getfield 25, 3) := by decide +kernel
theorem dX4_count_92 : decode cX4_count 92 = .ok (.invokevirtual 197, 3) := by decide +kernel
theorem dX4_count_95 : decode cX4_count 95 = .ok (.ireturn, 1) := by decide +kernel
theorem dX4_count_96 : decode cX4_count 96 = .ok (.aload_n 0, 1) := by decide +kernel
theorem dX4_count_97 : decode cX4_count 97 = .ok (.getfield 10, 3) := by decide +kernel
theorem dX4_count_100 : decode cX4_count 100 = .ok (.getfield 189, 3) := by decide +kernel
theorem dX4_count_103 : decode cX4_count 103 = .ok (.ireturn, 1) := by decide +kernel
theorem dX4_count_104 : decode cX4_count 104 = .ok (.aload_n 0, 1) := by decide +kernel
theorem dX4_count_105 : decode cX4_count 105 = .ok (.getfield 10, 3) := by decide +kernel
theorem dX4_count_108 : decode cX4_count 108 = .ok (.invokevirtual 237, 3) := by decide +kernel
theorem dX4_count_111 : decode cX4_count 111 = .ok (.ireturn, 1) := by decide +kernel
theorem dX4_count_112 : decode cX4_count 112 = .ok (.aload_n 0, 1) := by decide +kernel
theorem dX4_count_113 : decode cX4_count 113 = .ok (.iconst 0, 1) := by decide +kernel
theorem dX4_count_114 : decode cX4_count 114 = .ok (.invokevirtual 44, 3) := by decide +kernel
theorem dX4_count_117 : decode cX4_count 117 = .ok (.ireturn, 1) := by decide +kernel
theorem dX4_status_0 : decode cX4_status 0 = .ok (.iload_n 1, 1) := by decide +kernel
theorem dX4_status_1 : decode cX4_status 1 = .ok (.iconst (-1), 1) := by decide +kernel
theorem dX4_status_2 : decode cX4_status 2 = .ok (.if_icmp .ne 30, 3) := by decide +kernel
theorem dX4_status_5 : decode cX4_status 5 = .ok (.iconst 0, 1) := by decide +kernel
theorem dX4_status_6 : decode cX4_status 6 = .ok (.istore_n 2, 1) := by decide +kernel
theorem dX4_status_7 : decode cX4_status 7 = .ok (.iconst 0, 1) := by decide +kernel
theorem dX4_status_8 : decode cX4_status 8 = .ok (.istore_n 3, 1) := by decide +kernel
theorem dX4_status_9 : decode cX4_status 9 = .ok (.iload_n 3, 1) := by decide +kernel
theorem dX4_status_10 : decode cX4_status 10 = .ok (.bipush 7, 2) := by decide +kernel
theorem dX4_status_12 : decode cX4_status 12 = .ok (.if_icmp .ge 18, 3) := by decide +kernel
theorem dX4_status_15 : decode cX4_status 15 = .ok (.iload_n 2, 1) := by decide +kernel
theorem dX4_status_16 : decode cX4_status 16 = .ok (.aload_n 0, 1) := by decide +kernel
theorem dX4_status_17 : decode cX4_status 17 = .ok (.getfield 36, 3) := by decide +kernel
theorem dX4_status_20 : decode cX4_status 20 = .ok (.iload_n 3, 1) := by decide +kernel
theorem dX4_status_21 : decode cX4_status 21 = .ok (.iaload, 1) := by decide +kernel
theorem dX4_status_22 : decode cX4_status 22 = .ok (.iadd, 1) := by decide +kernel
theorem dX4_status_23 : decode cX4_status 23 = .ok (.istore_n 2, 1) := by decide +kernel
theorem dX4_status_24 : decode cX4_status 24 = .ok (.iinc 3 1, 3) := by decide +kernel
theorem dX4_status_27 : decode cX4_status 27 = .ok (.goto (-18), 3) := by decide +kernel
theorem dX4_status_30 : decode cX4_status 30 = .ok (.iload_n 2, 1) := by decide +kernel
theorem dX4_status_31 : decode cX4_status 31 = .ok (.ireturn, 1) := by decide +kernel
theorem dX4_status_32 : decode cX4_status 32 = .ok (.iload_n 1, 1) := by decide +kernel
theorem dX4_status_33 : decode cX4_status 33 = .ok (.bipush 7, 2) := by decide +kernel
theorem dX4_status_35 : decode cX4_status 35 = .ok (.invokestatic 40, 3) := by decide +kernel
theorem dX4_status_38 : decode cX4_status 38 = .ok (.ifCond .ne 9, 3) := by decide +kernel
theorem dX4_status_41 : decode cX4_status 41 = .ok (.aload_n 0, 1) := by decide +kernel
theorem dX4_status_42 : decode cX4_status 42 = .ok (.iconst 0, 1) := by decide +kernel
theorem dX4_status_43 : decode cX4_status 43 = .ok (.invokevirtual 44, 3) := by decide +kernel
theorem dX4_status_46 : decode cX4_status 46 = .ok (.ireturn, 1) := by decide +kernel
theorem dX4_status_47 : decode cX4_status 47 = .ok (.aload_n 0, 1) := by decide +kernel
theorem dX4_status_48 : decode cX4_status 48 = .ok (.getfield 36, 3) := by decide +kernel
theorem dX4_status_51 : decode cX4_status 51 = .ok (.iload_n 1, 1) := by decide +kernel
theorem dX4_status_52 : decode cX4_status 52 = .ok (.iaload, 1) := by decide +kernel
theorem dX4_status_53 : decode cX4_status 53 = .ok (.ireturn, 1) := by decide +kernel
theorem dX4_finding_0 : decode cX4_finding 0 = .ok (.iload_n 1, 1) := by decide +kernel
theorem dX4_finding_1 : decode cX4_finding 1 = .ok (.bipush 7, 2) := by decide +kernel
theorem dX4_finding_3 : decode cX4_finding 3 = .ok (.invokestatic 40, 3) := by decide +kernel
theorem dX4_finding_6 : decode cX4_finding 6 = .ok (.ifCond .eq 13, 3) := by decide +kernel
theorem dX4_finding_9 : decode cX4_finding 9 = .ok (.aload_n 0, 1) := by decide +kernel
theorem dX4_finding_10 : decode cX4_finding 10 = .ok (.getfield 36, 3) := by decide +kernel
theorem dX4_finding_13 : decode cX4_finding 13 = .ok (.iload_n 1, 1) := by decide +kernel
theorem dX4_finding_14 : decode cX4_finding 14 = .ok (.dup2, 1) := by decide +kernel
theorem dX4_finding_15 : decode cX4_finding 15 = .ok (.iaload, 1) := by decide +kernel
theorem dX4_finding_16 : decode cX4_finding 16 = .ok (.iconst 1, 1) := by decide +kernel
theorem dX4_finding_17 : decode cX4_finding 17 = .ok (.iadd, 1) := by decide +kernel
theorem dX4_finding_18 : decode cX4_finding 18 = .ok (.iastore, 1) := by decide +kernel
theorem dX4_finding_19 : decode cX4_finding 19 = .ok (.ldc 240, 2) := by decide +kernel
theorem dX4_finding_21 : decode cX4_finding 21 = .ok (.iload_n 1, 1) := by decide +kernel
theorem dX4_finding_22 : decode cX4_finding 22 = .ok (.isub, 1) := by decide +kernel
theorem dX4_finding_23 : decode cX4_finding 23 = .ok (.ireturn, 1) := by decide +kernel
theorem dX4_isIn_0 : decode cX4_isIn 0 = .ok (.iload_n 0, 1) := by decide +kernel
theorem dX4_isIn_1 : decode cX4_isIn 1 = .ok (.ifCond .lt 12, 3) := by decide +kernel
theorem dX4_isIn_4 : decode cX4_isIn 4 = .ok (.iload_n 0, 1) := by decide +kernel
theorem dX4_isIn_5 : decode cX4_isIn 5 = .ok (.iload_n 1, 1) := by decide +kernel
theorem dX4_isIn_6 : decode cX4_isIn 6 = .ok (.if_icmp .ge 7, 3) := by decide +kernel
theorem dX4_isIn_9 : decode cX4_isIn 9 = .ok (.iconst 1, 1) := by decide +kernel
theorem dX4_isIn_10 : decode cX4_isIn 10 = .ok (.goto 4, 3) := by decide +kernel
theorem dX4_isIn_13 : decode cX4_isIn 13 = .ok (.iconst 0, 1) := by decide +kernel
theorem dX4_isIn_14 : decode cX4_isIn 14 = .ok (.ireturn, 1) := by decide +kernel
theorem dX4_bit_0 : decode cX4_bit 0 = .ok (.iload_n 0, 1) := by decide +kernel
theorem dX4_bit_1 : decode cX4_bit 1 = .ok (.ifCond .eq 7, 3) := by decide +kernel
theorem dX4_bit_4 : decode cX4_bit 4 = .ok (.iconst 1, 1) := by decide +kernel
theorem dX4_bit_5 : decode cX4_bit 5 = .ok (.goto 4, 3) := by decide +kernel
theorem dX4_bit_8 : decode cX4_bit 8 = .ok (.iconst 0, 1) := by decide +kernel
theorem dX4_bit_9 : decode cX4_bit 9 = .ok (.ireturn, 1) := by decide +kernel
theorem dX5_init_0 : decode cX5_init 0 = .ok (.aload_n 0, 1) := by decide +kernel
theorem dX5_init_1 : decode cX5_init 1 = .ok (.invokespecial 1, 3) := by decide +kernel
theorem dX5_init_4 : decode cX5_init 4 = .ok (.aload_n 0, 1) := by decide +kernel
theorem dX5_init_5 : decode cX5_init 5 = .ok (.bipush 70, 2) := by decide +kernel
theorem dX5_init_7 : decode cX5_init 7 = .ok (.newarray .int, 2) := by decide +kernel
theorem dX5_init_9 : decode cX5_init 9 = .ok (.putfield 9, 3) := by decide +kernel
theorem dX5_init_12 : decode cX5_init 12 = .ok (.aload_n 0, 1) := by decide +kernel
theorem dX5_init_13 : decode cX5_init 13 = .ok (.bipush 70, 2) := by decide +kernel
theorem dX5_init_15 : decode cX5_init 15 = .ok (.newarray .int, 2) := by decide +kernel
theorem dX5_init_17 : decode cX5_init 17 = .ok (.putfield 13, 3) := by decide +kernel
theorem dX5_init_20 : decode cX5_init 20 = .ok (.aload_n 0, 1) := by decide +kernel
theorem dX5_init_21 : decode cX5_init 21 = .ok (.bipush 70, 2) := by decide +kernel
theorem dX5_init_23 : decode cX5_init 23 = .ok (.newarray .int, 2) := by decide +kernel
theorem dX5_init_25 : decode cX5_init 25 = .ok (.putfield 16, 3) := by decide +kernel
theorem dX5_init_28 : decode cX5_init 28 = .ok (.aload_n 0, 1) := by decide +kernel
theorem dX5_init_29 : decode cX5_init 29 = .ok (.bipush 7, 2) := by decide +kernel
theorem dX5_init_31 : decode cX5_init 31 = .ok (.newarray .int, 2) := by decide +kernel
theorem dX5_init_33 : decode cX5_init 33 = .ok (.putfield 19, 3) := by decide +kernel
theorem dX5_init_36 : decode cX5_init 36 = .ok (.aload_n 0, 1) := by decide +kernel
theorem dX5_init_37 : decode cX5_init 37 = .ok (.bipush 120, 2) := by decide +kernel
theorem dX5_init_39 : decode cX5_init 39 = .ok (.newarray .int, 2) := by decide +kernel
theorem dX5_init_41 : decode cX5_init 41 = .ok (.putfield 22, 3) := by decide +kernel
theorem dX5_init_44 : decode cX5_init 44 = .ok (.aload_n 0, 1) := by decide +kernel
theorem dX5_init_45 : decode cX5_init 45 = .ok (.bipush 63, 2) := by decide +kernel
theorem dX5_init_47 : decode cX5_init 47 = .ok (.newarray .char, 2) := by decide +kernel
theorem dX5_init_49 : decode cX5_init 49 = .ok (.dup, 1) := by decide +kernel
theorem dX5_init_50 : decode cX5_init 50 = .ok (.iconst 0, 1) := by decide +kernel
theorem dX5_init_51 : decode cX5_init 51 = .ok (.bipush 112, 2) := by decide +kernel
theorem dX5_init_53 : decode cX5_init 53 = .ok (.castore, 1) := by decide +kernel
theorem dX5_init_54 : decode cX5_init 54 = .ok (.dup, 1) := by decide +kernel
theorem dX5_init_55 : decode cX5_init 55 = .ok (.iconst 1, 1) := by decide +kernel
theorem dX5_init_56 : decode cX5_init 56 = .ok (.bipush 101, 2) := by decide +kernel
theorem dX5_init_58 : decode cX5_init 58 = .ok (.castore, 1) := by decide +kernel
theorem dX5_init_59 : decode cX5_init 59 = .ok (.dup, 1) := by decide +kernel
theorem dX5_init_60 : decode cX5_init 60 = .ok (.iconst 2, 1) := by decide +kernel
theorem dX5_init_61 : decode cX5_init 61 = .ok (.bipush 114, 2) := by decide +kernel
theorem dX5_init_63 : decode cX5_init 63 = .ok (.castore, 1) := by decide +kernel
theorem dX5_init_64 : decode cX5_init 64 = .ok (.dup, 1) := by decide +kernel
theorem dX5_init_65 : decode cX5_init 65 = .ok (.iconst 3, 1) := by decide +kernel
theorem dX5_init_66 : decode cX5_init 66 = .ok (.bipush 115, 2) := by decide +kernel
theorem dX5_init_68 : decode cX5_init 68 = .ok (.castore, 1) := by decide +kernel
theorem dX5_init_69 : decode cX5_init 69 = .ok (.dup, 1) := by decide +kernel
theorem dX5_init_70 : decode cX5_init 70 = .ok (.iconst 4, 1) := by decide +kernel
theorem dX5_init_71 : decode cX5_init 71 = .ok (.bipush 111, 2) := by decide +kernel
theorem dX5_init_73 : decode cX5_init 73 = .ok (.castore, 1) := by decide +kernel
theorem dX5_init_74 : decode cX5_init 74 = .ok (.dup, 1) := by decide +kernel
theorem dX5_init_75 : decode cX5_init 75 = .ok (.iconst 5, 1) := by decide +kernel
theorem dX5_init_76 : decode cX5_init 76 = .ok (.bipush 110, 2) := by decide +kernel
theorem dX5_init_78 : decode cX5_init 78 = .ok (.castore, 1) := by decide +kernel
theorem dX5_init_79 : decode cX5_init 79 = .ok (.dup, 1) := by decide +kernel
theorem dX5_init_80 : decode cX5_init 80 = .ok (.bipush 6, 2) := by decide +kernel
theorem dX5_init_82 : decode cX5_init 82 = .ok (.bipush 32, 2) := by decide +kernel
theorem dX5_init_84 : decode cX5_init 84 = .ok (.castore, 1) := by decide +kernel
theorem dX5_init_85 : decode cX5_init 85 = .ok (.dup, 1) := by decide +kernel
theorem dX5_init_86 : decode cX5_init 86 = .ok (.bipush 7, 2) := by decide +kernel
theorem dX5_init_88 : decode cX5_init 88 = .ok (.bipush 32, 2) := by decide +kernel
theorem dX5_init_90 : decode cX5_init 90 = .ok (.castore, 1) := by decide +kernel
theorem dX5_init_91 : decode cX5_init 91 = .ok (.dup, 1) := by decide +kernel
theorem dX5_init_92 : decode cX5_init 92 = .ok (.bipush 8, 2) := by decide +kernel
theorem dX5_init_94 : decode cX5_init 94 = .ok (.bipush 32, 2) := by decide +kernel
theorem dX5_init_96 : decode cX5_init 96 = .ok (.castore, 1) := by decide +kernel
theorem dX5_init_97 : decode cX5_init 97 = .ok (.dup, 1) := by decide +kernel
theorem dX5_init_98 : decode cX5_init 98 = .ok (.bipush 9, 2) := by decide +kernel
theorem dX5_init_100 : decode cX5_init 100 = .ok (.bipush 110, 2) := by decide +kernel
theorem dX5_init_102 : decode cX5_init 102 = .ok (.castore, 1) := by decide +kernel
theorem dX5_init_103 : decode cX5_init 103 = .ok (.dup, 1) := by decide +kernel
theorem dX5_init_104 : decode cX5_init 104 = .ok (.bipush 10, 2) := by decide +kernel
theorem dX5_init_106 : decode cX5_init 106 = .ok (.bipush 111, 2) := by decide +kernel
theorem dX5_init_108 : decode cX5_init 108 = .ok (.castore, 1) := by decide +kernel
theorem dX5_init_109 : decode cX5_init 109 = .ok (.dup, 1) := by decide +kernel
theorem dX5_init_110 : decode cX5_init 110 = .ok (.bipush 11, 2) := by decide +kernel
theorem dX5_init_112 : decode cX5_init 112 = .ok (.bipush 105, 2) := by decide +kernel
theorem dX5_init_114 : decode cX5_init 114 = .ok (.castore, 1) := by decide +kernel
theorem dX5_init_115 : decode cX5_init 115 = .ok (.dup, 1) := by decide +kernel
theorem dX5_init_116 : decode cX5_init 116 = .ok (.bipush 12, 2) := by decide +kernel
theorem dX5_init_118 : decode cX5_init 118 = .ok (.bipush 115, 2) := by decide +kernel
theorem dX5_init_120 : decode cX5_init 120 = .ok (.castore, 1) := by decide +kernel
theorem dX5_init_121 : decode cX5_init 121 = .ok (.dup, 1) := by decide +kernel
theorem dX5_init_122 : decode cX5_init 122 = .ok (.bipush 13, 2) := by decide +kernel
theorem dX5_init_124 : decode cX5_init 124 = .ok (.bipush 101, 2) := by decide +kernel
theorem dX5_init_126 : decode cX5_init 126 = .ok (.castore, 1) := by decide +kernel
theorem dX5_init_127 : decode cX5_init 127 = .ok (.dup, 1) := by decide +kernel
theorem dX5_init_128 : decode cX5_init 128 = .ok (.bipush 14, 2) := by decide +kernel
theorem dX5_init_130 : decode cX5_init 130 = .ok (.bipush 32, 2) := by decide +kernel
theorem dX5_init_132 : decode cX5_init 132 = .ok (.castore, 1) := by decide +kernel
theorem dX5_init_133 : decode cX5_init 133 = .ok (.dup, 1) := by decide +kernel
theorem dX5_init_134 : decode cX5_init 134 = .ok (.bipush 15, 2) := by decide +kernel
theorem dX5_init_136 : decode cX5_init 136 = .ok (.bipush 32, 2) := by decide +kernel
theorem dX5_init_138 : decode cX5_init 138 = .ok (.castore, 1) := by decide +kernel
theorem dX5_init_139 : decode cX5_init 139 = .ok (.dup, 1) := by decide +kernel
theorem dX5_init_140 : decode cX5_init 140 = .ok (.bipush 16, 2) := by decide +kernel
theorem dX5_init_142 : decode cX5_init 142 = .ok (.bipush 32, 2) := by decide +kernel
theorem dX5_init_144 : decode cX5_init 144 = .ok (.castore, 1) := by decide +kernel
theorem dX5_init_145 : decode cX5_init 145 = .ok (.dup, 1) := by decide +kernel
theorem dX5_init_146 : decode cX5_init 146 = .ok (.bipush 17, 2) := by decide +kernel
theorem dX5_init_148 : decode cX5_init 148 = .ok (.bipush 32, 2) := by decide +kernel
theorem dX5_init_150 : decode cX5_init 150 = .ok (.castore, 1) := by decide +kernel
theorem dX5_init_151 : decode cX5_init 151 = .ok (.dup, 1) := by decide +kernel
theorem dX5_init_152 : decode cX5_init 152 = .ok (.bipush 18, 2) := by decide +kernel
theorem dX5_init_154 : decode cX5_init 154 = .ok (.bipush 97, 2) := by decide +kernel
theorem dX5_init_156 : decode cX5_init 156 = .ok (.castore, 1) := by decide +kernel
theorem dX5_init_157 : decode cX5_init 157 = .ok (.dup, 1) := by decide +kernel
theorem dX5_init_158 : decode cX5_init 158 = .ok (.bipush 19, 2) := by decide +kernel
theorem dX5_init_160 : decode cX5_init 160 = .ok (.bipush 117, 2) := by decide +kernel
theorem dX5_init_162 : decode cX5_init 162 = .ok (.castore, 1) := by decide +kernel
theorem dX5_init_163 : decode cX5_init 163 = .ok (.dup, 1) := by decide +kernel
theorem dX5_init_164 : decode cX5_init 164 = .ok (.bipush 20, 2) := by decide +kernel
theorem dX5_init_166 : decode cX5_init 166 = .ok (.bipush 110, 2) := by decide +kernel
theorem dX5_init_168 : decode cX5_init 168 = .ok (.castore, 1) := by decide +kernel
theorem dX5_init_169 : decode cX5_init 169 = .ok (.dup, 1) := by decide +kernel
theorem dX5_init_170 : decode cX5_init 170 = .ok (.bipush 21, 2) := by decide +kernel
theorem dX5_init_172 : decode cX5_init 172 = .ok (.bipush 116, 2) := by decide +kernel
theorem dX5_init_174 : decode cX5_init 174 = .ok (.castore, 1) := by decide +kernel
theorem dX5_init_175 : decode cX5_init 175 = .ok (.dup, 1) := by decide +kernel
theorem dX5_init_176 : decode cX5_init 176 = .ok (.bipush 22, 2) := by decide +kernel
theorem dX5_init_178 : decode cX5_init 178 = .ok (.bipush 32, 2) := by decide +kernel
theorem dX5_init_180 : decode cX5_init 180 = .ok (.castore, 1) := by decide +kernel
theorem dX5_init_181 : decode cX5_init 181 = .ok (.dup, 1) := by decide +kernel
theorem dX5_init_182 : decode cX5_init 182 = .ok (.bipush 23, 2) := by decide +kernel
theorem dX5_init_184 : decode cX5_init 184 = .ok (.bipush 32, 2) := by decide +kernel
theorem dX5_init_186 : decode cX5_init 186 = .ok (.castore, 1) := by decide +kernel
theorem dX5_init_187 : decode cX5_init 187 = .ok (.dup, 1) := by decide +kernel
theorem dX5_init_188 : decode cX5_init 188 = .ok (.bipush 24, 2) := by decide +kernel
theorem dX5_init_190 : decode cX5_init 190 = .ok (.bipush 32, 2) := by decide +kernel
theorem dX5_init_192 : decode cX5_init 192 = .ok (.castore, 1) := by decide +kernel
theorem dX5_init_193 : decode cX5_init 193 = .ok (.dup, 1) := by decide +kernel
theorem dX5_init_194 : decode cX5_init 194 = .ok (.bipush 25, 2) := by decide +kernel
theorem dX5_init_196 : decode cX5_init 196 = .ok (.bipush 32, 2) := by decide +kernel
theorem dX5_init_198 : decode cX5_init 198 = .ok (.castore, 1) := by decide +kernel
theorem dX5_init_199 : decode cX5_init 199 = .ok (.dup, 1) := by decide +kernel
theorem dX5_init_200 : decode cX5_init 200 = .ok (.bipush 26, 2) := by decide +kernel
theorem dX5_init_202 : decode cX5_init 202 = .ok (.bipush 32, 2) := by decide +kernel
theorem dX5_init_204 : decode cX5_init 204 = .ok (.castore, 1) := by decide +kernel
theorem dX5_init_205 : decode cX5_init 205 = .ok (.dup, 1) := by decide +kernel
theorem dX5_init_206 : decode cX5_init 206 = .ok (.bipush 27, 2) := by decide +kernel
theorem dX5_init_208 : decode cX5_init 208 = .ok (.bipush 108, 2) := by decide +kernel
theorem dX5_init_210 : decode cX5_init 210 = .ok (.castore, 1) := by decide +kernel
theorem dX5_init_211 : decode cX5_init 211 = .ok (.dup, 1) := by decide +kernel
theorem dX5_init_212 : decode cX5_init 212 = .ok (.bipush 28, 2) := by decide +kernel
theorem dX5_init_214 : decode cX5_init 214 = .ok (.bipush 97, 2) := by decide +kernel
theorem dX5_init_216 : decode cX5_init 216 = .ok (.castore, 1) := by decide +kernel
theorem dX5_init_217 : decode cX5_init 217 = .ok (.dup, 1) := by decide +kernel
theorem dX5_init_218 : decode cX5_init 218 = .ok (.bipush 29, 2) := by decide +kernel
theorem dX5_init_220 : decode cX5_init 220 = .ok (.bipush 100, 2) := by decide +kernel
theorem dX5_init_222 : decode cX5_init 222 = .ok (.castore, 1) := by decide +kernel
theorem dX5_init_223 : decode cX5_init 223 = .ok (.dup, 1) := by decide +kernel
theorem dX5_init_224 : decode cX5_init 224 = .ok (.bipush 30, 2) := by decide +kernel
theorem dX5_init_226 : decode cX5_init 226 = .ok (.bipush 121, 2) := by decide +kernel
theorem dX5_init_228 : decode cX5_init 228 = .ok (.castore, 1) := by decide +kernel
theorem dX5_init_229 : decode cX5_init 229 = .ok (.dup, 1) := by decide +kernel
theorem dX5_init_230 : decode cX5_init 230 = .ok (.bipush 31, 2) := by decide +kernel
theorem dX5_init_232 : decode cX5_init 232 = .ok (.bipush 32, 2) := by decide +kernel
theorem dX5_init_234 : decode cX5_init 234 = .ok (.castore, 1) := by decide +kernel
theorem dX5_init_235 : decode cX5_init 235 = .ok (.dup, 1) := by decide +kernel
theorem dX5_init_236 : decode cX5_init 236 = .ok (.bipush 32, 2) := by decide +kernel
theorem dX5_init_238 : decode cX5_init 238 = .ok (.bipush 32, 2) := by decide +kernel
theorem dX5_init_240 : decode cX5_init 240 = .ok (.castore, 1) := by decide +kernel
theorem dX5_init_241 : decode cX5_init 241 = .ok (.dup, 1) := by decide +kernel
theorem dX5_init_242 : decode cX5_init 242 = .ok (.bipush 33, 2) := by decide +kernel
theorem dX5_init_244 : decode cX5_init 244 = .ok (.bipush 32, 2) := by decide +kernel
theorem dX5_init_246 : decode cX5_init 246 = .ok (.castore, 1) := by decide +kernel
theorem dX5_init_247 : decode cX5_init 247 = .ok (.dup, 1) := by decide +kernel
theorem dX5_init_248 : decode cX5_init 248 = .ok (.bipush 34, 2) := by decide +kernel
theorem dX5_init_250 : decode cX5_init 250 = .ok (.bipush 32, 2) := by decide +kernel
theorem dX5_init_252 : decode cX5_init 252 = .ok (.castore, 1) := by decide +kernel
theorem dX5_init_253 : decode cX5_init 253 = .ok (.dup, 1) := by decide +kernel
theorem dX5_init_254 : decode cX5_init 254 = .ok (.bipush 35, 2) := by decide +kernel
theorem dX5_init_256 : decode cX5_init 256 = .ok (.bipush 32, 2) := by decide +kernel
theorem dX5_init_258 : decode cX5_init 258 = .ok (.castore, 1) := by decide +kernel
theorem dX5_init_259 : decode cX5_init 259 = .ok (.dup, 1) := by decide +kernel
theorem dX5_init_260 : decode cX5_init 260 = .ok (.bipush 36, 2) := by decide +kernel
theorem dX5_init_262 : decode cX5_init 262 = .ok (.bipush 99, 2) := by decide +kernel
theorem dX5_init_264 : decode cX5_init 264 = .ok (.castore, 1) := by decide +kernel
theorem dX5_init_265 : decode cX5_init 265 = .ok (.dup, 1) := by decide +kernel
theorem dX5_init_266 : decode cX5_init 266 = .ok (.bipush 37, 2) := by decide +kernel
theorem dX5_init_268 : decode cX5_init 268 = .ok (.bipush 111, 2) := by decide +kernel
theorem dX5_init_270 : decode cX5_init 270 = .ok (.castore, 1) := by decide +kernel
theorem dX5_init_271 : decode cX5_init 271 = .ok (.dup, 1) := by decide +kernel
theorem dX5_init_272 : decode cX5_init 272 = .ok (.bipush 38, 2) := by decide +kernel
theorem dX5_init_274 : decode cX5_init 274 = .ok (.bipush 108, 2) := by decide +kernel
theorem dX5_init_276 : decode cX5_init 276 = .ok (.castore, 1) := by decide +kernel
theorem dX5_init_277 : decode cX5_init 277 = .ok (.dup, 1) := by decide +kernel
theorem dX5_init_278 : decode cX5_init 278 = .ok (.bipush 39, 2) := by decide +kernel
theorem dX5_init_280 : decode cX5_init 280 = .ok (.bipush 117, 2) := by decide +kernel
theorem dX5_init_282 : decode cX5_init 282 = .ok (.castore, 1) := by decide +kernel
theorem dX5_init_283 : decode cX5_init 283 = .ok (.dup, 1) := by decide +kernel
theorem dX5_init_284 : decode cX5_init 284 = .ok (.bipush 40, 2) := by decide +kernel
theorem dX5_init_286 : decode cX5_init 286 = .ok (.bipush 109, 2) := by decide +kernel
theorem dX5_init_288 : decode cX5_init 288 = .ok (.castore, 1) := by decide +kernel
theorem dX5_init_289 : decode cX5_init 289 = .ok (.dup, 1) := by decide +kernel
theorem dX5_init_290 : decode cX5_init 290 = .ok (.bipush 41, 2) := by decide +kernel
theorem dX5_init_292 : decode cX5_init 292 = .ok (.bipush 98, 2) := by decide +kernel
theorem dX5_init_294 : decode cX5_init 294 = .ok (.castore, 1) := by decide +kernel
theorem dX5_init_295 : decode cX5_init 295 = .ok (.dup, 1) := by decide +kernel
theorem dX5_init_296 : decode cX5_init 296 = .ok (.bipush 42, 2) := by decide +kernel
theorem dX5_init_298 : decode cX5_init 298 = .ok (.bipush 105, 2) := by decide +kernel
theorem dX5_init_300 : decode cX5_init 300 = .ok (.castore, 1) := by decide +kernel
theorem dX5_init_301 : decode cX5_init 301 = .ok (.dup, 1) := by decide +kernel
theorem dX5_init_302 : decode cX5_init 302 = .ok (.bipush 43, 2) := by decide +kernel
theorem dX5_init_304 : decode cX5_init 304 = .ok (.bipush 110, 2) := by decide +kernel
theorem dX5_init_306 : decode cX5_init 306 = .ok (.castore, 1) := by decide +kernel
theorem dX5_init_307 : decode cX5_init 307 = .ok (.dup, 1) := by decide +kernel
theorem dX5_init_308 : decode cX5_init 308 = .ok (.bipush 44, 2) := by decide +kernel
theorem dX5_init_310 : decode cX5_init 310 = .ok (.bipush 101, 2) := by decide +kernel
theorem dX5_init_312 : decode cX5_init 312 = .ok (.castore, 1) := by decide +kernel
theorem dX5_init_313 : decode cX5_init 313 = .ok (.dup, 1) := by decide +kernel
theorem dX5_init_314 : decode cX5_init 314 = .ok (.bipush 45, 2) := by decide +kernel
theorem dX5_init_316 : decode cX5_init 316 = .ok (.bipush 104, 2) := by decide +kernel
theorem dX5_init_318 : decode cX5_init 318 = .ok (.castore, 1) := by decide +kernel
theorem dX5_init_319 : decode cX5_init 319 = .ok (.dup, 1) := by decide +kernel
theorem dX5_init_320 : decode cX5_init 320 = .ok (.bipush 46, 2) := by decide +kernel
theorem dX5_init_322 : decode cX5_init 322 = .ok (.bipush 97, 2) := by decide +kernel
theorem dX5_init_324 : decode cX5_init 324 = .ok (.castore, 1) := by decide +kernel
theorem dX5_init_325 : decode cX5_init 325 = .ok (.dup, 1) := by decide +kernel
theorem dX5_init_326 : decode cX5_init 326 = .ok (.bipush 47, 2) := by decide +kernel
theorem dX5_init_328 : decode cX5_init 328 = .ok (.bipush 114, 2) := by decide +kernel
theorem dX5_init_330 : decode cX5_init 330 = .ok (.castore, 1) := by decide +kernel
theorem dX5_init_331 : decode cX5_init 331 = .ok (.dup, 1) := by decide +kernel
theorem dX5_init_332 : decode cX5_init 332 = .ok (.bipush 48, 2) := by decide +kernel
theorem dX5_init_334 : decode cX5_init 334 = .ok (.bipush 112, 2) := by decide +kernel
theorem dX5_init_336 : decode cX5_init 336 = .ok (.castore, 1) := by decide +kernel
theorem dX5_init_337 : decode cX5_init 337 = .ok (.dup, 1) := by decide +kernel
theorem dX5_init_338 : decode cX5_init 338 = .ok (.bipush 49, 2) := by decide +kernel
theorem dX5_init_340 : decode cX5_init 340 = .ok (.bipush 32, 2) := by decide +kernel
theorem dX5_init_342 : decode cX5_init 342 = .ok (.castore, 1) := by decide +kernel
theorem dX5_init_343 : decode cX5_init 343 = .ok (.dup, 1) := by decide +kernel
theorem dX5_init_344 : decode cX5_init 344 = .ok (.bipush 50, 2) := by decide +kernel
theorem dX5_init_346 : decode cX5_init 346 = .ok (.bipush 32, 2) := by decide +kernel
theorem dX5_init_348 : decode cX5_init 348 = .ok (.castore, 1) := by decide +kernel
theorem dX5_init_349 : decode cX5_init 349 = .ok (.dup, 1) := by decide +kernel
theorem dX5_init_350 : decode cX5_init 350 = .ok (.bipush 51, 2) := by decide +kernel
theorem dX5_init_352 : decode cX5_init 352 = .ok (.bipush 32, 2) := by decide +kernel
theorem dX5_init_354 : decode cX5_init 354 = .ok (.castore, 1) := by decide +kernel
theorem dX5_init_355 : decode cX5_init 355 = .ok (.dup, 1) := by decide +kernel
theorem dX5_init_356 : decode cX5_init 356 = .ok (.bipush 52, 2) := by decide +kernel
theorem dX5_init_358 : decode cX5_init 358 = .ok (.bipush 32, 2) := by decide +kernel
theorem dX5_init_360 : decode cX5_init 360 = .ok (.castore, 1) := by decide +kernel
theorem dX5_init_361 : decode cX5_init 361 = .ok (.dup, 1) := by decide +kernel
theorem dX5_init_362 : decode cX5_init 362 = .ok (.bipush 53, 2) := by decide +kernel
theorem dX5_init_364 : decode cX5_init 364 = .ok (.bipush 32, 2) := by decide +kernel
theorem dX5_init_366 : decode cX5_init 366 = .ok (.castore, 1) := by decide +kernel
theorem dX5_init_367 : decode cX5_init 367 = .ok (.dup, 1) := by decide +kernel
theorem dX5_init_368 : decode cX5_init 368 = .ok (.bipush 54, 2) := by decide +kernel
theorem dX5_init_370 : decode cX5_init 370 = .ok (.bipush 119, 2) := by decide +kernel
theorem dX5_init_372 : decode cX5_init 372 = .ok (.castore, 1) := by decide +kernel
theorem dX5_init_373 : decode cX5_init 373 = .ok (.dup, 1) := by decide +kernel
theorem dX5_init_374 : decode cX5_init 374 = .ok (.bipush 55, 2) := by decide +kernel
theorem dX5_init_376 : decode cX5_init 376 = .ok (.bipush 101, 2) := by decide +kernel
theorem dX5_init_378 : decode cX5_init 378 = .ok (.castore, 1) := by decide +kernel
theorem dX5_init_379 : decode cX5_init 379 = .ok (.dup, 1) := by decide +kernel
theorem dX5_init_380 : decode cX5_init 380 = .ok (.bipush 56, 2) := by decide +kernel
theorem dX5_init_382 : decode cX5_init 382 = .ok (.bipush 116, 2) := by decide +kernel
theorem dX5_init_384 : decode cX5_init 384 = .ok (.castore, 1) := by decide +kernel
theorem dX5_init_385 : decode cX5_init 385 = .ok (.dup, 1) := by decide +kernel
theorem dX5_init_386 : decode cX5_init 386 = .ok (.bipush 57, 2) := by decide +kernel
theorem dX5_init_388 : decode cX5_init 388 = .ok (.bipush 32, 2) := by decide +kernel
theorem dX5_init_390 : decode cX5_init 390 = .ok (.castore, 1) := by decide +kernel
theorem dX5_init_391 : decode cX5_init 391 = .ok (.dup, 1) := by decide +kernel
theorem dX5_init_392 : decode cX5_init 392 = .ok (.bipush 58, 2) := by decide +kernel
theorem dX5_init_394 : decode cX5_init 394 = .ok (.bipush 32, 2) := by decide +kernel
theorem dX5_init_396 : decode cX5_init 396 = .ok (.castore, 1) := by decide +kernel
theorem dX5_init_397 : decode cX5_init 397 = .ok (.dup, 1) := by decide +kernel
theorem dX5_init_398 : decode cX5_init 398 = .ok (.bipush 59, 2) := by decide +kernel
theorem dX5_init_400 : decode cX5_init 400 = .ok (.bipush 32, 2) := by decide +kernel
theorem dX5_init_402 : decode cX5_init 402 = .ok (.castore, 1) := by decide +kernel
theorem dX5_init_403 : decode cX5_init 403 = .ok (.dup, 1) := by decide +kernel
theorem dX5_init_404 : decode cX5_init 404 = .ok (.bipush 60, 2) := by decide +kernel
theorem dX5_init_406 : decode cX5_init 406 = .ok (.bipush 32, 2) := by decide +kernel
theorem dX5_init_408 : decode cX5_init 408 = .ok (.castore, 1) := by decide +kernel
theorem dX5_init_409 : decode cX5_init 409 = .ok (.dup, 1) := by decide +kernel
theorem dX5_init_410 : decode cX5_init 410 = .ok (.bipush 61, 2) := by decide +kernel
theorem dX5_init_412 : decode cX5_init 412 = .ok (.bipush 32, 2) := by decide +kernel
theorem dX5_init_414 : decode cX5_init 414 = .ok (.castore, 1) := by decide +kernel
theorem dX5_init_415 : decode cX5_init 415 = .ok (.dup, 1) := by decide +kernel
theorem dX5_init_416 : decode cX5_init 416 = .ok (.bipush 62, 2) := by decide +kernel
theorem dX5_init_418 : decode cX5_init 418 = .ok (.bipush 32, 2) := by decide +kernel
theorem dX5_init_420 : decode cX5_init 420 = .ok (.castore, 1) := by decide +kernel
theorem dX5_init_421 : decode cX5_init 421 = .ok (.putfield 25, 3) := by decide +kernel
theorem dX5_init_424 : decode cX5_init 424 = .ok (.aload_n 0, 1) := by decide +kernel
theorem dX5_init_425 : decode cX5_init 425 = .ok (.bipush 27, 2) := by decide +kernel
theorem dX5_init_427 : decode cX5_init 427 = .ok (.newarray .char, 2) := by decide +kernel
theorem dX5_init_429 : decode cX5_init 429 = .ok (.dup, 1) := by decide +kernel
theorem dX5_init_430 : decode cX5_init 430 = .ok (.iconst 0, 1) := by decide +kernel
theorem dX5_init_431 : decode cX5_init 431 = .ok (.bipush 97, 2) := by decide +kernel
theorem dX5_init_433 : decode cX5_init 433 = .ok (.castore, 1) := by decide +kernel
theorem dX5_init_434 : decode cX5_init 434 = .ok (.dup, 1) := by decide +kernel
theorem dX5_init_435 : decode cX5_init 435 = .ok (.iconst 1, 1) := by decide +kernel
theorem dX5_init_436 : decode cX5_init 436 = .ok (.bipush 116, 2) := by decide +kernel
theorem dX5_init_438 : decode cX5_init 438 = .ok (.castore, 1) := by decide +kernel
theorem dX5_init_439 : decode cX5_init 439 = .ok (.dup, 1) := by decide +kernel
theorem dX5_init_440 : decode cX5_init 440 = .ok (.iconst 2, 1) := by decide +kernel
theorem dX5_init_441 : decode cX5_init 441 = .ok (.bipush 32, 2) := by decide +kernel
theorem dX5_init_443 : decode cX5_init 443 = .ok (.castore, 1) := by decide +kernel
theorem dX5_init_444 : decode cX5_init 444 = .ok (.dup, 1) := by decide +kernel
theorem dX5_init_445 : decode cX5_init 445 = .ok (.iconst 3, 1) := by decide +kernel
theorem dX5_init_446 : decode cX5_init 446 = .ok (.bipush 32, 2) := by decide +kernel
theorem dX5_init_448 : decode cX5_init 448 = .ok (.castore, 1) := by decide +kernel
theorem dX5_init_449 : decode cX5_init 449 = .ok (.dup, 1) := by decide +kernel
theorem dX5_init_450 : decode cX5_init 450 = .ok (.iconst 4, 1) := by decide +kernel
theorem dX5_init_451 : decode cX5_init 451 = .ok (.bipush 32, 2) := by decide +kernel
theorem dX5_init_453 : decode cX5_init 453 = .ok (.castore, 1) := by decide +kernel
theorem dX5_init_454 : decode cX5_init 454 = .ok (.dup, 1) := by decide +kernel
theorem dX5_init_455 : decode cX5_init 455 = .ok (.iconst 5, 1) := by decide +kernel
theorem dX5_init_456 : decode cX5_init 456 = .ok (.bipush 32, 2) := by decide +kernel
theorem dX5_init_458 : decode cX5_init 458 = .ok (.castore, 1) := by decide +kernel
theorem dX5_init_459 : decode cX5_init 459 = .ok (.dup, 1) := by decide +kernel
theorem dX5_init_460 : decode cX5_init 460 = .ok (.bipush 6, 2) := by decide +kernel
theorem dX5_init_462 : decode cX5_init 462 = .ok (.bipush 32, 2) := by decide +kernel
theorem dX5_init_464 : decode cX5_init 464 = .ok (.castore, 1) := by decide +kernel
theorem dX5_init_465 : decode cX5_init 465 = .ok (.dup, 1) := by decide +kernel
theorem dX5_init_466 : decode cX5_init 466 = .ok (.bipush 7, 2) := by decide +kernel
theorem dX5_init_468 : decode cX5_init 468 = .ok (.bipush 32, 2) := by decide +kernel
theorem dX5_init_470 : decode cX5_init 470 = .ok (.castore, 1) := by decide +kernel
theorem dX5_init_471 : decode cX5_init 471 = .ok (.dup, 1) := by decide +kernel
theorem dX5_init_472 : decode cX5_init 472 = .ok (.bipush 8, 2) := by decide +kernel
theorem dX5_init_474 : decode cX5_init 474 = .ok (.bipush 32, 2) := by decide +kernel
theorem dX5_init_476 : decode cX5_init 476 = .ok (.castore, 1) := by decide +kernel
theorem dX5_init_477 : decode cX5_init 477 = .ok (.dup, 1) := by decide +kernel
theorem dX5_init_478 : decode cX5_init 478 = .ok (.bipush 9, 2) := by decide +kernel
theorem dX5_init_480 : decode cX5_init 480 = .ok (.bipush 97, 2) := by decide +kernel
theorem dX5_init_482 : decode cX5_init 482 = .ok (.castore, 1) := by decide +kernel
theorem dX5_init_483 : decode cX5_init 483 = .ok (.dup, 1) := by decide +kernel
theorem dX5_init_484 : decode cX5_init 484 = .ok (.bipush 10, 2) := by decide +kernel
theorem dX5_init_486 : decode cX5_init 486 = .ok (.bipush 115, 2) := by decide +kernel
theorem dX5_init_488 : decode cX5_init 488 = .ok (.castore, 1) := by decide +kernel
theorem dX5_init_489 : decode cX5_init 489 = .ok (.dup, 1) := by decide +kernel
theorem dX5_init_490 : decode cX5_init 490 = .ok (.bipush 11, 2) := by decide +kernel
theorem dX5_init_492 : decode cX5_init 492 = .ok (.bipush 32, 2) := by decide +kernel
theorem dX5_init_494 : decode cX5_init 494 = .ok (.castore, 1) := by decide +kernel
theorem dX5_init_495 : decode cX5_init 495 = .ok (.dup, 1) := by decide +kernel
theorem dX5_init_496 : decode cX5_init 496 = .ok (.bipush 12, 2) := by decide +kernel
theorem dX5_init_498 : decode cX5_init 498 = .ok (.bipush 32, 2) := by decide +kernel
theorem dX5_init_500 : decode cX5_init 500 = .ok (.castore, 1) := by decide +kernel
theorem dX5_init_501 : decode cX5_init 501 = .ok (.dup, 1) := by decide +kernel
theorem dX5_init_502 : decode cX5_init 502 = .ok (.bipush 13, 2) := by decide +kernel
theorem dX5_init_504 : decode cX5_init 504 = .ok (.bipush 32, 2) := by decide +kernel
theorem dX5_init_506 : decode cX5_init 506 = .ok (.castore, 1) := by decide +kernel
theorem dX5_init_507 : decode cX5_init 507 = .ok (.dup, 1) := by decide +kernel
theorem dX5_init_508 : decode cX5_init 508 = .ok (.bipush 14, 2) := by decide +kernel
theorem dX5_init_510 : decode cX5_init 510 = .ok (.bipush 32, 2) := by decide +kernel
theorem dX5_init_512 : decode cX5_init 512 = .ok (.castore, 1) := by decide +kernel
theorem dX5_init_513 : decode cX5_init 513 = .ok (.dup, 1) := by decide +kernel
theorem dX5_init_514 : decode cX5_init 514 = .ok (.bipush 15, 2) := by decide +kernel
theorem dX5_init_516 : decode cX5_init 516 = .ok (.bipush 32, 2) := by decide +kernel
theorem dX5_init_518 : decode cX5_init 518 = .ok (.castore, 1) := by decide +kernel
theorem dX5_init_519 : decode cX5_init 519 = .ok (.dup, 1) := by decide +kernel
theorem dX5_init_520 : decode cX5_init 520 = .ok (.bipush 16, 2) := by decide +kernel
theorem dX5_init_522 : decode cX5_init 522 = .ok (.bipush 32, 2) := by decide +kernel
theorem dX5_init_524 : decode cX5_init 524 = .ok (.castore, 1) := by decide +kernel
theorem dX5_init_525 : decode cX5_init 525 = .ok (.dup, 1) := by decide +kernel
theorem dX5_init_526 : decode cX5_init 526 = .ok (.bipush 17, 2) := by decide +kernel
theorem dX5_init_528 : decode cX5_init 528 = .ok (.bipush 32, 2) := by decide +kernel
theorem dX5_init_530 : decode cX5_init 530 = .ok (.castore, 1) := by decide +kernel
theorem dX5_init_531 : decode cX5_init 531 = .ok (.dup, 1) := by decide +kernel
theorem dX5_init_532 : decode cX5_init 532 = .ok (.bipush 18, 2) := by decide +kernel
theorem dX5_init_534 : decode cX5_init 534 = .ok (.bipush 111, 2) := by decide +kernel
theorem dX5_init_536 : decode cX5_init 536 = .ok (.castore, 1) := by decide +kernel
theorem dX5_init_537 : decode cX5_init 537 = .ok (.dup, 1) := by decide +kernel
theorem dX5_init_538 : decode cX5_init 538 = .ok (.bipush 19, 2) := by decide +kernel
theorem dX5_init_540 : decode cX5_init 540 = .ok (.bipush 117, 2) := by decide +kernel
theorem dX5_init_542 : decode cX5_init 542 = .ok (.castore, 1) := by decide +kernel
theorem dX5_init_543 : decode cX5_init 543 = .ok (.dup, 1) := by decide +kernel
theorem dX5_init_544 : decode cX5_init 544 = .ok (.bipush 20, 2) := by decide +kernel
theorem dX5_init_546 : decode cX5_init 546 = .ok (.bipush 116, 2) := by decide +kernel
theorem dX5_init_548 : decode cX5_init 548 = .ok (.castore, 1) := by decide +kernel
theorem dX5_init_549 : decode cX5_init 549 = .ok (.dup, 1) := by decide +kernel
theorem dX5_init_550 : decode cX5_init 550 = .ok (.bipush 21, 2) := by decide +kernel
theorem dX5_init_552 : decode cX5_init 552 = .ok (.bipush 32, 2) := by decide +kernel
theorem dX5_init_554 : decode cX5_init 554 = .ok (.castore, 1) := by decide +kernel
theorem dX5_init_555 : decode cX5_init 555 = .ok (.dup, 1) := by decide +kernel
theorem dX5_init_556 : decode cX5_init 556 = .ok (.bipush 22, 2) := by decide +kernel
theorem dX5_init_558 : decode cX5_init 558 = .ok (.bipush 32, 2) := by decide +kernel
theorem dX5_init_560 : decode cX5_init 560 = .ok (.castore, 1) := by decide +kernel
theorem dX5_init_561 : decode cX5_init 561 = .ok (.dup, 1) := by decide +kernel
theorem dX5_init_562 : decode cX5_init 562 = .ok (.bipush 23, 2) := by decide +kernel
theorem dX5_init_564 : decode cX5_init 564 = .ok (.bipush 32, 2) := by decide +kernel
theorem dX5_init_566 : decode cX5_init 566 = .ok (.castore, 1) := by decide +kernel
theorem dX5_init_567 : decode cX5_init 567 = .ok (.dup, 1) := by decide +kernel
theorem dX5_init_568 : decode cX5_init 568 = .ok (.bipush 24, 2) := by decide +kernel
theorem dX5_init_570 : decode cX5_init 570 = .ok (.bipush 32, 2) := by decide +kernel
theorem dX5_init_572 : decode cX5_init 572 = .ok (.castore, 1) := by decide +kernel
theorem dX5_init_573 : decode cX5_init 573 = .ok (.dup, 1) := by decide +kernel
theorem dX5_init_574 : decode cX5_init 574 = .ok (.bipush 25, 2) := by decide +kernel
theorem dX5_init_576 : decode cX5_init 576 = .ok (.bipush 32, 2) := by decide +kernel
theorem dX5_init_578 : decode cX5_init 578 = .ok (.castore, 1) := by decide +kernel
theorem dX5_init_579 : decode cX5_init 579 = .ok (.dup, 1) := by decide +kernel
theorem dX5_init_580 : decode cX5_init 580 = .ok (.bipush 26, 2) := by decide +kernel
theorem dX5_init_582 : decode cX5_init 582 = .ok (.bipush 32, 2) := by decide +kernel
theorem dX5_init_584 : decode cX5_init 584 = .ok (.castore, 1) := by decide +kernel
theorem dX5_init_585 : decode cX5_init 585 = .ok (.putfield 29, 3) := by decide +kernel
theorem dX5_init_588 : decode cX5_init 588 = .ok (.aload_n 0, 1) := by decide +kernel
theorem dX5_init_589 : decode cX5_init 589 = .ok (.bipush 18, 2) := by decide +kernel
theorem dX5_init_591 : decode cX5_init 591 = .ok (.newarray .char, 2) := by decide +kernel
theorem dX5_init_593 : decode cX5_init 593 = .ok (.dup, 1) := by decide +kernel
theorem dX5_init_594 : decode cX5_init 594 = .ok (.iconst 0, 1) := by decide +kernel
theorem dX5_init_595 : decode cX5_init 595 = .ok (.bipush 109, 2) := by decide +kernel
theorem dX5_init_597 : decode cX5_init 597 = .ok (.castore, 1) := by decide +kernel
theorem dX5_init_598 : decode cX5_init 598 = .ok (.dup, 1) := by decide +kernel
theorem dX5_init_599 : decode cX5_init 599 = .ok (.iconst 1, 1) := by decide +kernel
theorem dX5_init_600 : decode cX5_init 600 = .ok (.bipush 101, 2) := by decide +kernel
theorem dX5_init_602 : decode cX5_init 602 = .ok (.castore, 1) := by decide +kernel
theorem dX5_init_603 : decode cX5_init 603 = .ok (.dup, 1) := by decide +kernel
theorem dX5_init_604 : decode cX5_init 604 = .ok (.iconst 2, 1) := by decide +kernel
theorem dX5_init_605 : decode cX5_init 605 = .ok (.bipush 116, 2) := by decide +kernel
theorem dX5_init_607 : decode cX5_init 607 = .ok (.castore, 1) := by decide +kernel
theorem dX5_init_608 : decode cX5_init 608 = .ok (.dup, 1) := by decide +kernel
theorem dX5_init_609 : decode cX5_init 609 = .ok (.iconst 3, 1) := by decide +kernel
theorem dX5_init_610 : decode cX5_init 610 = .ok (.bipush 32, 2) := by decide +kernel
theorem dX5_init_612 : decode cX5_init 612 = .ok (.castore, 1) := by decide +kernel
theorem dX5_init_613 : decode cX5_init 613 = .ok (.dup, 1) := by decide +kernel
theorem dX5_init_614 : decode cX5_init 614 = .ok (.iconst 4, 1) := by decide +kernel
theorem dX5_init_615 : decode cX5_init 615 = .ok (.bipush 32, 2) := by decide +kernel
theorem dX5_init_617 : decode cX5_init 617 = .ok (.castore, 1) := by decide +kernel
theorem dX5_init_618 : decode cX5_init 618 = .ok (.dup, 1) := by decide +kernel
theorem dX5_init_619 : decode cX5_init 619 = .ok (.iconst 5, 1) := by decide +kernel
theorem dX5_init_620 : decode cX5_init 620 = .ok (.bipush 32, 2) := by decide +kernel
theorem dX5_init_622 : decode cX5_init 622 = .ok (.castore, 1) := by decide +kernel
theorem dX5_init_623 : decode cX5_init 623 = .ok (.dup, 1) := by decide +kernel
theorem dX5_init_624 : decode cX5_init 624 = .ok (.bipush 6, 2) := by decide +kernel
theorem dX5_init_626 : decode cX5_init 626 = .ok (.bipush 32, 2) := by decide +kernel
theorem dX5_init_628 : decode cX5_init 628 = .ok (.castore, 1) := by decide +kernel
theorem dX5_init_629 : decode cX5_init 629 = .ok (.dup, 1) := by decide +kernel
theorem dX5_init_630 : decode cX5_init 630 = .ok (.bipush 7, 2) := by decide +kernel
theorem dX5_init_632 : decode cX5_init 632 = .ok (.bipush 32, 2) := by decide +kernel
theorem dX5_init_634 : decode cX5_init 634 = .ok (.castore, 1) := by decide +kernel
theorem dX5_init_635 : decode cX5_init 635 = .ok (.dup, 1) := by decide +kernel
theorem dX5_init_636 : decode cX5_init 636 = .ok (.bipush 8, 2) := by decide +kernel
theorem dX5_init_638 : decode cX5_init 638 = .ok (.bipush 32, 2) := by decide +kernel
theorem dX5_init_640 : decode cX5_init 640 = .ok (.castore, 1) := by decide +kernel
theorem dX5_init_641 : decode cX5_init 641 = .ok (.dup, 1) := by decide +kernel
theorem dX5_init_642 : decode cX5_init 642 = .ok (.bipush 9, 2) := by decide +kernel
theorem dX5_init_644 : decode cX5_init 644 = .ok (.bipush 98, 2) := by decide +kernel
theorem dX5_init_646 : decode cX5_init 646 = .ok (.castore, 1) := by decide +kernel
theorem dX5_init_647 : decode cX5_init 647 = .ok (.dup, 1) := by decide +kernel
theorem dX5_init_648 : decode cX5_init 648 = .ok (.bipush 10, 2) := by decide +kernel
theorem dX5_init_650 : decode cX5_init 650 = .ok (.bipush 101, 2) := by decide +kernel
theorem dX5_init_652 : decode cX5_init 652 = .ok (.castore, 1) := by decide +kernel
theorem dX5_init_653 : decode cX5_init 653 = .ok (.dup, 1) := by decide +kernel
theorem dX5_init_654 : decode cX5_init 654 = .ok (.bipush 11, 2) := by decide +kernel
theorem dX5_init_656 : decode cX5_init 656 = .ok (.bipush 108, 2) := by decide +kernel
theorem dX5_init_658 : decode cX5_init 658 = .ok (.castore, 1) := by decide +kernel
theorem dX5_init_659 : decode cX5_init 659 = .ok (.dup, 1) := by decide +kernel
theorem dX5_init_660 : decode cX5_init 660 = .ok (.bipush 12, 2) := by decide +kernel
theorem dX5_init_662 : decode cX5_init 662 = .ok (.bipush 108, 2) := by decide +kernel
theorem dX5_init_664 : decode cX5_init 664 = .ok (.castore, 1) := by decide +kernel
theorem dX5_init_665 : decode cX5_init 665 = .ok (.dup, 1) := by decide +kernel
theorem dX5_init_666 : decode cX5_init 666 = .ok (.bipush 13, 2) := by decide +kernel
theorem dX5_init_668 : decode cX5_init 668 = .ok (.bipush 32, 2) := by decide +kernel
theorem dX5_init_670 : decode cX5_init 670 = .ok (.castore, 1) := by decide +kernel
theorem dX5_init_671 : decode cX5_init 671 = .ok (.dup, 1) := by decide +kernel
theorem dX5_init_672 : decode cX5_init 672 = .ok (.bipush 14, 2) := by decide +kernel
theorem dX5_init_674 : decode cX5_init 674 = .ok (.bipush 32, 2) := by decide +kernel
theorem dX5_init_676 : decode cX5_init 676 = .ok (.castore, 1) := by decide +kernel
theorem dX5_init_677 : decode cX5_init 677 = .ok (.dup, 1) := by decide +kernel
theorem dX5_init_678 : decode cX5_init 678 = .ok (.bipush 15, 2) := by decide +kernel
theorem dX5_init_680 : decode cX5_init 680 = .ok (.bipush 32, 2) := by decide +kernel
theorem dX5_init_682 : decode cX5_init 682 = .ok (.castore, 1) := by decide +kernel
theorem dX5_init_683 : decode cX5_init 683 = .ok (.dup, 1) := by decide +kernel
theorem dX5_init_684 : decode cX5_init 684 = .ok (.bipush 16, 2) := by decide +kernel
theorem dX5_init_686 : decode cX5_init 686 = .ok (.bipush 32, 2) := by decide +kernel
theorem dX5_init_688 : decode cX5_init 688 = .ok (.castore, 1) := by decide +kernel
theorem dX5_init_689 : decode cX5_init 689 = .ok (.dup, 1) := by decide +kernel
theorem dX5_init_690 : decode cX5_init 690 = .ok (.bipush 17, 2) := by decide +kernel
theorem dX5_init_692 : decode cX5_init 692 = .ok (.bipush 32, 2) := by decide +kernel
theorem dX5_init_694 : decode cX5_init 694 = .ok (.castore, 1) := by decide +kernel
theorem dX5_init_695 : decode cX5_init 695 = .ok (.putfield 32, 3) := by decide +kernel
theorem dX5_init_698 : decode cX5_init 698 = .ok (.aload_n 0, 1) := by decide +kernel
theorem dX5_init_699 : decode cX5_init 699 = .ok (.iconst 4, 1) := by decide +kernel
theorem dX5_init_700 : decode cX5_init 700 = .ok (.newarray .int, 2) := by decide +kernel
theorem dX5_init_702 : decode cX5_init 702 = .ok (.putfield 35, 3) := by decide +kernel
theorem dX5_init_705 : decode cX5_init 705 = .ok (.aload_n 0, 1) := by decide +kernel
theorem dX5_init_706 : decode cX5_init 706 = .ok (.iconst 4, 1) := by decide +kernel
theorem dX5_init_707 : decode cX5_init 707 = .ok (.newarray .int, 2) := by decide +kernel
theorem dX5_init_709 : decode cX5_init 709 = .ok (.putfield 38, 3) := by decide +kernel
theorem dX5_init_712 : decode cX5_init 712 = .ok (.aload_n 0, 1) := by decide +kernel
theorem dX5_init_713 : decode cX5_init 713 = .ok (.sipush 160, 3) := by decide +kernel
theorem dX5_init_716 : decode cX5_init 716 = .ok (.newarray .int, 2) := by decide +kernel
theorem dX5_init_718 : decode cX5_init 718 = .ok (.putfield 41, 3) := by decide +kernel
theorem dX5_init_721 : decode cX5_init 721 = .ok (.aload_n 0, 1) := by decide +kernel
theorem dX5_init_722 : decode cX5_init 722 = .ok (.bipush 40, 2) := by decide +kernel
theorem dX5_init_724 : decode cX5_init 724 = .ok (.newarray .int, 2) := by decide +kernel
theorem dX5_init_726 : decode cX5_init 726 = .ok (.putfield 44, 3) := by decide +kernel
theorem dX5_init_729 : decode cX5_init 729 = .ok (.aload_n 0, 1) := by decide +kernel
theorem dX5_init_730 : decode cX5_init 730 = .ok (.getfield 9, 3) := by decide +kernel
theorem dX5_init_733 : decode cX5_init 733 = .ok (.iconst 2, 1) := by decide +kernel
theorem dX5_init_734 : decode cX5_init 734 = .ok (.iconst 1, 1) := by decide +kernel
theorem dX5_init_735 : decode cX5_init 735 = .ok (.iastore, 1) := by decide +kernel
theorem dX5_init_736 : decode cX5_init 736 = .ok (.iconst 0, 1) := by decide +kernel
theorem dX5_init_737 : decode cX5_init 737 = .ok (.istore_n 1, 1) := by decide +kernel
theorem dX5_init_738 : decode cX5_init 738 = .ok (.iload_n 1, 1) := by decide +kernel
theorem dX5_init_739 : decode cX5_init 739 = .ok (.bipush 10, 2) := by decide +kernel
theorem dX5_init_741 : decode cX5_init 741 = .ok (.if_icmp .ge 19, 3) := by decide +kernel
theorem dX5_init_744 : decode cX5_init 744 = .ok (.aload_n 0, 1) := by decide +kernel
theorem dX5_init_745 : decode cX5_init 745 = .ok (.getfield 9, 3) := by decide +kernel
theorem dX5_init_748 : decode cX5_init 748 = .ok (.bipush 60, 2) := by decide +kernel
theorem dX5_init_750 : decode cX5_init 750 = .ok (.iload_n 1, 1) := by decide +kernel
theorem dX5_init_751 : decode cX5_init 751 = .ok (.iadd, 1) := by decide +kernel
theorem dX5_init_752 : decode cX5_init 752 = .ok (.iconst (-1), 1) := by decide +kernel
theorem dX5_init_753 : decode cX5_init 753 = .ok (.iastore, 1) := by decide +kernel
theorem dX5_init_754 : decode cX5_init 754 = .ok (.iinc 1 1, 3) := by decide +kernel
theorem dX5_init_757 : decode cX5_init 757 = .ok (.goto (-19), 3) := by decide +kernel
theorem dX5_init_760 : decode cX5_init 760 = .ok (.return_, 1) := by decide +kernel
theorem dX5_no_0 : decode cX5_no 0 = .ok (.aload_n 0, 1) := by decide +kernel
theorem dX5_no_1 : decode cX5_no 1 = .ok (.getfield 19, 3) := by decide +kernel
theorem dX5_no_4 : decode cX5_no 4 = .ok (.iload_n 1, 1) := by decide +kernel
theorem dX5_no_5 : decode cX5_no 5 = .ok (.dup2, 1) := by decide +kernel
theorem dX5_no_6 : decode cX5_no 6 = .ok (.iaload, 1) := by decide +kernel
theorem dX5_no_7 : decode cX5_no 7 = .ok (.iconst 1, 1) := by decide +kernel
theorem dX5_no_8 : decode cX5_no 8 = .ok (.iadd, 1) := by decide +kernel
theorem dX5_no_9 : decode cX5_no 9 = .ok (.iastore, 1) := by decide +kernel
theorem dX5_no_10 : decode cX5_no 10 = .ok (.ldc 47, 2) := by decide +kernel
theorem dX5_no_12 : decode cX5_no 12 = .ok (.iload_n 1, 1) := by decide +kernel
theorem dX5_no_13 : decode cX5_no 13 = .ok (.isub, 1) := by decide +kernel
theorem dX5_no_14 : decode cX5_no 14 = .ok (.ireturn, 1) := by decide +kernel
theorem dX5_in1_0 : decode cX5_in1 0 = .ok (.iload_n 0, 1) := by decide +kernel
theorem dX5_in1_1 : decode cX5_in1 1 = .ok (.iload_n 1, 1) := by decide +kernel
theorem dX5_in1_2 : decode cX5_in1 2 = .ok (.if_icmp .lt 12, 3) := by decide +kernel
theorem dX5_in1_5 : decode cX5_in1 5 = .ok (.iload_n 0, 1) := by decide +kernel
theorem dX5_in1_6 : decode cX5_in1 6 = .ok (.iload_n 2, 1) := by decide +kernel
theorem dX5_in1_7 : decode cX5_in1 7 = .ok (.if_icmp .gt 7, 3) := by decide +kernel
theorem dX5_in1_10 : decode cX5_in1 10 = .ok (.iconst 1, 1) := by decide +kernel
theorem dX5_in1_11 : decode cX5_in1 11 = .ok (.goto 4, 3) := by decide +kernel
theorem dX5_in1_14 : decode cX5_in1 14 = .ok (.iconst 0, 1) := by decide +kernel
theorem dX5_in1_15 : decode cX5_in1 15 = .ok (.ireturn, 1) := by decide +kernel
theorem dX5_less_0 : decode cX5_less 0 = .ok (.iload_n 0, 1) := by decide +kernel
theorem dX5_less_1 : decode cX5_less 1 = .ok (.iload_n 1, 1) := by decide +kernel
theorem dX5_less_2 : decode cX5_less 2 = .ok (.if_icmp .ge 7, 3) := by decide +kernel
theorem dX5_less_5 : decode cX5_less 5 = .ok (.iload_n 0, 1) := by decide +kernel
theorem dX5_less_6 : decode cX5_less 6 = .ok (.goto 4, 3) := by decide +kernel
theorem dX5_less_9 : decode cX5_less 9 = .ok (.iload_n 1, 1) := by decide +kernel
theorem dX5_less_10 : decode cX5_less 10 = .ok (.ireturn, 1) := by decide +kernel
theorem dX5_bits_0 : decode cX5_bits 0 = .ok (.iconst 0, 1) := by decide +kernel
theorem dX5_bits_1 : decode cX5_bits 1 = .ok (.istore_n 1, 1) := by decide +kernel
theorem dX5_bits_2 : decode cX5_bits 2 = .ok (.iload_n 0, 1) := by decide +kernel
theorem dX5_bits_3 : decode cX5_bits 3 = .ok (.istore_n 2, 1) := by decide +kernel
theorem dX5_bits_4 : decode cX5_bits 4 = .ok (.iload_n 2, 1) := by decide +kernel
theorem dX5_bits_5 : decode cX5_bits 5 = .ok (.ifCond .eq 15, 3) := by decide +kernel
theorem dX5_bits_8 : decode cX5_bits 8 = .ok (.iinc 1 1, 3) := by decide +kernel
theorem dX5_bits_11 : decode cX5_bits 11 = .ok (.iload_n 2, 1) := by decide +kernel
theorem dX5_bits_12 : decode cX5_bits 12 = .ok (.iload_n 2, 1) := by decide +kernel
theorem dX5_bits_13 : decode cX5_bits 13 = .ok (.iconst 1, 1) := by decide +kernel
theorem dX5_bits_14 : decode cX5_bits 14 = .ok (.isub, 1) := by decide +kernel
theorem dX5_bits_15 : decode cX5_bits 15 = .ok (.iand, 1) := by decide +kernel
theorem dX5_bits_16 : decode cX5_bits 16 = .ok (.istore_n 2, 1) := by decide +kernel
theorem dX5_bits_17 : decode cX5_bits 17 = .ok (.goto (-13), 3) := by decide +kernel
theorem dX5_bits_20 : decode cX5_bits 20 = .ok (.iload_n 1, 1) := by decide +kernel
theorem dX5_bits_21 : decode cX5_bits 21 = .ok (.ireturn, 1) := by decide +kernel
theorem dX5_isCell_0 : decode cX5_isCell 0 = .ok (.iload_n 0, 1) := by decide +kernel
theorem dX5_isCell_1 : decode cX5_isCell 1 = .ok (.iconst 0, 1) := by decide +kernel
theorem dX5_isCell_2 : decode cX5_isCell 2 = .ok (.bipush 15, 2) := by decide +kernel
theorem dX5_isCell_4 : decode cX5_isCell 4 = .ok (.invokestatic 48, 3) := by decide +kernel
theorem dX5_isCell_7 : decode cX5_isCell 7 = .ok (.ireturn, 1) := by decide +kernel
theorem dX5_isGuise_0 : decode cX5_isGuise 0 = .ok (.iload_n 0, 1) := by decide +kernel
theorem dX5_isGuise_1 : decode cX5_isGuise 1 = .ok (.iconst 0, 1) := by decide +kernel
theorem dX5_isGuise_2 : decode cX5_isGuise 2 = .ok (.bipush 11, 2) := by decide +kernel
theorem dX5_isGuise_4 : decode cX5_isGuise 4 = .ok (.invokestatic 48, 3) := by decide +kernel
theorem dX5_isGuise_7 : decode cX5_isGuise 7 = .ok (.ireturn, 1) := by decide +kernel
theorem dX5_isPerson_0 : decode cX5_isPerson 0 = .ok (.iload_n 1, 1) := by decide +kernel
theorem dX5_isPerson_1 : decode cX5_isPerson 1 = .ok (.iconst 0, 1) := by decide +kernel
theorem dX5_isPerson_2 : decode cX5_isPerson 2 = .ok (.aload_n 0, 1) := by decide +kernel
theorem dX5_isPerson_3 : decode cX5_isPerson 3 = .ok (.getfield 9, 3) := by decide +kernel
theorem dX5_isPerson_6 : decode cX5_isPerson 6 = .ok (.iconst 1, 1) := by decide +kernel
theorem dX5_isPerson_7 : decode cX5_isPerson 7 = .ok (.iaload, 1) := by decide +kernel
theorem dX5_isPerson_8 : decode cX5_isPerson 8 = .ok (.iconst 1, 1) := by decide +kernel
theorem dX5_isPerson_9 : decode cX5_isPerson 9 = .ok (.isub, 1) := by decide +kernel
theorem dX5_isPerson_10 : decode cX5_isPerson 10 = .ok (.invokestatic 48, 3) := by decide +kernel
theorem dX5_isPerson_13 : decode cX5_isPerson 13 = .ok (.ireturn, 1) := by decide +kernel
theorem dX5_areTwo_0 : decode cX5_areTwo 0 = .ok (.aload_n 0, 1) := by decide +kernel
theorem dX5_areTwo_1 : decode cX5_areTwo 1 = .ok (.iload_n 1, 1) := by decide +kernel
theorem dX5_areTwo_2 : decode cX5_areTwo 2 = .ok (.invokevirtual 52, 3) := by decide +kernel
theorem dX5_areTwo_5 : decode cX5_areTwo 5 = .ok (.ifCond .eq 20, 3) := by decide +kernel
theorem dX5_areTwo_8 : decode cX5_areTwo 8 = .ok (.aload_n 0, 1) := by decide +kernel
theorem dX5_areTwo_9 : decode cX5_areTwo 9 = .ok (.iload_n 2, 1) := by decide +kernel
theorem dX5_areTwo_10 : decode cX5_areTwo 10 = .ok (.invokevirtual 52, 3) := by decide +kernel
theorem dX5_areTwo_13 : decode cX5_areTwo 13 = .ok (.ifCond .eq 12, 3) := by decide +kernel
theorem dX5_areTwo_16 : decode cX5_areTwo 16 = .ok (.iload_n 1, 1) := by decide +kernel
theorem dX5_areTwo_17 : decode cX5_areTwo 17 = .ok (.iload_n 2, 1) := by decide +kernel
theorem dX5_areTwo_18 : decode cX5_areTwo 18 = .ok (.if_icmp .eq 7, 3) := by decide +kernel
theorem dX5_areTwo_21 : decode cX5_areTwo 21 = .ok (.iconst 1, 1) := by decide +kernel
theorem dX5_areTwo_22 : decode cX5_areTwo 22 = .ok (.goto 4, 3) := by decide +kernel
theorem dX5_areTwo_25 : decode cX5_areTwo 25 = .ok (.iconst 0, 1) := by decide +kernel
theorem dX5_areTwo_26 : decode cX5_areTwo 26 = .ok (.ireturn, 1) := by decide +kernel
theorem dX5_get_0 : decode cX5_get 0 = .ok (.aload_n 0, 1) := by decide +kernel
theorem dX5_get_1 : decode cX5_get 1 = .ok (.getfield 9, 3) := by decide +kernel
theorem dX5_get_4 : decode cX5_get 4 = .ok (.iconst 4, 1) := by decide +kernel
theorem dX5_get_5 : decode cX5_get 5 = .ok (.bipush 7, 2) := by decide +kernel
theorem dX5_get_7 : decode cX5_get 7 = .ok (.iload_n 1, 1) := by decide +kernel
theorem dX5_get_8 : decode cX5_get 8 = .ok (.imul, 1) := by decide +kernel
theorem dX5_get_9 : decode cX5_get 9 = .ok (.iadd, 1) := by decide +kernel
theorem dX5_get_10 : decode cX5_get 10 = .ok (.iload_n 2, 1) := by decide +kernel
theorem dX5_get_11 : decode cX5_get 11 = .ok (.iadd, 1) := by decide +kernel
theorem dX5_get_12 : decode cX5_get 12 = .ok (.iaload, 1) := by decide +kernel
theorem dX5_get_13 : decode cX5_get 13 = .ok (.ireturn, 1) := by decide +kernel
theorem dX5_puts_0 : decode cX5_puts 0 = .ok (.aload_n 0, 1) := by decide +kernel
theorem dX5_puts_1 : decode cX5_puts 1 = .ok (.getfield 9, 3) := by decide +kernel
theorem dX5_puts_4 : decode cX5_puts 4 = .ok (.iconst 4, 1) := by decide +kernel
theorem dX5_puts_5 : decode cX5_puts 5 = .ok (.bipush 7, 2) := by decide +kernel
theorem dX5_puts_7 : decode cX5_puts 7 = .ok (.iload_n 1, 1) := by decide +kernel
theorem dX5_puts_8 : decode cX5_puts 8 = .ok (.imul, 1) := by decide +kernel
theorem dX5_puts_9 : decode cX5_puts 9 = .ok (.iadd, 1) := by decide +kernel
theorem dX5_puts_10 : decode cX5_puts 10 = .ok (.iload_n 2, 1) := by decide +kernel
theorem dX5_puts_11 : decode cX5_puts 11 = .ok (.iadd, 1) := by decide +kernel
theorem dX5_puts_12 : decode cX5_puts 12 = .ok (.iload_n 3, 1) := by decide +kernel
theorem dX5_puts_13 : decode cX5_puts 13 = .ok (.iastore, 1) := by decide +kernel
theorem dX5_puts_14 : decode cX5_puts 14 = .ok (.return_, 1) := by decide +kernel
theorem dX5_setsAside_0 : decode cX5_setsAside 0 = .ok (.iconst 0, 1) := by decide +kernel
theorem dX5_setsAside_1 : decode cX5_setsAside 1 = .ok (.istore_n 1, 1) := by decide +kernel
theorem dX5_setsAside_2 : decode cX5_setsAside 2 = .ok (.iload_n 1, 1) := by decide +kernel
theorem dX5_setsAside_3 : decode cX5_setsAside 3 = .ok (.bipush 70, 2) := by decide +kernel
theorem dX5_setsAside_5 : decode cX5_setsAside 5 = .ok (.if_icmp .ge 21, 3) := by decide +kernel
theorem dX5_setsAside_8 : decode cX5_setsAside 8 = .ok (.aload_n 0, 1) := by decide +kernel
theorem dX5_setsAside_9 : decode cX5_setsAside 9 = .ok (.getfield 16, 3) := by decide +kernel
theorem dX5_setsAside_12 : decode cX5_setsAside 12 = .ok (.iload_n 1, 1) := by decide +kernel
theorem dX5_setsAside_13 : decode cX5_setsAside 13 = .ok (.aload_n 0, 1) := by decide +kernel
theorem dX5_setsAside_14 : decode cX5_setsAside 14 = .ok (.getfield 9, 3) := by decide +kernel
theorem dX5_setsAside_17 : decode cX5_setsAside 17 = .ok (.iload_n 1, 1) := by decide +kernel
theorem dX5_setsAside_18 : decode cX5_setsAside 18 = .ok (.iaload, 1) := by decide +kernel
theorem dX5_setsAside_19 : decode cX5_setsAside 19 = .ok (.iastore, 1) := by decide +kernel
theorem dX5_setsAside_20 : decode cX5_setsAside 20 = .ok (.iinc 1 1, 3) := by decide +kernel
theorem dX5_setsAside_23 : decode cX5_setsAside 23 = .ok (.goto (-21), 3) := by decide +kernel
theorem dX5_setsAside_26 : decode cX5_setsAside 26 = .ok (.return_, 1) := by decide +kernel
theorem dX5_laysBack_0 : decode cX5_laysBack 0 = .ok (.iconst 0, 1) := by decide +kernel
theorem dX5_laysBack_1 : decode cX5_laysBack 1 = .ok (.istore_n 1, 1) := by decide +kernel
theorem dX5_laysBack_2 : decode cX5_laysBack 2 = .ok (.iload_n 1, 1) := by decide +kernel
theorem dX5_laysBack_3 : decode cX5_laysBack 3 = .ok (.bipush 70, 2) := by decide +kernel
theorem dX5_laysBack_5 : decode cX5_laysBack 5 = .ok (.if_icmp .ge 21, 3) := by decide +kernel
theorem dX5_laysBack_8 : decode cX5_laysBack 8 = .ok (.aload_n 0, 1) := by decide +kernel
theorem dX5_laysBack_9 : decode cX5_laysBack 9 = .ok (.getfield 9, 3) := by decide +kernel
theorem dX5_laysBack_12 : decode cX5_laysBack 12 = .ok (.iload_n 1, 1) := by decide +kernel
theorem dX5_laysBack_13 : decode cX5_laysBack 13 = .ok (.aload_n 0, 1) := by decide +kernel
theorem dX5_laysBack_14 : decode cX5_laysBack 14 = .ok (.getfield 16, 3) := by decide +kernel
theorem dX5_laysBack_17 : decode cX5_laysBack 17 = .ok (.iload_n 1, 1) := by decide +kernel
theorem dX5_laysBack_18 : decode cX5_laysBack 18 = .ok (.iaload, 1) := by decide +kernel
theorem dX5_laysBack_19 : decode cX5_laysBack 19 = .ok (.iastore, 1) := by decide +kernel
theorem dX5_laysBack_20 : decode cX5_laysBack 20 = .ok (.iinc 1 1, 3) := by decide +kernel
theorem dX5_laysBack_23 : decode cX5_laysBack 23 = .ok (.goto (-21), 3) := by decide +kernel
theorem dX5_laysBack_26 : decode cX5_laysBack 26 = .ok (.return_, 1) := by decide +kernel
theorem dX5_isBare_0 : decode cX5_isBare 0 = .ok (.aload_n 0, 1) := by decide +kernel
theorem dX5_isBare_1 : decode cX5_isBare 1 = .ok (.getfield 9, 3) := by decide +kernel
theorem dX5_isBare_4 : decode cX5_isBare 4 = .ok (.iconst 0, 1) := by decide +kernel
theorem dX5_isBare_5 : decode cX5_isBare 5 = .ok (.iaload, 1) := by decide +kernel
theorem dX5_isBare_6 : decode cX5_isBare 6 = .ok (.bipush 12, 2) := by decide +kernel
theorem dX5_isBare_8 : decode cX5_isBare 8 = .ok (.irem, 1) := by decide +kernel
theorem dX5_isBare_9 : decode cX5_isBare 9 = .ok (.bipush 11, 2) := by decide +kernel
theorem dX5_isBare_11 : decode cX5_isBare 11 = .ok (.if_icmp .ne 7, 3) := by decide +kernel
theorem dX5_isBare_14 : decode cX5_isBare 14 = .ok (.iconst 1, 1) := by decide +kernel
theorem dX5_isBare_15 : decode cX5_isBare 15 = .ok (.goto 4, 3) := by decide +kernel
theorem dX5_isBare_18 : decode cX5_isBare 18 = .ok (.iconst 0, 1) := by decide +kernel
theorem dX5_isBare_19 : decode cX5_isBare 19 = .ok (.ireturn, 1) := by decide +kernel
theorem dX5_walksOf_0 : decode cX5_walksOf 0 = .ok (.aload_n 0, 1) := by decide +kernel
theorem dX5_walksOf_1 : decode cX5_walksOf 1 = .ok (.getfield 9, 3) := by decide +kernel
theorem dX5_walksOf_4 : decode cX5_walksOf 4 = .ok (.iconst 0, 1) := by decide +kernel
theorem dX5_walksOf_5 : decode cX5_walksOf 5 = .ok (.iaload, 1) := by decide +kernel
theorem dX5_walksOf_6 : decode cX5_walksOf 6 = .ok (.iconst 2, 1) := by decide +kernel
theorem dX5_walksOf_7 : decode cX5_walksOf 7 = .ok (.irem, 1) := by decide +kernel
theorem dX5_walksOf_8 : decode cX5_walksOf 8 = .ok (.istore_n 2, 1) := by decide +kernel
theorem dX5_walksOf_9 : decode cX5_walksOf 9 = .ok (.aload_n 0, 1) := by decide +kernel
theorem dX5_walksOf_10 : decode cX5_walksOf 10 = .ok (.iload_n 1, 1) := by decide +kernel
theorem dX5_walksOf_11 : decode cX5_walksOf 11 = .ok (.iconst 0, 1) := by decide +kernel
theorem dX5_walksOf_12 : decode cX5_walksOf 12 = .ok (.invokevirtual 56, 3) := by decide +kernel
theorem dX5_walksOf_15 : decode cX5_walksOf 15 = .ok (.tableswitch 62 1 6 #[37, 39, 41, 45, 58, 60], 37) := by decide +kernel
theorem dX5_walksOf_52 : decode cX5_walksOf 52 = .ok (.iconst 3, 1) := by decide +kernel
theorem dX5_walksOf_53 : decode cX5_walksOf 53 = .ok (.ireturn, 1) := by decide +kernel
theorem dX5_walksOf_54 : decode cX5_walksOf 54 = .ok (.iload_n 2, 1) := by decide +kernel
theorem dX5_walksOf_55 : decode cX5_walksOf 55 = .ok (.ireturn, 1) := by decide +kernel
theorem dX5_walksOf_56 : decode cX5_walksOf 56 = .ok (.iload_n 2, 1) := by decide +kernel
theorem dX5_walksOf_57 : decode cX5_walksOf 57 = .ok (.iconst 1, 1) := by decide +kernel
theorem dX5_walksOf_58 : decode cX5_walksOf 58 = .ok (.iadd, 1) := by decide +kernel
theorem dX5_walksOf_59 : decode cX5_walksOf 59 = .ok (.ireturn, 1) := by decide +kernel
theorem dX5_walksOf_60 : decode cX5_walksOf 60 = .ok (.aload_n 0, 1) := by decide +kernel
theorem dX5_walksOf_61 : decode cX5_walksOf 61 = .ok (.invokevirtual 60, 3) := by decide +kernel
theorem dX5_walksOf_64 : decode cX5_walksOf 64 = .ok (.ifCond .eq 7, 3) := by decide +kernel
theorem dX5_walksOf_67 : decode cX5_walksOf 67 = .ok (.iconst 5, 1) := by decide +kernel
theorem dX5_walksOf_68 : decode cX5_walksOf 68 = .ok (.goto 4, 3) := by decide +kernel
theorem dX5_walksOf_71 : decode cX5_walksOf 71 = .ok (.iconst 0, 1) := by decide +kernel
theorem dX5_walksOf_72 : decode cX5_walksOf 72 = .ok (.ireturn, 1) := by decide +kernel
theorem dX5_walksOf_73 : decode cX5_walksOf 73 = .ok (.iconst 0, 1) := by decide +kernel
theorem dX5_walksOf_74 : decode cX5_walksOf 74 = .ok (.ireturn, 1) := by decide +kernel
theorem dX5_walksOf_75 : decode cX5_walksOf 75 = .ok (.iconst 2, 1) := by decide +kernel
theorem dX5_walksOf_76 : decode cX5_walksOf 76 = .ok (.ireturn, 1) := by decide +kernel
theorem dX5_walksOf_77 : decode cX5_walksOf 77 = .ok (.iconst 1, 1) := by decide +kernel
theorem dX5_walksOf_78 : decode cX5_walksOf 78 = .ok (.ireturn, 1) := by decide +kernel
theorem dX5_shiftsOf_0 : decode cX5_shiftsOf 0 = .ok (.aload_n 0, 1) := by decide +kernel
theorem dX5_shiftsOf_1 : decode cX5_shiftsOf 1 = .ok (.iload_n 1, 1) := by decide +kernel
theorem dX5_shiftsOf_2 : decode cX5_shiftsOf 2 = .ok (.iconst 0, 1) := by decide +kernel
theorem dX5_shiftsOf_3 : decode cX5_shiftsOf 3 = .ok (.invokevirtual 56, 3) := by decide +kernel
theorem dX5_shiftsOf_6 : decode cX5_shiftsOf 6 = .ok (.tableswitch 61 1 6 #[38, 40, 42, 59, 40, 38], 38) := by decide +kernel
theorem dX5_shiftsOf_44 : decode cX5_shiftsOf 44 = .ok (.iconst 2, 1) := by decide +kernel
theorem dX5_shiftsOf_45 : decode cX5_shiftsOf 45 = .ok (.ireturn, 1) := by decide +kernel
theorem dX5_shiftsOf_46 : decode cX5_shiftsOf 46 = .ok (.iconst 0, 1) := by decide +kernel
theorem dX5_shiftsOf_47 : decode cX5_shiftsOf 47 = .ok (.ireturn, 1) := by decide +kernel
theorem dX5_shiftsOf_48 : decode cX5_shiftsOf 48 = .ok (.aload_n 0, 1) := by decide +kernel
theorem dX5_shiftsOf_49 : decode cX5_shiftsOf 49 = .ok (.getfield 9, 3) := by decide +kernel
theorem dX5_shiftsOf_52 : decode cX5_shiftsOf 52 = .ok (.iconst 0, 1) := by decide +kernel
theorem dX5_shiftsOf_53 : decode cX5_shiftsOf 53 = .ok (.iaload, 1) := by decide +kernel
theorem dX5_shiftsOf_54 : decode cX5_shiftsOf 54 = .ok (.iconst 3, 1) := by decide +kernel
theorem dX5_shiftsOf_55 : decode cX5_shiftsOf 55 = .ok (.irem, 1) := by decide +kernel
theorem dX5_shiftsOf_56 : decode cX5_shiftsOf 56 = .ok (.ifCond .ne 7, 3) := by decide +kernel
theorem dX5_shiftsOf_59 : decode cX5_shiftsOf 59 = .ok (.iconst 1, 1) := by decide +kernel
theorem dX5_shiftsOf_60 : decode cX5_shiftsOf 60 = .ok (.goto 4, 3) := by decide +kernel
theorem dX5_shiftsOf_63 : decode cX5_shiftsOf 63 = .ok (.iconst 0, 1) := by decide +kernel
theorem dX5_shiftsOf_64 : decode cX5_shiftsOf 64 = .ok (.ireturn, 1) := by decide +kernel
theorem dX5_shiftsOf_65 : decode cX5_shiftsOf 65 = .ok (.iconst 5, 1) := by decide +kernel
theorem dX5_shiftsOf_66 : decode cX5_shiftsOf 66 = .ok (.ireturn, 1) := by decide +kernel
theorem dX5_shiftsOf_67 : decode cX5_shiftsOf 67 = .ok (.iconst 1, 1) := by decide +kernel
theorem dX5_shiftsOf_68 : decode cX5_shiftsOf 68 = .ok (.ireturn, 1) := by decide +kernel
theorem dX5_mindsOf_0 : decode cX5_mindsOf 0 = .ok (.iload_n 2, 1) := by decide +kernel
theorem dX5_mindsOf_1 : decode cX5_mindsOf 1 = .ok (.iconst 5, 1) := by decide +kernel
theorem dX5_mindsOf_2 : decode cX5_mindsOf 2 = .ok (.if_icmp .le 13, 3) := by decide +kernel
theorem dX5_mindsOf_5 : decode cX5_mindsOf 5 = .ok (.iload_n 2, 1) := by decide +kernel
theorem dX5_mindsOf_6 : decode cX5_mindsOf 6 = .ok (.aload_n 0, 1) := by decide +kernel
theorem dX5_mindsOf_7 : decode cX5_mindsOf 7 = .ok (.iload_n 1, 1) := by decide +kernel
theorem dX5_mindsOf_8 : decode cX5_mindsOf 8 = .ok (.iconst 2, 1) := by decide +kernel
theorem dX5_mindsOf_9 : decode cX5_mindsOf 9 = .ok (.invokevirtual 56, 3) := by decide +kernel
theorem dX5_mindsOf_12 : decode cX5_mindsOf 12 = .ok (.if_icmp .ne 7, 3) := by decide +kernel
theorem dX5_mindsOf_15 : decode cX5_mindsOf 15 = .ok (.iconst 1, 1) := by decide +kernel
theorem dX5_mindsOf_16 : decode cX5_mindsOf 16 = .ok (.goto 4, 3) := by decide +kernel
theorem dX5_mindsOf_19 : decode cX5_mindsOf 19 = .ok (.iconst 0, 1) := by decide +kernel
theorem dX5_mindsOf_20 : decode cX5_mindsOf 20 = .ok (.istore_n 3, 1) := by decide +kernel
theorem dX5_mindsOf_21 : decode cX5_mindsOf 21 = .ok (.aload_n 0, 1) := by decide +kernel
theorem dX5_mindsOf_22 : decode cX5_mindsOf 22 = .ok (.iload_n 1, 1) := by decide +kernel
theorem dX5_mindsOf_23 : decode cX5_mindsOf 23 = .ok (.iconst 0, 1) := by decide +kernel
theorem dX5_mindsOf_24 : decode cX5_mindsOf 24 = .ok (.invokevirtual 56, 3) := by decide +kernel
theorem dX5_mindsOf_27 : decode cX5_mindsOf 27 = .ok (.tableswitch 92 1 6 #[37, 39, 50, 52, 77, 79], 37) := by decide +kernel
theorem dX5_mindsOf_64 : decode cX5_mindsOf 64 = .ok (.iconst 1, 1) := by decide +kernel
theorem dX5_mindsOf_65 : decode cX5_mindsOf 65 = .ok (.ireturn, 1) := by decide +kernel
theorem dX5_mindsOf_66 : decode cX5_mindsOf 66 = .ok (.iload_n 2, 1) := by decide +kernel
theorem dX5_mindsOf_67 : decode cX5_mindsOf 67 = .ok (.iconst 5, 1) := by decide +kernel
theorem dX5_mindsOf_68 : decode cX5_mindsOf 68 = .ok (.if_icmp .gt 7, 3) := by decide +kernel
theorem dX5_mindsOf_71 : decode cX5_mindsOf 71 = .ok (.iconst 1, 1) := by decide +kernel
theorem dX5_mindsOf_72 : decode cX5_mindsOf 72 = .ok (.goto 4, 3) := by decide +kernel
theorem dX5_mindsOf_75 : decode cX5_mindsOf 75 = .ok (.iconst 0, 1) := by decide +kernel
theorem dX5_mindsOf_76 : decode cX5_mindsOf 76 = .ok (.ireturn, 1) := by decide +kernel
theorem dX5_mindsOf_77 : decode cX5_mindsOf 77 = .ok (.iload_n 3, 1) := by decide +kernel
theorem dX5_mindsOf_78 : decode cX5_mindsOf 78 = .ok (.ireturn, 1) := by decide +kernel
theorem dX5_mindsOf_79 : decode cX5_mindsOf 79 = .ok (.iload_n 2, 1) := by decide +kernel
theorem dX5_mindsOf_80 : decode cX5_mindsOf 80 = .ok (.bipush 9, 2) := by decide +kernel
theorem dX5_mindsOf_82 : decode cX5_mindsOf 82 = .ok (.if_icmp .eq 16, 3) := by decide +kernel
theorem dX5_mindsOf_85 : decode cX5_mindsOf 85 = .ok (.aload_n 0, 1) := by decide +kernel
theorem dX5_mindsOf_86 : decode cX5_mindsOf 86 = .ok (.iload_n 1, 1) := by decide +kernel
theorem dX5_mindsOf_87 : decode cX5_mindsOf 87 = .ok (.iconst 3, 1) := by decide +kernel
theorem dX5_mindsOf_88 : decode cX5_mindsOf 88 = .ok (.invokevirtual 56, 3) := by decide +kernel
theorem dX5_mindsOf_91 : decode cX5_mindsOf 91 = .ok (.ifCond .ne 11, 3) := by decide +kernel
theorem dX5_mindsOf_94 : decode cX5_mindsOf 94 = .ok (.iload_n 3, 1) := by decide +kernel
theorem dX5_mindsOf_95 : decode cX5_mindsOf 95 = .ok (.ifCond .eq 7, 3) := by decide +kernel
theorem dX5_mindsOf_98 : decode cX5_mindsOf 98 = .ok (.iconst 1, 1) := by decide +kernel
theorem dX5_mindsOf_99 : decode cX5_mindsOf 99 = .ok (.goto 4, 3) := by decide +kernel
theorem dX5_mindsOf_102 : decode cX5_mindsOf 102 = .ok (.iconst 0, 1) := by decide +kernel
theorem dX5_mindsOf_103 : decode cX5_mindsOf 103 = .ok (.ireturn, 1) := by decide +kernel
theorem dX5_mindsOf_104 : decode cX5_mindsOf 104 = .ok (.iconst 0, 1) := by decide +kernel
theorem dX5_mindsOf_105 : decode cX5_mindsOf 105 = .ok (.ireturn, 1) := by decide +kernel
theorem dX5_mindsOf_106 : decode cX5_mindsOf 106 = .ok (.iload_n 2, 1) := by decide +kernel
theorem dX5_mindsOf_107 : decode cX5_mindsOf 107 = .ok (.iconst 2, 1) := by decide +kernel
theorem dX5_mindsOf_108 : decode cX5_mindsOf 108 = .ok (.irem, 1) := by decide +kernel
theorem dX5_mindsOf_109 : decode cX5_mindsOf 109 = .ok (.iconst 1, 1) := by decide +kernel
theorem dX5_mindsOf_110 : decode cX5_mindsOf 110 = .ok (.if_icmp .ne 7, 3) := by decide +kernel
theorem dX5_mindsOf_113 : decode cX5_mindsOf 113 = .ok (.iconst 1, 1) := by decide +kernel
theorem dX5_mindsOf_114 : decode cX5_mindsOf 114 = .ok (.goto 4, 3) := by decide +kernel
theorem dX5_mindsOf_117 : decode cX5_mindsOf 117 = .ok (.iconst 0, 1) := by decide +kernel
theorem dX5_mindsOf_118 : decode cX5_mindsOf 118 = .ok (.ireturn, 1) := by decide +kernel
theorem dX5_mindsOf_119 : decode cX5_mindsOf 119 = .ok (.iload_n 2, 1) := by decide +kernel
theorem dX5_mindsOf_120 : decode cX5_mindsOf 120 = .ok (.aload_n 0, 1) := by decide +kernel
theorem dX5_mindsOf_121 : decode cX5_mindsOf 121 = .ok (.iload_n 1, 1) := by decide +kernel
theorem dX5_mindsOf_122 : decode cX5_mindsOf 122 = .ok (.iconst 2, 1) := by decide +kernel
theorem dX5_mindsOf_123 : decode cX5_mindsOf 123 = .ok (.invokevirtual 56, 3) := by decide +kernel
theorem dX5_mindsOf_126 : decode cX5_mindsOf 126 = .ok (.if_icmp .eq 7, 3) := by decide +kernel
theorem dX5_mindsOf_129 : decode cX5_mindsOf 129 = .ok (.iconst 1, 1) := by decide +kernel
