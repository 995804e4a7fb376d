theorem dX5_mindsOf_130 : decode cX5_mindsOf 130 = .ok (.goto 4, 3) := by decide +kernel
theorem dX5_mindsOf_133 : decode cX5_mindsOf 133 = .ok (.iconst 0, 1) := by decide +kernel
theorem dX5_mindsOf_134 : decode cX5_mindsOf 134 = .ok (.ireturn, 1) := by decide +kernel
theorem dX5_shinesOf_0 : decode cX5_shinesOf 0 = .ok (.aload_n 0, 1) := by decide +kernel
theorem dX5_shinesOf_1 : decode cX5_shinesOf 1 = .ok (.iload_n 1, 1) := by decide +kernel
theorem dX5_shinesOf_2 : decode cX5_shinesOf 2 = .ok (.iconst 0, 1) := by decide +kernel
theorem dX5_shinesOf_3 : decode cX5_shinesOf 3 = .ok (.invokevirtual 56, 3) := by decide +kernel
theorem dX5_shinesOf_6 : decode cX5_shinesOf 6 = .ok (.tableswitch 40 0 4 #[34, 40, 36, 36, 38], 34) := by decide +kernel
theorem dX5_shinesOf_40 : decode cX5_shinesOf 40 = .ok (.iconst 1, 1) := by decide +kernel
theorem dX5_shinesOf_41 : decode cX5_shinesOf 41 = .ok (.ireturn, 1) := by decide +kernel
theorem dX5_shinesOf_42 : decode cX5_shinesOf 42 = .ok (.iconst 2, 1) := by decide +kernel
theorem dX5_shinesOf_43 : decode cX5_shinesOf 43 = .ok (.ireturn, 1) := by decide +kernel
theorem dX5_shinesOf_44 : decode cX5_shinesOf 44 = .ok (.iconst 4, 1) := by decide +kernel
theorem dX5_shinesOf_45 : decode cX5_shinesOf 45 = .ok (.ireturn, 1) := by decide +kernel
theorem dX5_shinesOf_46 : decode cX5_shinesOf 46 = .ok (.iconst 0, 1) := by decide +kernel
theorem dX5_shinesOf_47 : decode cX5_shinesOf 47 = .ok (.ireturn, 1) := by decide +kernel
theorem dX5_gladdensOf_0 : decode cX5_gladdensOf 0 = .ok (.iconst 3, 1) := by decide +kernel
theorem dX5_gladdensOf_1 : decode cX5_gladdensOf 1 = .ok (.aload_n 0, 1) := by decide +kernel
theorem dX5_gladdensOf_2 : decode cX5_gladdensOf 2 = .ok (.iload_n 1, 1) := by decide +kernel
theorem dX5_gladdensOf_3 : decode cX5_gladdensOf 3 = .ok (.iconst 4, 1) := by decide +kernel
theorem dX5_gladdensOf_4 : decode cX5_gladdensOf 4 = .ok (.invokevirtual 56, 3) := by decide +kernel
theorem dX5_gladdensOf_7 : decode cX5_gladdensOf 7 = .ok (.invokestatic 64, 3) := by decide +kernel
theorem dX5_gladdensOf_10 : decode cX5_gladdensOf 10 = .ok (.iadd, 1) := by decide +kernel
theorem dX5_gladdensOf_11 : decode cX5_gladdensOf 11 = .ok (.istore_n 2, 1) := by decide +kernel
theorem dX5_gladdensOf_12 : decode cX5_gladdensOf 12 = .ok (.aload_n 0, 1) := by decide +kernel
theorem dX5_gladdensOf_13 : decode cX5_gladdensOf 13 = .ok (.iload_n 1, 1) := by decide +kernel
theorem dX5_gladdensOf_14 : decode cX5_gladdensOf 14 = .ok (.iconst 0, 1) := by decide +kernel
theorem dX5_gladdensOf_15 : decode cX5_gladdensOf 15 = .ok (.invokevirtual 56, 3) := by decide +kernel
theorem dX5_gladdensOf_18 : decode cX5_gladdensOf 18 = .ok (.tableswitch 47 2 6 #[34, 36, 38, 42, 44], 34) := by decide +kernel
theorem dX5_gladdensOf_52 : decode cX5_gladdensOf 52 = .ok (.iconst 3, 1) := by decide +kernel
theorem dX5_gladdensOf_53 : decode cX5_gladdensOf 53 = .ok (.ireturn, 1) := by decide +kernel
theorem dX5_gladdensOf_54 : decode cX5_gladdensOf 54 = .ok (.iload_n 2, 1) := by decide +kernel
theorem dX5_gladdensOf_55 : decode cX5_gladdensOf 55 = .ok (.ireturn, 1) := by decide +kernel
theorem dX5_gladdensOf_56 : decode cX5_gladdensOf 56 = .ok (.iconst 3, 1) := by decide +kernel
theorem dX5_gladdensOf_57 : decode cX5_gladdensOf 57 = .ok (.iload_n 2, 1) := by decide +kernel
theorem dX5_gladdensOf_58 : decode cX5_gladdensOf 58 = .ok (.imul, 1) := by decide +kernel
theorem dX5_gladdensOf_59 : decode cX5_gladdensOf 59 = .ok (.ireturn, 1) := by decide +kernel
theorem dX5_gladdensOf_60 : decode cX5_gladdensOf 60 = .ok (.iconst 0, 1) := by decide +kernel
theorem dX5_gladdensOf_61 : decode cX5_gladdensOf 61 = .ok (.ireturn, 1) := by decide +kernel
theorem dX5_gladdensOf_62 : decode cX5_gladdensOf 62 = .ok (.bipush 20, 2) := by decide +kernel
theorem dX5_gladdensOf_64 : decode cX5_gladdensOf 64 = .ok (.ireturn, 1) := by decide +kernel
theorem dX5_gladdensOf_65 : decode cX5_gladdensOf 65 = .ok (.iconst 1, 1) := by decide +kernel
theorem dX5_gladdensOf_66 : decode cX5_gladdensOf 66 = .ok (.ireturn, 1) := by decide +kernel
theorem dX5_farOf_0 : decode cX5_farOf 0 = .ok (.aload_n 0, 1) := by decide +kernel
theorem dX5_farOf_1 : decode cX5_farOf 1 = .ok (.iload_n 1, 1) := by decide +kernel
theorem dX5_farOf_2 : decode cX5_farOf 2 = .ok (.iconst 1, 1) := by decide +kernel
theorem dX5_farOf_3 : decode cX5_farOf 3 = .ok (.invokevirtual 56, 3) := by decide +kernel
theorem dX5_farOf_6 : decode cX5_farOf 6 = .ok (.bipush 16, 2) := by decide +kernel
theorem dX5_farOf_8 : decode cX5_farOf 8 = .ok (.iadd, 1) := by decide +kernel
theorem dX5_farOf_9 : decode cX5_farOf 9 = .ok (.aload_n 0, 1) := by decide +kernel
theorem dX5_farOf_10 : decode cX5_farOf 10 = .ok (.iload_n 2, 1) := by decide +kernel
theorem dX5_farOf_11 : decode cX5_farOf 11 = .ok (.iconst 1, 1) := by decide +kernel
theorem dX5_farOf_12 : decode cX5_farOf 12 = .ok (.invokevirtual 56, 3) := by decide +kernel
theorem dX5_farOf_15 : decode cX5_farOf 15 = .ok (.isub, 1) := by decide +kernel
theorem dX5_farOf_16 : decode cX5_farOf 16 = .ok (.bipush 16, 2) := by decide +kernel
theorem dX5_farOf_18 : decode cX5_farOf 18 = .ok (.irem, 1) := by decide +kernel
theorem dX5_farOf_19 : decode cX5_farOf 19 = .ok (.istore_n 3, 1) := by decide +kernel
theorem dX5_farOf_20 : decode cX5_farOf 20 = .ok (.iload_n 3, 1) := by decide +kernel
theorem dX5_farOf_21 : decode cX5_farOf 21 = .ok (.bipush 16, 2) := by decide +kernel
theorem dX5_farOf_23 : decode cX5_farOf 23 = .ok (.iload_n 3, 1) := by decide +kernel
theorem dX5_farOf_24 : decode cX5_farOf 24 = .ok (.isub, 1) := by decide +kernel
theorem dX5_farOf_25 : decode cX5_farOf 25 = .ok (.invokestatic 68, 3) := by decide +kernel
theorem dX5_farOf_28 : decode cX5_farOf 28 = .ok (.ireturn, 1) := by decide +kernel
theorem dX5_hasMet_0 : decode cX5_hasMet 0 = .ok (.aload_n 0, 1) := by decide +kernel
theorem dX5_hasMet_1 : decode cX5_hasMet 1 = .ok (.iload_n 1, 1) := by decide +kernel
theorem dX5_hasMet_2 : decode cX5_hasMet 2 = .ok (.iconst 3, 1) := by decide +kernel
theorem dX5_hasMet_3 : decode cX5_hasMet 3 = .ok (.invokevirtual 56, 3) := by decide +kernel
theorem dX5_hasMet_6 : decode cX5_hasMet 6 = .ok (.iload_n 2, 1) := by decide +kernel
theorem dX5_hasMet_7 : decode cX5_hasMet 7 = .ok (.ishr, 1) := by decide +kernel
theorem dX5_hasMet_8 : decode cX5_hasMet 8 = .ok (.iconst 1, 1) := by decide +kernel
theorem dX5_hasMet_9 : decode cX5_hasMet 9 = .ok (.iand, 1) := by decide +kernel
theorem dX5_hasMet_10 : decode cX5_hasMet 10 = .ok (.iconst 1, 1) := by decide +kernel
theorem dX5_hasMet_11 : decode cX5_hasMet 11 = .ok (.if_icmp .ne 7, 3) := by decide +kernel
theorem dX5_hasMet_14 : decode cX5_hasMet 14 = .ok (.iconst 1, 1) := by decide +kernel
theorem dX5_hasMet_15 : decode cX5_hasMet 15 = .ok (.goto 4, 3) := by decide +kernel
theorem dX5_hasMet_18 : decode cX5_hasMet 18 = .ok (.iconst 0, 1) := by decide +kernel
theorem dX5_hasMet_19 : decode cX5_hasMet 19 = .ok (.ireturn, 1) := by decide +kernel
theorem dX5_doesKnow_0 : decode cX5_doesKnow 0 = .ok (.aload_n 0, 1) := by decide +kernel
theorem dX5_doesKnow_1 : decode cX5_doesKnow 1 = .ok (.iload_n 1, 1) := by decide +kernel
theorem dX5_doesKnow_2 : decode cX5_doesKnow 2 = .ok (.iconst 4, 1) := by decide +kernel
theorem dX5_doesKnow_3 : decode cX5_doesKnow 3 = .ok (.invokevirtual 56, 3) := by decide +kernel
theorem dX5_doesKnow_6 : decode cX5_doesKnow 6 = .ok (.iload_n 2, 1) := by decide +kernel
theorem dX5_doesKnow_7 : decode cX5_doesKnow 7 = .ok (.ishr, 1) := by decide +kernel
theorem dX5_doesKnow_8 : decode cX5_doesKnow 8 = .ok (.iconst 1, 1) := by decide +kernel
theorem dX5_doesKnow_9 : decode cX5_doesKnow 9 = .ok (.iand, 1) := by decide +kernel
theorem dX5_doesKnow_10 : decode cX5_doesKnow 10 = .ok (.iconst 1, 1) := by decide +kernel
theorem dX5_doesKnow_11 : decode cX5_doesKnow 11 = .ok (.if_icmp .ne 7, 3) := by decide +kernel
theorem dX5_doesKnow_14 : decode cX5_doesKnow 14 = .ok (.iconst 1, 1) := by decide +kernel
theorem dX5_doesKnow_15 : decode cX5_doesKnow 15 = .ok (.goto 4, 3) := by decide +kernel
theorem dX5_doesKnow_18 : decode cX5_doesKnow 18 = .ok (.iconst 0, 1) := by decide +kernel
theorem dX5_doesKnow_19 : decode cX5_doesKnow 19 = .ok (.ireturn, 1) := by decide +kernel
theorem dX5_wouldSee_0 : decode cX5_wouldSee 0 = .ok (.aload_n 0, 1) := by decide +kernel
theorem dX5_wouldSee_1 : decode cX5_wouldSee 1 = .ok (.iload_n 1, 1) := by decide +kernel
theorem dX5_wouldSee_2 : decode cX5_wouldSee 2 = .ok (.iconst 5, 1) := by decide +kernel
theorem dX5_wouldSee_3 : decode cX5_wouldSee 3 = .ok (.invokevirtual 56, 3) := by decide +kernel
theorem dX5_wouldSee_6 : decode cX5_wouldSee 6 = .ok (.ifCond .ne 38, 3) := by decide +kernel
theorem dX5_wouldSee_9 : decode cX5_wouldSee 9 = .ok (.aload_n 0, 1) := by decide +kernel
theorem dX5_wouldSee_10 : decode cX5_wouldSee 10 = .ok (.iload_n 2, 1) := by decide +kernel
theorem dX5_wouldSee_11 : decode cX5_wouldSee 11 = .ok (.iconst 5, 1) := by decide +kernel
theorem dX5_wouldSee_12 : decode cX5_wouldSee 12 = .ok (.invokevirtual 56, 3) := by decide +kernel
theorem dX5_wouldSee_15 : decode cX5_wouldSee 15 = .ok (.ifCond .ne 29, 3) := by decide +kernel
theorem dX5_wouldSee_18 : decode cX5_wouldSee 18 = .ok (.aload_n 0, 1) := by decide +kernel
theorem dX5_wouldSee_19 : decode cX5_wouldSee 19 = .ok (.iload_n 1, 1) := by decide +kernel
theorem dX5_wouldSee_20 : decode cX5_wouldSee 20 = .ok (.iload_n 2, 1) := by decide +kernel
theorem dX5_wouldSee_21 : decode cX5_wouldSee 21 = .ok (.invokevirtual 71, 3) := by decide +kernel
theorem dX5_wouldSee_24 : decode cX5_wouldSee 24 = .ok (.aload_n 0, 1) := by decide +kernel
theorem dX5_wouldSee_25 : decode cX5_wouldSee 25 = .ok (.iload_n 1, 1) := by decide +kernel
theorem dX5_wouldSee_26 : decode cX5_wouldSee 26 = .ok (.invokevirtual 74, 3) := by decide +kernel
theorem dX5_wouldSee_29 : decode cX5_wouldSee 29 = .ok (.aload_n 0, 1) := by decide +kernel
theorem dX5_wouldSee_30 : decode cX5_wouldSee 30 = .ok (.iload_n 2, 1) := by decide +kernel
theorem dX5_wouldSee_31 : decode cX5_wouldSee 31 = .ok (.invokevirtual 74, 3) := by decide +kernel
theorem dX5_wouldSee_34 : decode cX5_wouldSee 34 = .ok (.invokestatic 68, 3) := by decide +kernel
theorem dX5_wouldSee_37 : decode cX5_wouldSee 37 = .ok (.if_icmp .gt 7, 3) := by decide +kernel
theorem dX5_wouldSee_40 : decode cX5_wouldSee 40 = .ok (.iconst 1, 1) := by decide +kernel
theorem dX5_wouldSee_41 : decode cX5_wouldSee 41 = .ok (.goto 4, 3) := by decide +kernel
theorem dX5_wouldSee_44 : decode cX5_wouldSee 44 = .ok (.iconst 0, 1) := by decide +kernel
theorem dX5_wouldSee_45 : decode cX5_wouldSee 45 = .ok (.ireturn, 1) := by decide +kernel
theorem dX5_meets_0 : decode cX5_meets 0 = .ok (.aload_n 0, 1) := by decide +kernel
theorem dX5_meets_1 : decode cX5_meets 1 = .ok (.iload_n 1, 1) := by decide +kernel
theorem dX5_meets_2 : decode cX5_meets 2 = .ok (.aload_n 0, 1) := by decide +kernel
theorem dX5_meets_3 : decode cX5_meets 3 = .ok (.iload_n 2, 1) := by decide +kernel
theorem dX5_meets_4 : decode cX5_meets 4 = .ok (.iconst 2, 1) := by decide +kernel
theorem dX5_meets_5 : decode cX5_meets 5 = .ok (.invokevirtual 56, 3) := by decide +kernel
theorem dX5_meets_8 : decode cX5_meets 8 = .ok (.invokevirtual 77, 3) := by decide +kernel
theorem dX5_meets_11 : decode cX5_meets 11 = .ok (.ifCond .eq 19, 3) := by decide +kernel
theorem dX5_meets_14 : decode cX5_meets 14 = .ok (.aload_n 0, 1) := by decide +kernel
theorem dX5_meets_15 : decode cX5_meets 15 = .ok (.iload_n 1, 1) := by decide +kernel
theorem dX5_meets_16 : decode cX5_meets 16 = .ok (.iconst 3, 1) := by decide +kernel
theorem dX5_meets_17 : decode cX5_meets 17 = .ok (.aload_n 0, 1) := by decide +kernel
theorem dX5_meets_18 : decode cX5_meets 18 = .ok (.iload_n 1, 1) := by decide +kernel
theorem dX5_meets_19 : decode cX5_meets 19 = .ok (.iconst 3, 1) := by decide +kernel
theorem dX5_meets_20 : decode cX5_meets 20 = .ok (.invokevirtual 56, 3) := by decide +kernel
theorem dX5_meets_23 : decode cX5_meets 23 = .ok (.iconst 1, 1) := by decide +kernel
theorem dX5_meets_24 : decode cX5_meets 24 = .ok (.iload_n 2, 1) := by decide +kernel
theorem dX5_meets_25 : decode cX5_meets 25 = .ok (.ishl, 1) := by decide +kernel
theorem dX5_meets_26 : decode cX5_meets 26 = .ok (.ior, 1) := by decide +kernel
theorem dX5_meets_27 : decode cX5_meets 27 = .ok (.invokevirtual 81, 3) := by decide +kernel
theorem dX5_meets_30 : decode cX5_meets 30 = .ok (.return_, 1) := by decide +kernel
theorem dX5_comesToKnow_0 : decode cX5_comesToKnow 0 = .ok (.aload_n 0, 1) := by decide +kernel
theorem dX5_comesToKnow_1 : decode cX5_comesToKnow 1 = .ok (.iload_n 1, 1) := by decide +kernel
theorem dX5_comesToKnow_2 : decode cX5_comesToKnow 2 = .ok (.iload_n 2, 1) := by decide +kernel
theorem dX5_comesToKnow_3 : decode cX5_comesToKnow 3 = .ok (.invokevirtual 85, 3) := by decide +kernel
theorem dX5_comesToKnow_6 : decode cX5_comesToKnow 6 = .ok (.ifCond .ne 42, 3) := by decide +kernel
theorem dX5_comesToKnow_9 : decode cX5_comesToKnow 9 = .ok (.aload_n 0, 1) := by decide +kernel
theorem dX5_comesToKnow_10 : decode cX5_comesToKnow 10 = .ok (.getfield 9, 3) := by decide +kernel
theorem dX5_comesToKnow_13 : decode cX5_comesToKnow 13 = .ok (.iconst 3, 1) := by decide +kernel
theorem dX5_comesToKnow_14 : decode cX5_comesToKnow 14 = .ok (.ldc 88, 2) := by decide +kernel
theorem dX5_comesToKnow_16 : decode cX5_comesToKnow 16 = .ok (.aload_n 0, 1) := by decide +kernel
theorem dX5_comesToKnow_17 : decode cX5_comesToKnow 17 = .ok (.getfield 9, 3) := by decide +kernel
theorem dX5_comesToKnow_20 : decode cX5_comesToKnow 20 = .ok (.iconst 3, 1) := by decide +kernel
theorem dX5_comesToKnow_21 : decode cX5_comesToKnow 21 = .ok (.iaload, 1) := by decide +kernel
theorem dX5_comesToKnow_22 : decode cX5_comesToKnow 22 = .ok (.aload_n 0, 1) := by decide +kernel
theorem dX5_comesToKnow_23 : decode cX5_comesToKnow 23 = .ok (.iload_n 1, 1) := by decide +kernel
theorem dX5_comesToKnow_24 : decode cX5_comesToKnow 24 = .ok (.invokevirtual 89, 3) := by decide +kernel
theorem dX5_comesToKnow_27 : decode cX5_comesToKnow 27 = .ok (.iadd, 1) := by decide +kernel
theorem dX5_comesToKnow_28 : decode cX5_comesToKnow 28 = .ok (.invokestatic 68, 3) := by decide +kernel
theorem dX5_comesToKnow_31 : decode cX5_comesToKnow 31 = .ok (.iastore, 1) := by decide +kernel
theorem dX5_comesToKnow_32 : decode cX5_comesToKnow 32 = .ok (.aload_n 0, 1) := by decide +kernel
theorem dX5_comesToKnow_33 : decode cX5_comesToKnow 33 = .ok (.iload_n 1, 1) := by decide +kernel
theorem dX5_comesToKnow_34 : decode cX5_comesToKnow 34 = .ok (.iconst 4, 1) := by decide +kernel
theorem dX5_comesToKnow_35 : decode cX5_comesToKnow 35 = .ok (.aload_n 0, 1) := by decide +kernel
theorem dX5_comesToKnow_36 : decode cX5_comesToKnow 36 = .ok (.iload_n 1, 1) := by decide +kernel
theorem dX5_comesToKnow_37 : decode cX5_comesToKnow 37 = .ok (.iconst 4, 1) := by decide +kernel
theorem dX5_comesToKnow_38 : decode cX5_comesToKnow 38 = .ok (.invokevirtual 56, 3) := by decide +kernel
theorem dX5_comesToKnow_41 : decode cX5_comesToKnow 41 = .ok (.iconst 1, 1) := by decide +kernel
theorem dX5_comesToKnow_42 : decode cX5_comesToKnow 42 = .ok (.iload_n 2, 1) := by decide +kernel
theorem dX5_comesToKnow_43 : decode cX5_comesToKnow 43 = .ok (.ishl, 1) := by decide +kernel
theorem dX5_comesToKnow_44 : decode cX5_comesToKnow 44 = .ok (.ior, 1) := by decide +kernel
theorem dX5_comesToKnow_45 : decode cX5_comesToKnow 45 = .ok (.invokevirtual 81, 3) := by decide +kernel
theorem dX5_comesToKnow_48 : decode cX5_comesToKnow 48 = .ok (.return_, 1) := by decide +kernel
theorem dX5_passesBy_0 : decode cX5_passesBy 0 = .ok (.aload_n 0, 1) := by decide +kernel
theorem dX5_passesBy_1 : decode cX5_passesBy 1 = .ok (.iload_n 1, 1) := by decide +kernel
theorem dX5_passesBy_2 : decode cX5_passesBy 2 = .ok (.bipush 6, 2) := by decide +kernel
theorem dX5_passesBy_4 : decode cX5_passesBy 4 = .ok (.sipush 9999, 3) := by decide +kernel
theorem dX5_passesBy_7 : decode cX5_passesBy 7 = .ok (.aload_n 0, 1) := by decide +kernel
theorem dX5_passesBy_8 : decode cX5_passesBy 8 = .ok (.iload_n 1, 1) := by decide +kernel
theorem dX5_passesBy_9 : decode cX5_passesBy 9 = .ok (.bipush 6, 2) := by decide +kernel
theorem dX5_passesBy_11 : decode cX5_passesBy 11 = .ok (.invokevirtual 56, 3) := by decide +kernel
theorem dX5_passesBy_14 : decode cX5_passesBy 14 = .ok (.iconst 1, 1) := by decide +kernel
theorem dX5_passesBy_15 : decode cX5_passesBy 15 = .ok (.iadd, 1) := by decide +kernel
theorem dX5_passesBy_16 : decode cX5_passesBy 16 = .ok (.invokestatic 68, 3) := by decide +kernel
theorem dX5_passesBy_19 : decode cX5_passesBy 19 = .ok (.invokevirtual 81, 3) := by decide +kernel
theorem dX5_passesBy_22 : decode cX5_passesBy 22 = .ok (.return_, 1) := by decide +kernel
theorem dX5_barefaced_0 : decode cX5_barefaced 0 = .ok (.aload_n 0, 1) := by decide +kernel
theorem dX5_barefaced_1 : decode cX5_barefaced 1 = .ok (.iload_n 1, 1) := by decide +kernel
theorem dX5_barefaced_2 : decode cX5_barefaced 2 = .ok (.iload_n 2, 1) := by decide +kernel
theorem dX5_barefaced_3 : decode cX5_barefaced 3 = .ok (.invokevirtual 92, 3) := by decide +kernel
theorem dX5_barefaced_6 : decode cX5_barefaced 6 = .ok (.ifCond .ne 4, 3) := by decide +kernel
theorem dX5_barefaced_9 : decode cX5_barefaced 9 = .ok (.return_, 1) := by decide +kernel
theorem dX5_barefaced_10 : decode cX5_barefaced 10 = .ok (.aload_n 0, 1) := by decide +kernel
theorem dX5_barefaced_11 : decode cX5_barefaced 11 = .ok (.iload_n 1, 1) := by decide +kernel
theorem dX5_barefaced_12 : decode cX5_barefaced 12 = .ok (.iload_n 2, 1) := by decide +kernel
theorem dX5_barefaced_13 : decode cX5_barefaced 13 = .ok (.invokevirtual 95, 3) := by decide +kernel
theorem dX5_barefaced_16 : decode cX5_barefaced 16 = .ok (.ifCond .eq 27, 3) := by decide +kernel
theorem dX5_barefaced_19 : decode cX5_barefaced 19 = .ok (.aload_n 0, 1) := by decide +kernel
theorem dX5_barefaced_20 : decode cX5_barefaced 20 = .ok (.iload_n 2, 1) := by decide +kernel
theorem dX5_barefaced_21 : decode cX5_barefaced 21 = .ok (.iload_n 1, 1) := by decide +kernel
theorem dX5_barefaced_22 : decode cX5_barefaced 22 = .ok (.invokevirtual 95, 3) := by decide +kernel
theorem dX5_barefaced_25 : decode cX5_barefaced 25 = .ok (.ifCond .eq 18, 3) := by decide +kernel
theorem dX5_barefaced_28 : decode cX5_barefaced 28 = .ok (.aload_n 0, 1) := by decide +kernel
theorem dX5_barefaced_29 : decode cX5_barefaced 29 = .ok (.iload_n 1, 1) := by decide +kernel
theorem dX5_barefaced_30 : decode cX5_barefaced 30 = .ok (.iload_n 2, 1) := by decide +kernel
theorem dX5_barefaced_31 : decode cX5_barefaced 31 = .ok (.invokevirtual 98, 3) := by decide +kernel
theorem dX5_barefaced_34 : decode cX5_barefaced 34 = .ok (.aload_n 0, 1) := by decide +kernel
theorem dX5_barefaced_35 : decode cX5_barefaced 35 = .ok (.iload_n 2, 1) := by decide +kernel
theorem dX5_barefaced_36 : decode cX5_barefaced 36 = .ok (.iload_n 1, 1) := by decide +kernel
theorem dX5_barefaced_37 : decode cX5_barefaced 37 = .ok (.invokevirtual 98, 3) := by decide +kernel
theorem dX5_barefaced_40 : decode cX5_barefaced 40 = .ok (.goto 13, 3) := by decide +kernel
theorem dX5_barefaced_43 : decode cX5_barefaced 43 = .ok (.aload_n 0, 1) := by decide +kernel
theorem dX5_barefaced_44 : decode cX5_barefaced 44 = .ok (.iload_n 1, 1) := by decide +kernel
theorem dX5_barefaced_45 : decode cX5_barefaced 45 = .ok (.invokevirtual 102, 3) := by decide +kernel
theorem dX5_barefaced_48 : decode cX5_barefaced 48 = .ok (.aload_n 0, 1) := by decide +kernel
theorem dX5_barefaced_49 : decode cX5_barefaced 49 = .ok (.iload_n 2, 1) := by decide +kernel
theorem dX5_barefaced_50 : decode cX5_barefaced 50 = .ok (.invokevirtual 102, 3) := by decide +kernel
theorem dX5_barefaced_53 : decode cX5_barefaced 53 = .ok (.return_, 1) := by decide +kernel
theorem dX5_goesOn_0 : decode cX5_goesOn 0 = .ok (.aload_n 0, 1) := by decide +kernel
theorem dX5_goesOn_1 : decode cX5_goesOn 1 = .ok (.iload_n 1, 1) := by decide +kernel
theorem dX5_goesOn_2 : decode cX5_goesOn 2 = .ok (.iconst 1, 1) := by decide +kernel
theorem dX5_goesOn_3 : decode cX5_goesOn 3 = .ok (.aload_n 0, 1) := by decide +kernel
theorem dX5_goesOn_4 : decode cX5_goesOn 4 = .ok (.iload_n 1, 1) := by decide +kernel
theorem dX5_goesOn_5 : decode cX5_goesOn 5 = .ok (.iconst 1, 1) := by decide +kernel
theorem dX5_goesOn_6 : decode cX5_goesOn 6 = .ok (.invokevirtual 56, 3) := by decide +kernel
theorem dX5_goesOn_9 : decode cX5_goesOn 9 = .ok (.aload_n 0, 1) := by decide +kernel
theorem dX5_goesOn_10 : decode cX5_goesOn 10 = .ok (.iload_n 1, 1) := by decide +kernel
theorem dX5_goesOn_11 : decode cX5_goesOn 11 = .ok (.invokevirtual 106, 3) := by decide +kernel
theorem dX5_goesOn_14 : decode cX5_goesOn 14 = .ok (.iadd, 1) := by decide +kernel
theorem dX5_goesOn_15 : decode cX5_goesOn 15 = .ok (.bipush 16, 2) := by decide +kernel
theorem dX5_goesOn_17 : decode cX5_goesOn 17 = .ok (.irem, 1) := by decide +kernel
theorem dX5_goesOn_18 : decode cX5_goesOn 18 = .ok (.invokevirtual 81, 3) := by decide +kernel
theorem dX5_goesOn_21 : decode cX5_goesOn 21 = .ok (.aload_n 0, 1) := by decide +kernel
theorem dX5_goesOn_22 : decode cX5_goesOn 22 = .ok (.iload_n 1, 1) := by decide +kernel
theorem dX5_goesOn_23 : decode cX5_goesOn 23 = .ok (.iconst 2, 1) := by decide +kernel
theorem dX5_goesOn_24 : decode cX5_goesOn 24 = .ok (.iload_n 2, 1) := by decide +kernel
theorem dX5_goesOn_25 : decode cX5_goesOn 25 = .ok (.ifCond .eq 12, 3) := by decide +kernel
theorem dX5_goesOn_28 : decode cX5_goesOn 28 = .ok (.aload_n 0, 1) := by decide +kernel
theorem dX5_goesOn_29 : decode cX5_goesOn 29 = .ok (.iload_n 1, 1) := by decide +kernel
theorem dX5_goesOn_30 : decode cX5_goesOn 30 = .ok (.iconst 2, 1) := by decide +kernel
theorem dX5_goesOn_31 : decode cX5_goesOn 31 = .ok (.invokevirtual 56, 3) := by decide +kernel
theorem dX5_goesOn_34 : decode cX5_goesOn 34 = .ok (.goto 18, 3) := by decide +kernel
theorem dX5_goesOn_37 : decode cX5_goesOn 37 = .ok (.aload_n 0, 1) := by decide +kernel
theorem dX5_goesOn_38 : decode cX5_goesOn 38 = .ok (.iload_n 1, 1) := by decide +kernel
theorem dX5_goesOn_39 : decode cX5_goesOn 39 = .ok (.iconst 2, 1) := by decide +kernel
theorem dX5_goesOn_40 : decode cX5_goesOn 40 = .ok (.invokevirtual 56, 3) := by decide +kernel
theorem dX5_goesOn_43 : decode cX5_goesOn 43 = .ok (.aload_n 0, 1) := by decide +kernel
theorem dX5_goesOn_44 : decode cX5_goesOn 44 = .ok (.iload_n 1, 1) := by decide +kernel
theorem dX5_goesOn_45 : decode cX5_goesOn 45 = .ok (.invokevirtual 109, 3) := by decide +kernel
theorem dX5_goesOn_48 : decode cX5_goesOn 48 = .ok (.iadd, 1) := by decide +kernel
theorem dX5_goesOn_49 : decode cX5_goesOn 49 = .ok (.bipush 12, 2) := by decide +kernel
theorem dX5_goesOn_51 : decode cX5_goesOn 51 = .ok (.irem, 1) := by decide +kernel
theorem dX5_goesOn_52 : decode cX5_goesOn 52 = .ok (.invokevirtual 81, 3) := by decide +kernel
theorem dX5_goesOn_55 : decode cX5_goesOn 55 = .ok (.return_, 1) := by decide +kernel
theorem dX5_day_0 : decode cX5_day 0 = .ok (.aload_n 0, 1) := by decide +kernel
theorem dX5_day_1 : decode cX5_day 1 = .ok (.invokevirtual 60, 3) := by decide +kernel
theorem dX5_day_4 : decode cX5_day 4 = .ok (.istore_n 1, 1) := by decide +kernel
theorem dX5_day_5 : decode cX5_day 5 = .ok (.iconst 0, 1) := by decide +kernel
theorem dX5_day_6 : decode cX5_day 6 = .ok (.istore_n 2, 1) := by decide +kernel
theorem dX5_day_7 : decode cX5_day 7 = .ok (.iload_n 2, 1) := by decide +kernel
theorem dX5_day_8 : decode cX5_day 8 = .ok (.aload_n 0, 1) := by decide +kernel
theorem dX5_day_9 : decode cX5_day 9 = .ok (.getfield 9, 3) := by decide +kernel
theorem dX5_day_12 : decode cX5_day 12 = .ok (.iconst 1, 1) := by decide +kernel
theorem dX5_day_13 : decode cX5_day 13 = .ok (.iaload, 1) := by decide +kernel
theorem dX5_day_14 : decode cX5_day 14 = .ok (.if_icmp .ge 15, 3) := by decide +kernel
theorem dX5_day_17 : decode cX5_day 17 = .ok (.aload_n 0, 1) := by decide +kernel
theorem dX5_day_18 : decode cX5_day 18 = .ok (.iload_n 2, 1) := by decide +kernel
theorem dX5_day_19 : decode cX5_day 19 = .ok (.iload_n 1, 1) := by decide +kernel
theorem dX5_day_20 : decode cX5_day 20 = .ok (.invokevirtual 112, 3) := by decide +kernel
theorem dX5_day_23 : decode cX5_day 23 = .ok (.iinc 2 1, 3) := by decide +kernel
theorem dX5_day_26 : decode cX5_day 26 = .ok (.goto (-19), 3) := by decide +kernel
theorem dX5_day_29 : decode cX5_day 29 = .ok (.iconst 0, 1) := by decide +kernel
theorem dX5_day_30 : decode cX5_day 30 = .ok (.istore_n 2, 1) := by decide +kernel
theorem dX5_day_31 : decode cX5_day 31 = .ok (.iload_n 2, 1) := by decide +kernel
theorem dX5_day_32 : decode cX5_day 32 = .ok (.aload_n 0, 1) := by decide +kernel
theorem dX5_day_33 : decode cX5_day 33 = .ok (.getfield 9, 3) := by decide +kernel
theorem dX5_day_36 : decode cX5_day 36 = .ok (.iconst 1, 1) := by decide +kernel
theorem dX5_day_37 : decode cX5_day 37 = .ok (.iaload, 1) := by decide +kernel
theorem dX5_day_38 : decode cX5_day 38 = .ok (.if_icmp .ge 69, 3) := by decide +kernel
theorem dX5_day_41 : decode cX5_day 41 = .ok (.iload_n 2, 1) := by decide +kernel
theorem dX5_day_42 : decode cX5_day 42 = .ok (.iconst 1, 1) := by decide +kernel
theorem dX5_day_43 : decode cX5_day 43 = .ok (.iadd, 1) := by decide +kernel
theorem dX5_day_44 : decode cX5_day 44 = .ok (.istore_n 3, 1) := by decide +kernel
theorem dX5_day_45 : decode cX5_day 45 = .ok (.iload_n 3, 1) := by decide +kernel
theorem dX5_day_46 : decode cX5_day 46 = .ok (.aload_n 0, 1) := by decide +kernel
theorem dX5_day_47 : decode cX5_day 47 = .ok (.getfield 9, 3) := by decide +kernel
theorem dX5_day_50 : decode cX5_day 50 = .ok (.iconst 1, 1) := by decide +kernel
theorem dX5_day_51 : decode cX5_day 51 = .ok (.iaload, 1) := by decide +kernel
theorem dX5_day_52 : decode cX5_day 52 = .ok (.if_icmp .ge 49, 3) := by decide +kernel
theorem dX5_day_55 : decode cX5_day 55 = .ok (.iload_n 1, 1) := by decide +kernel
theorem dX5_day_56 : decode cX5_day 56 = .ok (.ifCond .eq 12, 3) := by decide +kernel
theorem dX5_day_59 : decode cX5_day 59 = .ok (.aload_n 0, 1) := by decide +kernel
theorem dX5_day_60 : decode cX5_day 60 = .ok (.iload_n 2, 1) := by decide +kernel
theorem dX5_day_61 : decode cX5_day 61 = .ok (.iload_n 3, 1) := by decide +kernel
theorem dX5_day_62 : decode cX5_day 62 = .ok (.invokevirtual 116, 3) := by decide +kernel
theorem dX5_day_65 : decode cX5_day 65 = .ok (.goto 30, 3) := by decide +kernel
theorem dX5_day_68 : decode cX5_day 68 = .ok (.aload_n 0, 1) := by decide +kernel
theorem dX5_day_69 : decode cX5_day 69 = .ok (.iload_n 2, 1) := by decide +kernel
theorem dX5_day_70 : decode cX5_day 70 = .ok (.iconst 1, 1) := by decide +kernel
theorem dX5_day_71 : decode cX5_day 71 = .ok (.invokevirtual 56, 3) := by decide +kernel
theorem dX5_day_74 : decode cX5_day 74 = .ok (.aload_n 0, 1) := by decide +kernel
theorem dX5_day_75 : decode cX5_day 75 = .ok (.iload_n 3, 1) := by decide +kernel
theorem dX5_day_76 : decode cX5_day 76 = .ok (.iconst 1, 1) := by decide +kernel
theorem dX5_day_77 : decode cX5_day 77 = .ok (.invokevirtual 56, 3) := by decide +kernel
theorem dX5_day_80 : decode cX5_day 80 = .ok (.if_icmp .ne 15, 3) := by decide +kernel
theorem dX5_day_83 : decode cX5_day 83 = .ok (.aload_n 0, 1) := by decide +kernel
theorem dX5_day_84 : decode cX5_day 84 = .ok (.iload_n 2, 1) := by decide +kernel
theorem dX5_day_85 : decode cX5_day 85 = .ok (.iload_n 3, 1) := by decide +kernel
theorem dX5_day_86 : decode cX5_day 86 = .ok (.invokevirtual 119, 3) := by decide +kernel
theorem dX5_day_89 : decode cX5_day 89 = .ok (.aload_n 0, 1) := by decide +kernel
theorem dX5_day_90 : decode cX5_day 90 = .ok (.iload_n 3, 1) := by decide +kernel
theorem dX5_day_91 : decode cX5_day 91 = .ok (.iload_n 2, 1) := by decide +kernel
theorem dX5_day_92 : decode cX5_day 92 = .ok (.invokevirtual 119, 3) := by decide +kernel
theorem dX5_day_95 : decode cX5_day 95 = .ok (.iinc 3 1, 3) := by decide +kernel
theorem dX5_day_98 : decode cX5_day 98 = .ok (.goto (-53), 3) := by decide +kernel
theorem dX5_day_101 : decode cX5_day 101 = .ok (.iinc 2 1, 3) := by decide +kernel
theorem dX5_day_104 : decode cX5_day 104 = .ok (.goto (-73), 3) := by decide +kernel
theorem dX5_day_107 : decode cX5_day 107 = .ok (.aload_n 0, 1) := by decide +kernel
theorem dX5_day_108 : decode cX5_day 108 = .ok (.getfield 9, 3) := by decide +kernel
theorem dX5_day_111 : decode cX5_day 111 = .ok (.iconst 0, 1) := by decide +kernel
theorem dX5_day_112 : decode cX5_day 112 = .ok (.ldc 88, 2) := by decide +kernel
theorem dX5_day_114 : decode cX5_day 114 = .ok (.aload_n 0, 1) := by decide +kernel
theorem dX5_day_115 : decode cX5_day 115 = .ok (.getfield 9, 3) := by decide +kernel
theorem dX5_day_118 : decode cX5_day 118 = .ok (.iconst 0, 1) := by decide +kernel
theorem dX5_day_119 : decode cX5_day 119 = .ok (.iaload, 1) := by decide +kernel
theorem dX5_day_120 : decode cX5_day 120 = .ok (.iconst 1, 1) := by decide +kernel
theorem dX5_day_121 : decode cX5_day 121 = .ok (.iadd, 1) := by decide +kernel
theorem dX5_day_122 : decode cX5_day 122 = .ok (.invokestatic 68, 3) := by decide +kernel
theorem dX5_day_125 : decode cX5_day 125 = .ok (.iastore, 1) := by decide +kernel
theorem dX5_day_126 : decode cX5_day 126 = .ok (.return_, 1) := by decide +kernel
theorem dX5_goes_0 : decode cX5_goes 0 = .ok (.iconst 0, 1) := by decide +kernel
theorem dX5_goes_1 : decode cX5_goes 1 = .ok (.istore_n 2, 1) := by decide +kernel
theorem dX5_goes_2 : decode cX5_goes 2 = .ok (.iload_n 2, 1) := by decide +kernel
theorem dX5_goes_3 : decode cX5_goes 3 = .ok (.iload_n 1, 1) := by decide +kernel
theorem dX5_goes_4 : decode cX5_goes 4 = .ok (.if_icmp .ge 13, 3) := by decide +kernel
theorem dX5_goes_7 : decode cX5_goes 7 = .ok (.aload_n 0, 1) := by decide +kernel
theorem dX5_goes_8 : decode cX5_goes 8 = .ok (.invokevirtual 122, 3) := by decide +kernel
theorem dX5_goes_11 : decode cX5_goes 11 = .ok (.iinc 2 1, 3) := by decide +kernel
theorem dX5_goes_14 : decode cX5_goes 14 = .ok (.goto (-12), 3) := by decide +kernel
theorem dX5_goes_17 : decode cX5_goes 17 = .ok (.return_, 1) := by decide +kernel
theorem dX5_adds_0 : decode cX5_adds 0 = .ok (.aload_n 0, 1) := by decide +kernel
theorem dX5_adds_1 : decode cX5_adds 1 = .ok (.getfield 9, 3) := by decide +kernel
theorem dX5_adds_4 : decode cX5_adds 4 = .ok (.iconst 1, 1) := by decide +kernel
theorem dX5_adds_5 : decode cX5_adds 5 = .ok (.iaload, 1) := by decide +kernel
theorem dX5_adds_6 : decode cX5_adds 6 = .ok (.istore_n 2, 1) := by decide +kernel
theorem dX5_adds_7 : decode cX5_adds 7 = .ok (.iconst 0, 1) := by decide +kernel
theorem dX5_adds_8 : decode cX5_adds 8 = .ok (.istore_n 3, 1) := by decide +kernel
theorem dX5_adds_9 : decode cX5_adds 9 = .ok (.iload_n 3, 1) := by decide +kernel
theorem dX5_adds_10 : decode cX5_adds 10 = .ok (.bipush 7, 2) := by decide +kernel
theorem dX5_adds_12 : decode cX5_adds 12 = .ok (.if_icmp .ge 16, 3) := by decide +kernel
theorem dX5_adds_15 : decode cX5_adds 15 = .ok (.aload_n 0, 1) := by decide +kernel
theorem dX5_adds_16 : decode cX5_adds 16 = .ok (.iload_n 2, 1) := by decide +kernel
theorem dX5_adds_17 : decode cX5_adds 17 = .ok (.iload_n 3, 1) := by decide +kernel
theorem dX5_adds_18 : decode cX5_adds 18 = .ok (.iconst 0, 1) := by decide +kernel
theorem dX5_adds_19 : decode cX5_adds 19 = .ok (.invokevirtual 81, 3) := by decide +kernel
theorem dX5_adds_22 : decode cX5_adds 22 = .ok (.iinc 3 1, 3) := by decide +kernel
theorem dX5_adds_25 : decode cX5_adds 25 = .ok (.goto (-16), 3) := by decide +kernel
theorem dX5_adds_28 : decode cX5_adds 28 = .ok (.aload_n 0, 1) := by decide +kernel
theorem dX5_adds_29 : decode cX5_adds 29 = .ok (.iload_n 2, 1) := by decide +kernel
theorem dX5_adds_30 : decode cX5_adds 30 = .ok (.iconst 0, 1) := by decide +kernel
theorem dX5_adds_31 : decode cX5_adds 31 = .ok (.iload_n 1, 1) := by decide +kernel
theorem dX5_adds_32 : decode cX5_adds 32 = .ok (.invokevirtual 81, 3) := by decide +kernel
theorem dX5_adds_35 : decode cX5_adds 35 = .ok (.aload_n 0, 1) := by decide +kernel
theorem dX5_adds_36 : decode cX5_adds 36 = .ok (.getfield 9, 3) := by decide +kernel
theorem dX5_adds_39 : decode cX5_adds 39 = .ok (.iconst 1, 1) := by decide +kernel
theorem dX5_adds_40 : decode cX5_adds 40 = .ok (.dup2, 1) := by decide +kernel
theorem dX5_adds_41 : decode cX5_adds 41 = .ok (.iaload, 1) := by decide +kernel
theorem dX5_adds_42 : decode cX5_adds 42 = .ok (.iconst 1, 1) := by decide +kernel
theorem dX5_adds_43 : decode cX5_adds 43 = .ok (.iadd, 1) := by decide +kernel
theorem dX5_adds_44 : decode cX5_adds 44 = .ok (.iastore, 1) := by decide +kernel
theorem dX5_adds_45 : decode cX5_adds 45 = .ok (.return_, 1) := by decide +kernel
theorem dX5_person_0 : decode cX5_person 0 = .ok (.iload_n 1, 1) := by decide +kernel
theorem dX5_person_1 : decode cX5_person 1 = .ok (.iconst 0, 1) := by decide +kernel
theorem dX5_person_2 : decode cX5_person 2 = .ok (.bipush 6, 2) := by decide +kernel
theorem dX5_person_4 : decode cX5_person 4 = .ok (.invokestatic 48, 3) := by decide +kernel
theorem dX5_person_7 : decode cX5_person 7 = .ok (.ifCond .eq 10, 3) := by decide +kernel
theorem dX5_person_10 : decode cX5_person 10 = .ok (.iload_n 2, 1) := by decide +kernel
theorem dX5_person_11 : decode cX5_person 11 = .ok (.invokestatic 125, 3) := by decide +kernel
theorem dX5_person_14 : decode cX5_person 14 = .ok (.ifCond .ne 9, 3) := by decide +kernel
theorem dX5_person_17 : decode cX5_person 17 = .ok (.aload_n 0, 1) := by decide +kernel
theorem dX5_person_18 : decode cX5_person 18 = .ok (.iconst 0, 1) := by decide +kernel
theorem dX5_person_19 : decode cX5_person 19 = .ok (.invokevirtual 128, 3) := by decide +kernel
theorem dX5_person_22 : decode cX5_person 22 = .ok (.ireturn, 1) := by decide +kernel
theorem dX5_person_23 : decode cX5_person 23 = .ok (.aload_n 0, 1) := by decide +kernel
theorem dX5_person_24 : decode cX5_person 24 = .ok (.getfield 9, 3) := by decide +kernel
theorem dX5_person_27 : decode cX5_person 27 = .ok (.iconst 1, 1) := by decide +kernel
theorem dX5_person_28 : decode cX5_person 28 = .ok (.iaload, 1) := by decide +kernel
theorem dX5_person_29 : decode cX5_person 29 = .ok (.bipush 8, 2) := by decide +kernel
theorem dX5_person_31 : decode cX5_person 31 = .ok (.if_icmp .ne 9, 3) := by decide +kernel
theorem dX5_person_34 : decode cX5_person 34 = .ok (.aload_n 0, 1) := by decide +kernel
theorem dX5_person_35 : decode cX5_person 35 = .ok (.iconst 1, 1) := by decide +kernel
theorem dX5_person_36 : decode cX5_person 36 = .ok (.invokevirtual 128, 3) := by decide +kernel
theorem dX5_person_39 : decode cX5_person 39 = .ok (.ireturn, 1) := by decide +kernel
theorem dX5_person_40 : decode cX5_person 40 = .ok (.aload_n 0, 1) := by decide +kernel
theorem dX5_person_41 : decode cX5_person 41 = .ok (.iload_n 1, 1) := by decide +kernel
theorem dX5_person_42 : decode cX5_person 42 = .ok (.invokevirtual 131, 3) := by decide +kernel
theorem dX5_person_45 : decode cX5_person 45 = .ok (.aload_n 0, 1) := by decide +kernel
theorem dX5_person_46 : decode cX5_person 46 = .ok (.aload_n 0, 1) := by decide +kernel
theorem dX5_person_47 : decode cX5_person 47 = .ok (.getfield 9, 3) := by decide +kernel
theorem dX5_person_50 : decode cX5_person 50 = .ok (.iconst 1, 1) := by decide +kernel
theorem dX5_person_51 : decode cX5_person 51 = .ok (.iaload, 1) := by decide +kernel
theorem dX5_person_52 : decode cX5_person 52 = .ok (.iconst 1, 1) := by decide +kernel
theorem dX5_person_53 : decode cX5_person 53 = .ok (.isub, 1) := by decide +kernel
theorem dX5_person_54 : decode cX5_person 54 = .ok (.iconst 1, 1) := by decide +kernel
theorem dX5_person_55 : decode cX5_person 55 = .ok (.iload_n 2, 1) := by decide +kernel
theorem dX5_person_56 : decode cX5_person 56 = .ok (.invokevirtual 81, 3) := by decide +kernel
theorem dX5_person_59 : decode cX5_person 59 = .ok (.aload_n 0, 1) := by decide +kernel
theorem dX5_person_60 : decode cX5_person 60 = .ok (.getfield 9, 3) := by decide +kernel
theorem dX5_person_63 : decode cX5_person 63 = .ok (.iconst 1, 1) := by decide +kernel
theorem dX5_person_64 : decode cX5_person 64 = .ok (.iaload, 1) := by decide +kernel
theorem dX5_person_65 : decode cX5_person 65 = .ok (.iconst 1, 1) := by decide +kernel
theorem dX5_person_66 : decode cX5_person 66 = .ok (.isub, 1) := by decide +kernel
theorem dX5_person_67 : decode cX5_person 67 = .ok (.ireturn, 1) := by decide +kernel
theorem dX5_of_0 : decode cX5_of 0 = .ok (.aload_n 0, 1) := by decide +kernel
theorem dX5_of_1 : decode cX5_of 1 = .ok (.iload_n 1, 1) := by decide +kernel
theorem dX5_of_2 : decode cX5_of 2 = .ok (.invokevirtual 52, 3) := by decide +kernel
theorem dX5_of_5 : decode cX5_of 5 = .ok (.ifCond .eq 13, 3) := by decide +kernel
theorem dX5_of_8 : decode cX5_of 8 = .ok (.iload_n 2, 1) := by decide +kernel
theorem dX5_of_9 : decode cX5_of 9 = .ok (.iconst 0, 1) := by decide +kernel
theorem dX5_of_10 : decode cX5_of 10 = .ok (.bipush 10, 2) := by decide +kernel
theorem dX5_of_12 : decode cX5_of 12 = .ok (.invokestatic 48, 3) := by decide +kernel
theorem dX5_of_15 : decode cX5_of 15 = .ok (.ifCond .ne 9, 3) := by decide +kernel
theorem dX5_of_18 : decode cX5_of 18 = .ok (.aload_n 0, 1) := by decide +kernel
theorem dX5_of_19 : decode cX5_of 19 = .ok (.iconst 0, 1) := by decide +kernel
theorem dX5_of_20 : decode cX5_of 20 = .ok (.invokevirtual 128, 3) := by decide +kernel
theorem dX5_of_23 : decode cX5_of 23 = .ok (.ireturn, 1) := by decide +kernel
theorem dX5_of_24 : decode cX5_of 24 = .ok (.iload_n 2, 1) := by decide +kernel
theorem dX5_of_25 : decode cX5_of 25 = .ok (.tableswitch 55 7 10 #[31, 37, 43, 49], 31) := by decide +kernel
theorem dX5_of_56 : decode cX5_of 56 = .ok (.aload_n 0, 1) := by decide +kernel
theorem dX5_of_57 : decode cX5_of 57 = .ok (.iload_n 1, 1) := by decide +kernel
theorem dX5_of_58 : decode cX5_of 58 = .ok (.invokevirtual 106, 3) := by decide +kernel
theorem dX5_of_61 : decode cX5_of 61 = .ok (.ireturn, 1) := by decide +kernel
theorem dX5_of_62 : decode cX5_of 62 = .ok (.aload_n 0, 1) := by decide +kernel
theorem dX5_of_63 : decode cX5_of 63 = .ok (.iload_n 1, 1) := by decide +kernel
theorem dX5_of_64 : decode cX5_of 64 = .ok (.invokevirtual 109, 3) := by decide +kernel
theorem dX5_of_67 : decode cX5_of 67 = .ok (.ireturn, 1) := by decide +kernel
theorem dX5_of_68 : decode cX5_of 68 = .ok (.aload_n 0, 1) := by decide +kernel
theorem dX5_of_69 : decode cX5_of 69 = .ok (.iload_n 1, 1) := by decide +kernel
theorem dX5_of_70 : decode cX5_of 70 = .ok (.invokevirtual 74, 3) := by decide +kernel
theorem dX5_of_73 : decode cX5_of 73 = .ok (.ireturn, 1) := by decide +kernel
theorem dX5_of_74 : decode cX5_of 74 = .ok (.aload_n 0, 1) := by decide +kernel
theorem dX5_of_75 : decode cX5_of 75 = .ok (.iload_n 1, 1) := by decide +kernel
theorem dX5_of_76 : decode cX5_of 76 = .ok (.invokevirtual 89, 3) := by decide +kernel
theorem dX5_of_79 : decode cX5_of 79 = .ok (.ireturn, 1) := by decide +kernel
theorem dX5_of_80 : decode cX5_of 80 = .ok (.aload_n 0, 1) := by decide +kernel
theorem dX5_of_81 : decode cX5_of 81 = .ok (.iload_n 1, 1) := by decide +kernel
theorem dX5_of_82 : decode cX5_of 82 = .ok (.iload_n 2, 1) := by decide +kernel
theorem dX5_of_83 : decode cX5_of 83 = .ok (.invokevirtual 56, 3) := by decide +kernel
theorem dX5_of_86 : decode cX5_of 86 = .ok (.ireturn, 1) := by decide +kernel
theorem dX5_canBe_0 : decode cX5_canBe 0 = .ok (.iload_n 2, 1) := by decide +kernel
theorem dX5_canBe_1 : decode cX5_canBe 1 = .ok (.tableswitch 77 0 6 #[43, 51, 56, 77, 77, 61, 68], 43) := by decide +kernel
theorem dX5_canBe_44 : decode cX5_canBe 44 = .ok (.iload_n 3, 1) := by decide +kernel
theorem dX5_canBe_45 : decode cX5_canBe 45 = .ok (.iconst 0, 1) := by decide +kernel
theorem dX5_canBe_46 : decode cX5_canBe 46 = .ok (.bipush 6, 2) := by decide +kernel
theorem dX5_canBe_48 : decode cX5_canBe 48 = .ok (.invokestatic 48, 3) := by decide +kernel
theorem dX5_canBe_51 : decode cX5_canBe 51 = .ok (.ireturn, 1) := by decide +kernel
theorem dX5_canBe_52 : decode cX5_canBe 52 = .ok (.iload_n 3, 1) := by decide +kernel
theorem dX5_canBe_53 : decode cX5_canBe 53 = .ok (.invokestatic 125, 3) := by decide +kernel
theorem dX5_canBe_56 : decode cX5_canBe 56 = .ok (.ireturn, 1) := by decide +kernel
theorem dX5_canBe_57 : decode cX5_canBe 57 = .ok (.iload_n 3, 1) := by decide +kernel
theorem dX5_canBe_58 : decode cX5_canBe 58 = .ok (.invokestatic 134, 3) := by decide +kernel
theorem dX5_canBe_61 : decode cX5_canBe 61 = .ok (.ireturn, 1) := by decide +kernel
theorem dX5_canBe_62 : decode cX5_canBe 62 = .ok (.iload_n 3, 1) := by decide +kernel
theorem dX5_canBe_63 : decode cX5_canBe 63 = .ok (.iconst 0, 1) := by decide +kernel
theorem dX5_canBe_64 : decode cX5_canBe 64 = .ok (.iconst 1, 1) := by decide +kernel
theorem dX5_canBe_65 : decode cX5_canBe 65 = .ok (.invokestatic 48, 3) := by decide +kernel
theorem dX5_canBe_68 : decode cX5_canBe 68 = .ok (.ireturn, 1) := by decide +kernel
theorem dX5_canBe_69 : decode cX5_canBe 69 = .ok (.iload_n 3, 1) := by decide +kernel
theorem dX5_canBe_70 : decode cX5_canBe 70 = .ok (.iconst 0, 1) := by decide +kernel
theorem dX5_canBe_71 : decode cX5_canBe 71 = .ok (.sipush 9999, 3) := by decide +kernel
theorem dX5_canBe_74 : decode cX5_canBe 74 = .ok (.invokestatic 48, 3) := by decide +kernel
theorem dX5_canBe_77 : decode cX5_canBe 77 = .ok (.ireturn, 1) := by decide +kernel
theorem dX5_canBe_78 : decode cX5_canBe 78 = .ok (.iload_n 3, 1) := by decide +kernel
theorem dX5_canBe_79 : decode cX5_canBe 79 = .ok (.iconst 0, 1) := by decide +kernel
theorem dX5_canBe_80 : decode cX5_canBe 80 = .ok (.iconst 1, 1) := by decide +kernel
theorem dX5_canBe_81 : decode cX5_canBe 81 = .ok (.aload_n 0, 1) := by decide +kernel
theorem dX5_canBe_82 : decode cX5_canBe 82 = .ok (.getfield 9, 3) := by decide +kernel
theorem dX5_canBe_85 : decode cX5_canBe 85 = .ok (.iconst 1, 1) := by decide +kernel
theorem dX5_canBe_86 : decode cX5_canBe 86 = .ok (.iaload, 1) := by decide +kernel
theorem dX5_canBe_87 : decode cX5_canBe 87 = .ok (.ishl, 1) := by decide +kernel
theorem dX5_canBe_88 : decode cX5_canBe 88 = .ok (.iconst 1, 1) := by decide +kernel
theorem dX5_canBe_89 : decode cX5_canBe 89 = .ok (.isub, 1) := by decide +kernel
theorem dX5_canBe_90 : decode cX5_canBe 90 = .ok (.invokestatic 48, 3) := by decide +kernel
theorem dX5_canBe_93 : decode cX5_canBe 93 = .ok (.ifCond .eq 15, 3) := by decide +kernel
theorem dX5_canBe_96 : decode cX5_canBe 96 = .ok (.iload_n 3, 1) := by decide +kernel
theorem dX5_canBe_97 : decode cX5_canBe 97 = .ok (.iload_n 1, 1) := by decide +kernel
theorem dX5_canBe_98 : decode cX5_canBe 98 = .ok (.ishr, 1) := by decide +kernel
theorem dX5_canBe_99 : decode cX5_canBe 99 = .ok (.iconst 1, 1) := by decide +kernel
theorem dX5_canBe_100 : decode cX5_canBe 100 = .ok (.iand, 1) := by decide +kernel
theorem dX5_canBe_101 : decode cX5_canBe 101 = .ok (.ifCond .ne 7, 3) := by decide +kernel
theorem dX5_canBe_104 : decode cX5_canBe 104 = .ok (.iconst 1, 1) := by decide +kernel
theorem dX5_canBe_105 : decode cX5_canBe 105 = .ok (.goto 4, 3) := by decide +kernel
theorem dX5_canBe_108 : decode cX5_canBe 108 = .ok (.iconst 0, 1) := by decide +kernel
theorem dX5_canBe_109 : decode cX5_canBe 109 = .ok (.ireturn, 1) := by decide +kernel
theorem dX5_change_0 : decode cX5_change 0 = .ok (.aload_n 0, 1) := by decide +kernel
theorem dX5_change_1 : decode cX5_change 1 = .ok (.iload_n 1, 1) := by decide +kernel
theorem dX5_change_2 : decode cX5_change 2 = .ok (.invokevirtual 52, 3) := by decide +kernel
theorem dX5_change_5 : decode cX5_change 5 = .ok (.ifCond .eq 23, 3) := by decide +kernel
theorem dX5_change_8 : decode cX5_change 8 = .ok (.iload_n 2, 1) := by decide +kernel
theorem dX5_change_9 : decode cX5_change 9 = .ok (.iconst 0, 1) := by decide +kernel
theorem dX5_change_10 : decode cX5_change 10 = .ok (.bipush 6, 2) := by decide +kernel
theorem dX5_change_12 : decode cX5_change 12 = .ok (.invokestatic 48, 3) := by decide +kernel
theorem dX5_change_15 : decode cX5_change 15 = .ok (.ifCond .eq 13, 3) := by decide +kernel
theorem dX5_change_18 : decode cX5_change 18 = .ok (.aload_n 0, 1) := by decide +kernel
theorem dX5_change_19 : decode cX5_change 19 = .ok (.iload_n 1, 1) := by decide +kernel
theorem dX5_change_20 : decode cX5_change 20 = .ok (.iload_n 2, 1) := by decide +kernel
theorem dX5_change_21 : decode cX5_change 21 = .ok (.iload_n 3, 1) := by decide +kernel
theorem dX5_change_22 : decode cX5_change 22 = .ok (.invokevirtual 137, 3) := by decide +kernel
theorem dX5_change_25 : decode cX5_change 25 = .ok (.ifCond .ne 9, 3) := by decide +kernel
theorem dX5_change_28 : decode cX5_change 28 = .ok (.aload_n 0, 1) := by decide +kernel
theorem dX5_change_29 : decode cX5_change 29 = .ok (.iconst 0, 1) := by decide +kernel
theorem dX5_change_30 : decode cX5_change 30 = .ok (.invokevirtual 128, 3) := by decide +kernel
theorem dX5_change_33 : decode cX5_change 33 = .ok (.ireturn, 1) := by decide +kernel
theorem dX5_change_34 : decode cX5_change 34 = .ok (.aload_n 0, 1) := by decide +kernel
theorem dX5_change_35 : decode cX5_change 35 = .ok (.iload_n 1, 1) := by decide +kernel
theorem dX5_change_36 : decode cX5_change 36 = .ok (.iload_n 2, 1) := by decide +kernel
theorem dX5_change_37 : decode cX5_change 37 = .ok (.invokevirtual 56, 3) := by decide +kernel
theorem dX5_change_40 : decode cX5_change 40 = .ok (.istore 4, 2) := by decide +kernel
theorem dX5_change_42 : decode cX5_change 42 = .ok (.aload_n 0, 1) := by decide +kernel
theorem dX5_change_43 : decode cX5_change 43 = .ok (.iload_n 1, 1) := by decide +kernel
theorem dX5_change_44 : decode cX5_change 44 = .ok (.iload_n 2, 1) := by decide +kernel
theorem dX5_change_45 : decode cX5_change 45 = .ok (.iload_n 3, 1) := by decide +kernel
theorem dX5_change_46 : decode cX5_change 46 = .ok (.invokevirtual 81, 3) := by decide +kernel
theorem dX5_change_49 : decode cX5_change 49 = .ok (.iload 4, 2) := by decide +kernel
theorem dX5_change_51 : decode cX5_change 51 = .ok (.ireturn, 1) := by decide +kernel
theorem dX5_minds_0 : decode cX5_minds 0 = .ok (.aload_n 0, 1) := by decide +kernel
theorem dX5_minds_1 : decode cX5_minds 1 = .ok (.iload_n 1, 1) := by decide +kernel
theorem dX5_minds_2 : decode cX5_minds 2 = .ok (.invokevirtual 52, 3) := by decide +kernel
theorem dX5_minds_5 : decode cX5_minds 5 = .ok (.ifCond .eq 10, 3) := by decide +kernel
theorem dX5_minds_8 : decode cX5_minds 8 = .ok (.iload_n 2, 1) := by decide +kernel
theorem dX5_minds_9 : decode cX5_minds 9 = .ok (.invokestatic 134, 3) := by decide +kernel
theorem dX5_minds_12 : decode cX5_minds 12 = .ok (.ifCond .ne 11, 3) := by decide +kernel
theorem dX5_minds_15 : decode cX5_minds 15 = .ok (.aload_n 0, 1) := by decide +kernel
theorem dX5_minds_16 : decode cX5_minds 16 = .ok (.iconst 0, 1) := by decide +kernel
theorem dX5_minds_17 : decode cX5_minds 17 = .ok (.invokevirtual 128, 3) := by decide +kernel
theorem dX5_minds_20 : decode cX5_minds 20 = .ok (.goto 17, 3) := by decide +kernel
theorem dX5_minds_23 : decode cX5_minds 23 = .ok (.aload_n 0, 1) := by decide +kernel
theorem dX5_minds_24 : decode cX5_minds 24 = .ok (.iload_n 1, 1) := by decide +kernel
theorem dX5_minds_25 : decode cX5_minds 25 = .ok (.iload_n 2, 1) := by decide +kernel
theorem dX5_minds_26 : decode cX5_minds 26 = .ok (.invokevirtual 77, 3) := by decide +kernel
theorem dX5_minds_29 : decode cX5_minds 29 = .ok (.ifCond .eq 7, 3) := by decide +kernel
theorem dX5_minds_32 : decode cX5_minds 32 = .ok (.iconst 1, 1) := by decide +kernel
theorem dX5_minds_33 : decode cX5_minds 33 = .ok (.goto 4, 3) := by decide +kernel
theorem dX5_minds_36 : decode cX5_minds 36 = .ok (.iconst 0, 1) := by decide +kernel
theorem dX5_minds_37 : decode cX5_minds 37 = .ok (.ireturn, 1) := by decide +kernel
theorem dX5_far_0 : decode cX5_far 0 = .ok (.aload_n 0, 1) := by decide +kernel
theorem dX5_far_1 : decode cX5_far 1 = .ok (.iload_n 1, 1) := by decide +kernel
theorem dX5_far_2 : decode cX5_far 2 = .ok (.iload_n 2, 1) := by decide +kernel
theorem dX5_far_3 : decode cX5_far 3 = .ok (.invokevirtual 140, 3) := by decide +kernel
theorem dX5_far_6 : decode cX5_far 6 = .ok (.ifCond .eq 12, 3) := by decide +kernel
theorem dX5_far_9 : decode cX5_far 9 = .ok (.aload_n 0, 1) := by decide +kernel
theorem dX5_far_10 : decode cX5_far 10 = .ok (.iload_n 1, 1) := by decide +kernel
theorem dX5_far_11 : decode cX5_far 11 = .ok (.iload_n 2, 1) := by decide +kernel
theorem dX5_far_12 : decode cX5_far 12 = .ok (.invokevirtual 71, 3) := by decide +kernel
theorem dX5_far_15 : decode cX5_far 15 = .ok (.goto 8, 3) := by decide +kernel
theorem dX5_far_18 : decode cX5_far 18 = .ok (.aload_n 0, 1) := by decide +kernel
theorem dX5_far_19 : decode cX5_far 19 = .ok (.iconst 0, 1) := by decide +kernel
theorem dX5_far_20 : decode cX5_far 20 = .ok (.invokevirtual 128, 3) := by decide +kernel
theorem dX5_far_23 : decode cX5_far 23 = .ok (.ireturn, 1) := by decide +kernel
theorem dX5_who_0 : decode cX5_who 0 = .ok (.iload_n 1, 1) := by decide +kernel
theorem dX5_who_1 : decode cX5_who 1 = .ok (.invokestatic 125, 3) := by decide +kernel
theorem dX5_who_4 : decode cX5_who 4 = .ok (.ifCond .ne 9, 3) := by decide +kernel
theorem dX5_who_7 : decode cX5_who 7 = .ok (.aload_n 0, 1) := by decide +kernel
theorem dX5_who_8 : decode cX5_who 8 = .ok (.iconst 0, 1) := by decide +kernel
theorem dX5_who_9 : decode cX5_who 9 = .ok (.invokevirtual 128, 3) := by decide +kernel
theorem dX5_who_12 : decode cX5_who 12 = .ok (.ireturn, 1) := by decide +kernel
theorem dX5_who_13 : decode cX5_who 13 = .ok (.iconst 0, 1) := by decide +kernel
theorem dX5_who_14 : decode cX5_who 14 = .ok (.istore_n 2, 1) := by decide +kernel
theorem dX5_who_15 : decode cX5_who 15 = .ok (.iconst 0, 1) := by decide +kernel
theorem dX5_who_16 : decode cX5_who 16 = .ok (.istore_n 3, 1) := by decide +kernel
theorem dX5_who_17 : decode cX5_who 17 = .ok (.iload_n 3, 1) := by decide +kernel
theorem dX5_who_18 : decode cX5_who 18 = .ok (.aload_n 0, 1) := by decide +kernel
theorem dX5_who_19 : decode cX5_who 19 = .ok (.getfield 9, 3) := by decide +kernel
theorem dX5_who_22 : decode cX5_who 22 = .ok (.iconst 1, 1) := by decide +kernel
theorem dX5_who_23 : decode cX5_who 23 = .ok (.iaload, 1) := by decide +kernel
theorem dX5_who_24 : decode cX5_who 24 = .ok (.if_icmp .ge 29, 3) := by decide +kernel
theorem dX5_who_27 : decode cX5_who 27 = .ok (.iload_n 2, 1) := by decide +kernel
theorem dX5_who_28 : decode cX5_who 28 = .ok (.aload_n 0, 1) := by decide +kernel
theorem dX5_who_29 : decode cX5_who 29 = .ok (.iload_n 3, 1) := by decide +kernel
theorem dX5_who_30 : decode cX5_who 30 = .ok (.iconst 1, 1) := by decide +kernel
theorem dX5_who_31 : decode cX5_who 31 = .ok (.invokevirtual 56, 3) := by decide +kernel
theorem dX5_who_34 : decode cX5_who 34 = .ok (.iload_n 1, 1) := by decide +kernel
theorem dX5_who_35 : decode cX5_who 35 = .ok (.if_icmp .ne 9, 3) := by decide +kernel
theorem dX5_who_38 : decode cX5_who 38 = .ok (.iconst 1, 1) := by decide +kernel
theorem dX5_who_39 : decode cX5_who 39 = .ok (.iload_n 3, 1) := by decide +kernel
theorem dX5_who_40 : decode cX5_who 40 = .ok (.ishl, 1) := by decide +kernel
theorem dX5_who_41 : decode cX5_who 41 = .ok (.goto 4, 3) := by decide +kernel
theorem dX5_who_44 : decode cX5_who 44 = .ok (.iconst 0, 1) := by decide +kernel
theorem dX5_who_45 : decode cX5_who 45 = .ok (.ior, 1) := by decide +kernel
theorem dX5_who_46 : decode cX5_who 46 = .ok (.istore_n 2, 1) := by decide +kernel
theorem dX5_who_47 : decode cX5_who 47 = .ok (.iinc 3 1, 3) := by decide +kernel
theorem dX5_who_50 : decode cX5_who 50 = .ok (.goto (-33), 3) := by decide +kernel
theorem dX5_who_53 : decode cX5_who 53 = .ok (.iload_n 2, 1) := by decide +kernel
theorem dX5_who_54 : decode cX5_who 54 = .ok (.ireturn, 1) := by decide +kernel
theorem dX5_two_0 : decode cX5_two 0 = .ok (.aload_n 0, 1) := by decide +kernel
theorem dX5_two_1 : decode cX5_two 1 = .ok (.iload_n 1, 1) := by decide +kernel
theorem dX5_two_2 : decode cX5_two 2 = .ok (.iload_n 2, 1) := by decide +kernel
theorem dX5_two_3 : decode cX5_two 3 = .ok (.invokevirtual 140, 3) := by decide +kernel
theorem dX5_two_6 : decode cX5_two 6 = .ok (.ifCond .eq 12, 3) := by decide +kernel
theorem dX5_two_9 : decode cX5_two 9 = .ok (.iload_n 3, 1) := by decide +kernel
theorem dX5_two_10 : decode cX5_two 10 = .ok (.iconst 0, 1) := by decide +kernel
theorem dX5_two_11 : decode cX5_two 11 = .ok (.iconst 2, 1) := by decide +kernel
theorem dX5_two_12 : decode cX5_two 12 = .ok (.invokestatic 48, 3) := by decide +kernel
theorem dX5_two_15 : decode cX5_two 15 = .ok (.ifCond .ne 9, 3) := by decide +kernel
theorem dX5_two_18 : decode cX5_two 18 = .ok (.aload_n 0, 1) := by decide +kernel
theorem dX5_two_19 : decode cX5_two 19 = .ok (.iconst 0, 1) := by decide +kernel
theorem dX5_two_20 : decode cX5_two 20 = .ok (.invokevirtual 128, 3) := by decide +kernel
theorem dX5_two_23 : decode cX5_two 23 = .ok (.ireturn, 1) := by decide +kernel
theorem dX5_two_24 : decode cX5_two 24 = .ok (.iload_n 3, 1) := by decide +kernel
theorem dX5_two_25 : decode cX5_two 25 = .ok (.ifCond .ne 29, 3) := by decide +kernel
theorem dX5_two_28 : decode cX5_two 28 = .ok (.aload_n 0, 1) := by decide +kernel
theorem dX5_two_29 : decode cX5_two 29 = .ok (.iload_n 1, 1) := by decide +kernel
theorem dX5_two_30 : decode cX5_two 30 = .ok (.iload_n 2, 1) := by decide +kernel
theorem dX5_two_31 : decode cX5_two 31 = .ok (.invokevirtual 95, 3) := by decide +kernel
theorem dX5_two_34 : decode cX5_two 34 = .ok (.ifCond .eq 16, 3) := by decide +kernel
theorem dX5_two_37 : decode cX5_two 37 = .ok (.aload_n 0, 1) := by decide +kernel
theorem dX5_two_38 : decode cX5_two 38 = .ok (.iload_n 2, 1) := by decide +kernel
theorem dX5_two_39 : decode cX5_two 39 = .ok (.iload_n 1, 1) := by decide +kernel
theorem dX5_two_40 : decode cX5_two 40 = .ok (.invokevirtual 95, 3) := by decide +kernel
theorem dX5_two_43 : decode cX5_two 43 = .ok (.ifCond .eq 7, 3) := by decide +kernel
theorem dX5_two_46 : decode cX5_two 46 = .ok (.iconst 1, 1) := by decide +kernel
theorem dX5_two_47 : decode cX5_two 47 = .ok (.goto 44, 3) := by decide +kernel
theorem dX5_two_50 : decode cX5_two 50 = .ok (.iconst 0, 1) := by decide +kernel
theorem dX5_two_51 : decode cX5_two 51 = .ok (.goto 40, 3) := by decide +kernel
theorem dX5_two_54 : decode cX5_two 54 = .ok (.iload_n 3, 1) := by decide +kernel
theorem dX5_two_55 : decode cX5_two 55 = .ok (.iconst 1, 1) := by decide +kernel
theorem dX5_two_56 : decode cX5_two 56 = .ok (.if_icmp .ne 29, 3) := by decide +kernel
theorem dX5_two_59 : decode cX5_two 59 = .ok (.aload_n 0, 1) := by decide +kernel
theorem dX5_two_60 : decode cX5_two 60 = .ok (.iload_n 1, 1) := by decide +kernel
theorem dX5_two_61 : decode cX5_two 61 = .ok (.iload_n 2, 1) := by decide +kernel
theorem dX5_two_62 : decode cX5_two 62 = .ok (.invokevirtual 85, 3) := by decide +kernel
theorem dX5_two_65 : decode cX5_two 65 = .ok (.ifCond .eq 16, 3) := by decide +kernel
theorem dX5_two_68 : decode cX5_two 68 = .ok (.aload_n 0, 1) := by decide +kernel
theorem dX5_two_69 : decode cX5_two 69 = .ok (.iload_n 2, 1) := by decide +kernel
theorem dX5_two_70 : decode cX5_two 70 = .ok (.iload_n 1, 1) := by decide +kernel
theorem dX5_two_71 : decode cX5_two 71 = .ok (.invokevirtual 85, 3) := by decide +kernel
theorem dX5_two_74 : decode cX5_two 74 = .ok (.ifCond .eq 7, 3) := by decide +kernel
theorem dX5_two_77 : decode cX5_two 77 = .ok (.iconst 1, 1) := by decide +kernel
theorem dX5_two_78 : decode cX5_two 78 = .ok (.goto 13, 3) := by decide +kernel
theorem dX5_two_81 : decode cX5_two 81 = .ok (.iconst 0, 1) := by decide +kernel
theorem dX5_two_82 : decode cX5_two 82 = .ok (.goto 9, 3) := by decide +kernel
theorem dX5_two_85 : decode cX5_two 85 = .ok (.aload_n 0, 1) := by decide +kernel
theorem dX5_two_86 : decode cX5_two 86 = .ok (.iload_n 1, 1) := by decide +kernel
theorem dX5_two_87 : decode cX5_two 87 = .ok (.iload_n 2, 1) := by decide +kernel
theorem dX5_two_88 : decode cX5_two 88 = .ok (.invokevirtual 92, 3) := by decide +kernel
theorem dX5_two_91 : decode cX5_two 91 = .ok (.istore 4, 2) := by decide +kernel
theorem dX5_two_93 : decode cX5_two 93 = .ok (.iload 4, 2) := by decide +kernel
theorem dX5_two_95 : decode cX5_two 95 = .ok (.ifCond .eq 7, 3) := by decide +kernel
theorem dX5_two_98 : decode cX5_two 98 = .ok (.iconst 1, 1) := by decide +kernel
theorem dX5_two_99 : decode cX5_two 99 = .ok (.goto 4, 3) := by decide +kernel
theorem dX5_two_102 : decode cX5_two 102 = .ok (.iconst 0, 1) := by decide +kernel
theorem dX5_two_103 : decode cX5_two 103 = .ok (.ireturn, 1) := by decide +kernel
theorem dX5_go_0 : decode cX5_go 0 = .ok (.iload_n 1, 1) := by decide +kernel
theorem dX5_go_1 : decode cX5_go 1 = .ok (.iconst 1, 1) := by decide +kernel
theorem dX5_go_2 : decode cX5_go 2 = .ok (.bipush 60, 2) := by decide +kernel
theorem dX5_go_4 : decode cX5_go 4 = .ok (.invokestatic 48, 3) := by decide +kernel
theorem dX5_go_7 : decode cX5_go 7 = .ok (.ifCond .ne 9, 3) := by decide +kernel
theorem dX5_go_10 : decode cX5_go 10 = .ok (.aload_n 0, 1) := by decide +kernel
theorem dX5_go_11 : decode cX5_go 11 = .ok (.iconst 0, 1) := by decide +kernel
theorem dX5_go_12 : decode cX5_go 12 = .ok (.invokevirtual 128, 3) := by decide +kernel
theorem dX5_go_15 : decode cX5_go 15 = .ok (.ireturn, 1) := by decide +kernel
theorem dX5_go_16 : decode cX5_go 16 = .ok (.aload_n 0, 1) := by decide +kernel
theorem dX5_go_17 : decode cX5_go 17 = .ok (.getfield 9, 3) := by decide +kernel
theorem dX5_go_20 : decode cX5_go 20 = .ok (.iconst 0, 1) := by decide +kernel
theorem dX5_go_21 : decode cX5_go 21 = .ok (.iaload, 1) := by decide +kernel
theorem dX5_go_22 : decode cX5_go 22 = .ok (.iload_n 1, 1) := by decide +kernel
theorem dX5_go_23 : decode cX5_go 23 = .ok (.iadd, 1) := by decide +kernel
theorem dX5_go_24 : decode cX5_go 24 = .ok (.ldc 88, 2) := by decide +kernel
theorem dX5_go_26 : decode cX5_go 26 = .ok (.if_icmp .le 9, 3) := by decide +kernel
theorem dX5_go_29 : decode cX5_go 29 = .ok (.aload_n 0, 1) := by decide +kernel
theorem dX5_go_30 : decode cX5_go 30 = .ok (.iconst 4, 1) := by decide +kernel
theorem dX5_go_31 : decode cX5_go 31 = .ok (.invokevirtual 128, 3) := by decide +kernel
theorem dX5_go_34 : decode cX5_go 34 = .ok (.ireturn, 1) := by decide +kernel
theorem dX5_go_35 : decode cX5_go 35 = .ok (.aload_n 0, 1) := by decide +kernel
theorem dX5_go_36 : decode cX5_go 36 = .ok (.iload_n 1, 1) := by decide +kernel
theorem dX5_go_37 : decode cX5_go 37 = .ok (.invokevirtual 143, 3) := by decide +kernel
theorem dX5_go_40 : decode cX5_go 40 = .ok (.aload_n 0, 1) := by decide +kernel
theorem dX5_go_41 : decode cX5_go 41 = .ok (.getfield 9, 3) := by decide +kernel
theorem dX5_go_44 : decode cX5_go 44 = .ok (.iconst 3, 1) := by decide +kernel
theorem dX5_go_45 : decode cX5_go 45 = .ok (.iaload, 1) := by decide +kernel
theorem dX5_go_46 : decode cX5_go 46 = .ok (.ireturn, 1) := by decide +kernel
theorem dX5_passedAll_0 : decode cX5_passedAll 0 = .ok (.iconst 0, 1) := by decide +kernel
theorem dX5_passedAll_1 : decode cX5_passedAll 1 = .ok (.istore_n 1, 1) := by decide +kernel
theorem dX5_passedAll_2 : decode cX5_passedAll 2 = .ok (.iconst 0, 1) := by decide +kernel
theorem dX5_passedAll_3 : decode cX5_passedAll 3 = .ok (.istore_n 2, 1) := by decide +kernel
theorem dX5_passedAll_4 : decode cX5_passedAll 4 = .ok (.iload_n 2, 1) := by decide +kernel
theorem dX5_passedAll_5 : decode cX5_passedAll 5 = .ok (.aload_n 0, 1) := by decide +kernel
theorem dX5_passedAll_6 : decode cX5_passedAll 6 = .ok (.getfield 9, 3) := by decide +kernel
theorem dX5_passedAll_9 : decode cX5_passedAll 9 = .ok (.iconst 1, 1) := by decide +kernel
theorem dX5_passedAll_10 : decode cX5_passedAll 10 = .ok (.iaload, 1) := by decide +kernel
theorem dX5_passedAll_11 : decode cX5_passedAll 11 = .ok (.if_icmp .ge 19, 3) := by decide +kernel
theorem dX5_passedAll_14 : decode cX5_passedAll 14 = .ok (.iload_n 1, 1) := by decide +kernel
theorem dX5_passedAll_15 : decode cX5_passedAll 15 = .ok (.aload_n 0, 1) := by decide +kernel
theorem dX5_passedAll_16 : decode cX5_passedAll 16 = .ok (.iload_n 2, 1) := by decide +kernel
theorem dX5_passedAll_17 : decode cX5_passedAll 17 = .ok (.bipush 6, 2) := by decide +kernel
theorem dX5_passedAll_19 : decode cX5_passedAll 19 = .ok (.invokevirtual 56, 3) := by decide +kernel
theorem dX5_passedAll_22 : decode cX5_passedAll 22 = .ok (.iadd, 1) := by decide +kernel
theorem dX5_passedAll_23 : decode cX5_passedAll 23 = .ok (.istore_n 1, 1) := by decide +kernel
theorem dX5_passedAll_24 : decode cX5_passedAll 24 = .ok (.iinc 2 1, 3) := by decide +kernel
theorem dX5_passedAll_27 : decode cX5_passedAll 27 = .ok (.goto (-23), 3) := by decide +kernel
theorem dX5_passedAll_30 : decode cX5_passedAll 30 = .ok (.iload_n 1, 1) := by decide +kernel
theorem dX5_passedAll_31 : decode cX5_passedAll 31 = .ok (.ireturn, 1) := by decide +kernel
theorem dX5_whoKnow_0 : decode cX5_whoKnow 0 = .ok (.iconst 0, 1) := by decide +kernel
theorem dX5_whoKnow_1 : decode cX5_whoKnow 1 = .ok (.istore_n 1, 1) := by decide +kernel
theorem dX5_whoKnow_2 : decode cX5_whoKnow 2 = .ok (.iconst 0, 1) := by decide +kernel
theorem dX5_whoKnow_3 : decode cX5_whoKnow 3 = .ok (.istore_n 2, 1) := by decide +kernel
theorem dX5_whoKnow_4 : decode cX5_whoKnow 4 = .ok (.iload_n 2, 1) := by decide +kernel
theorem dX5_whoKnow_5 : decode cX5_whoKnow 5 = .ok (.aload_n 0, 1) := by decide +kernel
theorem dX5_whoKnow_6 : decode cX5_whoKnow 6 = .ok (.getfield 9, 3) := by decide +kernel
theorem dX5_whoKnow_9 : decode cX5_whoKnow 9 = .ok (.iconst 1, 1) := by decide +kernel
theorem dX5_whoKnow_10 : decode cX5_whoKnow 10 = .ok (.iaload, 1) := by decide +kernel
theorem dX5_whoKnow_11 : decode cX5_whoKnow 11 = .ok (.if_icmp .ge 28, 3) := by decide +kernel
theorem dX5_whoKnow_14 : decode cX5_whoKnow 14 = .ok (.iload_n 1, 1) := by decide +kernel
theorem dX5_whoKnow_15 : decode cX5_whoKnow 15 = .ok (.aload_n 0, 1) := by decide +kernel
theorem dX5_whoKnow_16 : decode cX5_whoKnow 16 = .ok (.iload_n 2, 1) := by decide +kernel
theorem dX5_whoKnow_17 : decode cX5_whoKnow 17 = .ok (.iconst 4, 1) := by decide +kernel
theorem dX5_whoKnow_18 : decode cX5_whoKnow 18 = .ok (.invokevirtual 56, 3) := by decide +kernel
theorem dX5_whoKnow_21 : decode cX5_whoKnow 21 = .ok (.ifCond .eq 9, 3) := by decide +kernel
theorem dX5_whoKnow_24 : decode cX5_whoKnow 24 = .ok (.iconst 1, 1) := by decide +kernel
theorem dX5_whoKnow_25 : decode cX5_whoKnow 25 = .ok (.iload_n 2, 1) := by decide +kernel
theorem dX5_whoKnow_26 : decode cX5_whoKnow 26 = .ok (.ishl, 1) := by decide +kernel
theorem dX5_whoKnow_27 : decode cX5_whoKnow 27 = .ok (.goto 4, 3) := by decide +kernel
theorem dX5_whoKnow_30 : decode cX5_whoKnow 30 = .ok (.iconst 0, 1) := by decide +kernel
theorem dX5_whoKnow_31 : decode cX5_whoKnow 31 = .ok (.ior, 1) := by decide +kernel
theorem dX5_whoKnow_32 : decode cX5_whoKnow 32 = .ok (.istore_n 1, 1) := by decide +kernel
theorem dX5_whoKnow_33 : decode cX5_whoKnow 33 = .ok (.iinc 2 1, 3) := by decide +kernel
theorem dX5_whoKnow_36 : decode cX5_whoKnow 36 = .ok (.goto (-32), 3) := by decide +kernel
theorem dX5_whoKnow_39 : decode cX5_whoKnow 39 = .ok (.iload_n 1, 1) := by decide +kernel
theorem dX5_whoKnow_40 : decode cX5_whoKnow 40 = .ok (.ireturn, 1) := by decide +kernel
theorem dX5_pairs_0 : decode cX5_pairs 0 = .ok (.iconst 0, 1) := by decide +kernel
theorem dX5_pairs_1 : decode cX5_pairs 1 = .ok (.istore_n 2, 1) := by decide +kernel
theorem dX5_pairs_2 : decode cX5_pairs 2 = .ok (.iconst 0, 1) := by decide +kernel
theorem dX5_pairs_3 : decode cX5_pairs 3 = .ok (.istore_n 3, 1) := by decide +kernel
theorem dX5_pairs_4 : decode cX5_pairs 4 = .ok (.iload_n 3, 1) := by decide +kernel
theorem dX5_pairs_5 : decode cX5_pairs 5 = .ok (.aload_n 0, 1) := by decide +kernel
theorem dX5_pairs_6 : decode cX5_pairs 6 = .ok (.getfield 9, 3) := by decide +kernel
theorem dX5_pairs_9 : decode cX5_pairs 9 = .ok (.iconst 1, 1) := by decide +kernel
theorem dX5_pairs_10 : decode cX5_pairs 10 = .ok (.iaload, 1) := by decide +kernel
theorem dX5_pairs_11 : decode cX5_pairs 11 = .ok (.if_icmp .ge 55, 3) := by decide +kernel
theorem dX5_pairs_14 : decode cX5_pairs 14 = .ok (.iload_n 3, 1) := by decide +kernel
theorem dX5_pairs_15 : decode cX5_pairs 15 = .ok (.iconst 1, 1) := by decide +kernel
theorem dX5_pairs_16 : decode cX5_pairs 16 = .ok (.iadd, 1) := by decide +kernel
theorem dX5_pairs_17 : decode cX5_pairs 17 = .ok (.istore 4, 2) := by decide +kernel
theorem dX5_pairs_19 : decode cX5_pairs 19 = .ok (.iload 4, 2) := by decide +kernel
theorem dX5_pairs_21 : decode cX5_pairs 21 = .ok (.aload_n 0, 1) := by decide +kernel
theorem dX5_pairs_22 : decode cX5_pairs 22 = .ok (.getfield 9, 3) := by decide +kernel
theorem dX5_pairs_25 : decode cX5_pairs 25 = .ok (.iconst 1, 1) := by decide +kernel
theorem dX5_pairs_26 : decode cX5_pairs 26 = .ok (.iaload, 1) := by decide +kernel
theorem dX5_pairs_27 : decode cX5_pairs 27 = .ok (.if_icmp .ge 33, 3) := by decide +kernel
theorem dX5_pairs_30 : decode cX5_pairs 30 = .ok (.iload_n 2, 1) := by decide +kernel
theorem dX5_pairs_31 : decode cX5_pairs 31 = .ok (.aload_n 0, 1) := by decide +kernel
theorem dX5_pairs_32 : decode cX5_pairs 32 = .ok (.iload_n 3, 1) := by decide +kernel
theorem dX5_pairs_33 : decode cX5_pairs 33 = .ok (.iload_n 1, 1) := by decide +kernel
theorem dX5_pairs_34 : decode cX5_pairs 34 = .ok (.invokevirtual 56, 3) := by decide +kernel
theorem dX5_pairs_37 : decode cX5_pairs 37 = .ok (.iload 4, 2) := by decide +kernel
theorem dX5_pairs_39 : decode cX5_pairs 39 = .ok (.ishr, 1) := by decide +kernel
theorem dX5_pairs_40 : decode cX5_pairs 40 = .ok (.aload_n 0, 1) := by decide +kernel
theorem dX5_pairs_41 : decode cX5_pairs 41 = .ok (.iload 4, 2) := by decide +kernel
theorem dX5_pairs_43 : decode cX5_pairs 43 = .ok (.iload_n 1, 1) := by decide +kernel
theorem dX5_pairs_44 : decode cX5_pairs 44 = .ok (.invokevirtual 56, 3) := by decide +kernel
theorem dX5_pairs_47 : decode cX5_pairs 47 = .ok (.iload_n 3, 1) := by decide +kernel
theorem dX5_pairs_48 : decode cX5_pairs 48 = .ok (.ishr, 1) := by decide +kernel
theorem dX5_pairs_49 : decode cX5_pairs 49 = .ok (.iand, 1) := by decide +kernel
theorem dX5_pairs_50 : decode cX5_pairs 50 = .ok (.iconst 1, 1) := by decide +kernel
theorem dX5_pairs_51 : decode cX5_pairs 51 = .ok (.iand, 1) := by decide +kernel
theorem dX5_pairs_52 : decode cX5_pairs 52 = .ok (.iadd, 1) := by decide +kernel
theorem dX5_pairs_53 : decode cX5_pairs 53 = .ok (.istore_n 2, 1) := by decide +kernel
theorem dX5_pairs_54 : decode cX5_pairs 54 = .ok (.iinc 4 1, 3) := by decide +kernel
theorem dX5_pairs_57 : decode cX5_pairs 57 = .ok (.goto (-38), 3) := by decide +kernel
theorem dX5_pairs_60 : decode cX5_pairs 60 = .ok (.iinc 3 1, 3) := by decide +kernel
theorem dX5_pairs_63 : decode cX5_pairs 63 = .ok (.goto (-59), 3) := by decide +kernel
theorem dX5_pairs_66 : decode cX5_pairs 66 = .ok (.iload_n 2, 1) := by decide +kernel
theorem dX5_pairs_67 : decode cX5_pairs 67 = .ok (.ireturn, 1) := by decide +kernel
theorem dX5_worn_0 : decode cX5_worn 0 = .ok (.iconst 0, 1) := by decide +kernel
theorem dX5_worn_1 : decode cX5_worn 1 = .ok (.istore_n 1, 1) := by decide +kernel
theorem dX5_worn_2 : decode cX5_worn 2 = .ok (.iconst 0, 1) := by decide +kernel
theorem dX5_worn_3 : decode cX5_worn 3 = .ok (.istore_n 2, 1) := by decide +kernel
theorem dX5_worn_4 : decode cX5_worn 4 = .ok (.iload_n 2, 1) := by decide +kernel
theorem dX5_worn_5 : decode cX5_worn 5 = .ok (.aload_n 0, 1) := by decide +kernel
theorem dX5_worn_6 : decode cX5_worn 6 = .ok (.getfield 9, 3) := by decide +kernel
theorem dX5_worn_9 : decode cX5_worn 9 = .ok (.iconst 1, 1) := by decide +kernel
theorem dX5_worn_10 : decode cX5_worn 10 = .ok (.iaload, 1) := by decide +kernel
theorem dX5_worn_11 : decode cX5_worn 11 = .ok (.if_icmp .ge 20, 3) := by decide +kernel
theorem dX5_worn_14 : decode cX5_worn 14 = .ok (.iload_n 1, 1) := by decide +kernel
theorem dX5_worn_15 : decode cX5_worn 15 = .ok (.iconst 1, 1) := by decide +kernel
theorem dX5_worn_16 : decode cX5_worn 16 = .ok (.aload_n 0, 1) := by decide +kernel
theorem dX5_worn_17 : decode cX5_worn 17 = .ok (.iload_n 2, 1) := by decide +kernel
theorem dX5_worn_18 : decode cX5_worn 18 = .ok (.iconst 2, 1) := by decide +kernel
theorem dX5_worn_19 : decode cX5_worn 19 = .ok (.invokevirtual 56, 3) := by decide +kernel
theorem dX5_worn_22 : decode cX5_worn 22 = .ok (.ishl, 1) := by decide +kernel
theorem dX5_worn_23 : decode cX5_worn 23 = .ok (.ior, 1) := by decide +kernel
theorem dX5_worn_24 : decode cX5_worn 24 = .ok (.istore_n 1, 1) := by decide +kernel
theorem dX5_worn_25 : decode cX5_worn 25 = .ok (.iinc 2 1, 3) := by decide +kernel
theorem dX5_worn_28 : decode cX5_worn 28 = .ok (.goto (-24), 3) := by decide +kernel
theorem dX5_worn_31 : decode cX5_worn 31 = .ok (.iload_n 1, 1) := by decide +kernel
theorem dX5_worn_32 : decode cX5_worn 32 = .ok (.ireturn, 1) := by decide +kernel
theorem dX5_now_0 : decode cX5_now 0 = .ok (.iload_n 1, 1) := by decide +kernel
theorem dX5_now_1 : decode cX5_now 1 = .ok (.tableswitch 101 0 7 #[47, 54, 61, 66, 72, 78, 83, 88], 47) := by decide +kernel
theorem dX5_now_48 : decode cX5_now 48 = .ok (.aload_n 0, 1) := by decide +kernel
theorem dX5_now_49 : decode cX5_now 49 = .ok (.getfield 9, 3) := by decide +kernel
theorem dX5_now_52 : decode cX5_now 52 = .ok (.iconst 0, 1) := by decide +kernel
theorem dX5_now_53 : decode cX5_now 53 = .ok (.iaload, 1) := by decide +kernel
theorem dX5_now_54 : decode cX5_now 54 = .ok (.ireturn, 1) := by decide +kernel
theorem dX5_now_55 : decode cX5_now 55 = .ok (.aload_n 0, 1) := by decide +kernel
theorem dX5_now_56 : decode cX5_now 56 = .ok (.getfield 9, 3) := by decide +kernel
theorem dX5_now_59 : decode cX5_now 59 = .ok (.iconst 3, 1) := by decide +kernel
theorem dX5_now_60 : decode cX5_now 60 = .ok (.iaload, 1) := by decide +kernel
theorem dX5_now_61 : decode cX5_now 61 = .ok (.ireturn, 1) := by decide +kernel
theorem dX5_now_62 : decode cX5_now 62 = .ok (.aload_n 0, 1) := by decide +kernel
theorem dX5_now_63 : decode cX5_now 63 = .ok (.invokevirtual 146, 3) := by decide +kernel
theorem dX5_now_66 : decode cX5_now 66 = .ok (.ireturn, 1) := by decide +kernel
theorem dX5_now_67 : decode cX5_now 67 = .ok (.aload_n 0, 1) := by decide +kernel
theorem dX5_now_68 : decode cX5_now 68 = .ok (.iconst 4, 1) := by decide +kernel
theorem dX5_now_69 : decode cX5_now 69 = .ok (.invokevirtual 150, 3) := by decide +kernel
theorem dX5_now_72 : decode cX5_now 72 = .ok (.ireturn, 1) := by decide +kernel
theorem dX5_now_73 : decode cX5_now 73 = .ok (.aload_n 0, 1) := by decide +kernel
theorem dX5_now_74 : decode cX5_now 74 = .ok (.iconst 3, 1) := by decide +kernel
theorem dX5_now_75 : decode cX5_now 75 = .ok (.invokevirtual 150, 3) := by decide +kernel
theorem dX5_now_78 : decode cX5_now 78 = .ok (.ireturn, 1) := by decide +kernel
theorem dX5_now_79 : decode cX5_now 79 = .ok (.aload_n 0, 1) := by decide +kernel
theorem dX5_now_80 : decode cX5_now 80 = .ok (.invokevirtual 153, 3) := by decide +kernel
theorem dX5_now_83 : decode cX5_now 83 = .ok (.ireturn, 1) := by decide +kernel
theorem dX5_now_84 : decode cX5_now 84 = .ok (.aload_n 0, 1) := by decide +kernel
theorem dX5_now_85 : decode cX5_now 85 = .ok (.invokevirtual 156, 3) := by decide +kernel
theorem dX5_now_88 : decode cX5_now 88 = .ok (.ireturn, 1) := by decide +kernel
theorem dX5_now_89 : decode cX5_now 89 = .ok (.aload_n 0, 1) := by decide +kernel
theorem dX5_now_90 : decode cX5_now 90 = .ok (.invokevirtual 60, 3) := by decide +kernel
theorem dX5_now_93 : decode cX5_now 93 = .ok (.ifCond .eq 7, 3) := by decide +kernel
theorem dX5_now_96 : decode cX5_now 96 = .ok (.iconst 1, 1) := by decide +kernel
theorem dX5_now_97 : decode cX5_now 97 = .ok (.goto 4, 3) := by decide +kernel
theorem dX5_now_100 : decode cX5_now 100 = .ok (.iconst 0, 1) := by decide +kernel
theorem dX5_now_101 : decode cX5_now 101 = .ok (.ireturn, 1) := by decide +kernel
theorem dX5_now_102 : decode cX5_now 102 = .ok (.aload_n 0, 1) := by decide +kernel
theorem dX5_now_103 : decode cX5_now 103 = .ok (.iconst 0, 1) := by decide +kernel
theorem dX5_now_104 : decode cX5_now 104 = .ok (.invokevirtual 128, 3) := by decide +kernel
theorem dX5_now_107 : decode cX5_now 107 = .ok (.ireturn, 1) := by decide +kernel
theorem dX5_thenAt_0 : decode cX5_thenAt 0 = .ok (.aload_n 0, 1) := by decide +kernel
theorem dX5_thenAt_1 : decode cX5_thenAt 1 = .ok (.invokevirtual 159, 3) := by decide +kernel
theorem dX5_thenAt_4 : decode cX5_thenAt 4 = .ok (.aload_n 0, 1) := by decide +kernel
theorem dX5_thenAt_5 : decode cX5_thenAt 5 = .ok (.iload_n 2, 1) := by decide +kernel
theorem dX5_thenAt_6 : decode cX5_thenAt 6 = .ok (.invokevirtual 143, 3) := by decide +kernel
theorem dX5_thenAt_9 : decode cX5_thenAt 9 = .ok (.aload_n 0, 1) := by decide +kernel
theorem dX5_thenAt_10 : decode cX5_thenAt 10 = .ok (.getfield 9, 3) := by decide +kernel
theorem dX5_thenAt_13 : decode cX5_thenAt 13 = .ok (.iload_n 1, 1) := by decide +kernel
theorem dX5_thenAt_14 : decode cX5_thenAt 14 = .ok (.iaload, 1) := by decide +kernel
theorem dX5_thenAt_15 : decode cX5_thenAt 15 = .ok (.istore_n 3, 1) := by decide +kernel
theorem dX5_thenAt_16 : decode cX5_thenAt 16 = .ok (.aload_n 0, 1) := by decide +kernel
theorem dX5_thenAt_17 : decode cX5_thenAt 17 = .ok (.invokevirtual 162, 3) := by decide +kernel
theorem dX5_thenAt_20 : decode cX5_thenAt 20 = .ok (.iload_n 3, 1) := by decide +kernel
theorem dX5_thenAt_21 : decode cX5_thenAt 21 = .ok (.ireturn, 1) := by decide +kernel
theorem dX5_ahead_0 : decode cX5_ahead 0 = .ok (.iload_n 2, 1) := by decide +kernel
theorem dX5_ahead_1 : decode cX5_ahead 1 = .ok (.iconst 1, 1) := by decide +kernel
theorem dX5_ahead_2 : decode cX5_ahead 2 = .ok (.iconst 4, 1) := by decide +kernel
theorem dX5_ahead_3 : decode cX5_ahead 3 = .ok (.invokestatic 48, 3) := by decide +kernel
theorem dX5_ahead_6 : decode cX5_ahead 6 = .ok (.ifCond .ne 9, 3) := by decide +kernel
theorem dX5_ahead_9 : decode cX5_ahead 9 = .ok (.iload_n 2, 1) := by decide +kernel
theorem dX5_ahead_10 : decode cX5_ahead 10 = .ok (.bipush 6, 2) := by decide +kernel
theorem dX5_ahead_12 : decode cX5_ahead 12 = .ok (.if_icmp .ne 7, 3) := by decide +kernel
theorem dX5_ahead_15 : decode cX5_ahead 15 = .ok (.iconst 1, 1) := by decide +kernel
theorem dX5_ahead_16 : decode cX5_ahead 16 = .ok (.goto 4, 3) := by decide +kernel
theorem dX5_ahead_19 : decode cX5_ahead 19 = .ok (.iconst 0, 1) := by decide +kernel
theorem dX5_ahead_20 : decode cX5_ahead 20 = .ok (.istore 4, 2) := by decide +kernel
theorem dX5_ahead_22 : decode cX5_ahead 22 = .ok (.aload_n 0, 1) := by decide +kernel
theorem dX5_ahead_23 : decode cX5_ahead 23 = .ok (.iload_n 1, 1) := by decide +kernel
theorem dX5_ahead_24 : decode cX5_ahead 24 = .ok (.invokevirtual 52, 3) := by decide +kernel
theorem dX5_ahead_27 : decode cX5_ahead 27 = .ok (.ifCond .eq 34, 3) := by decide +kernel
theorem dX5_ahead_30 : decode cX5_ahead 30 = .ok (.iload 4, 2) := by decide +kernel
theorem dX5_ahead_32 : decode cX5_ahead 32 = .ok (.ifCond .eq 29, 3) := by decide +kernel
theorem dX5_ahead_35 : decode cX5_ahead 35 = .ok (.iload_n 3, 1) := by decide +kernel
theorem dX5_ahead_36 : decode cX5_ahead 36 = .ok (.iconst 0, 1) := by decide +kernel
theorem dX5_ahead_37 : decode cX5_ahead 37 = .ok (.bipush 100, 2) := by decide +kernel
theorem dX5_ahead_39 : decode cX5_ahead 39 = .ok (.invokestatic 48, 3) := by decide +kernel
theorem dX5_ahead_42 : decode cX5_ahead 42 = .ok (.ifCond .eq 19, 3) := by decide +kernel
theorem dX5_ahead_45 : decode cX5_ahead 45 = .ok (.aload_n 0, 1) := by decide +kernel
theorem dX5_ahead_46 : decode cX5_ahead 46 = .ok (.iconst 4, 1) := by decide +kernel
theorem dX5_ahead_47 : decode cX5_ahead 47 = .ok (.bipush 7, 2) := by decide +kernel
theorem dX5_ahead_49 : decode cX5_ahead 49 = .ok (.iload_n 1, 1) := by decide +kernel
theorem dX5_ahead_50 : decode cX5_ahead 50 = .ok (.imul, 1) := by decide +kernel
theorem dX5_ahead_51 : decode cX5_ahead 51 = .ok (.iadd, 1) := by decide +kernel
theorem dX5_ahead_52 : decode cX5_ahead 52 = .ok (.iload_n 2, 1) := by decide +kernel
theorem dX5_ahead_53 : decode cX5_ahead 53 = .ok (.iadd, 1) := by decide +kernel
theorem dX5_ahead_54 : decode cX5_ahead 54 = .ok (.iload_n 3, 1) := by decide +kernel
theorem dX5_ahead_55 : decode cX5_ahead 55 = .ok (.invokevirtual 165, 3) := by decide +kernel
theorem dX5_ahead_58 : decode cX5_ahead 58 = .ok (.goto 8, 3) := by decide +kernel
theorem dX5_ahead_61 : decode cX5_ahead 61 = .ok (.aload_n 0, 1) := by decide +kernel
theorem dX5_ahead_62 : decode cX5_ahead 62 = .ok (.iconst 0, 1) := by decide +kernel
theorem dX5_ahead_63 : decode cX5_ahead 63 = .ok (.invokevirtual 128, 3) := by decide +kernel
theorem dX5_ahead_66 : decode cX5_ahead 66 = .ok (.ireturn, 1) := by decide +kernel
theorem dX5_joy_0 : decode cX5_joy 0 = .ok (.iload_n 1, 1) := by decide +kernel
theorem dX5_joy_1 : decode cX5_joy 1 = .ok (.iconst 0, 1) := by decide +kernel
theorem dX5_joy_2 : decode cX5_joy 2 = .ok (.bipush 100, 2) := by decide +kernel
theorem dX5_joy_4 : decode cX5_joy 4 = .ok (.invokestatic 48, 3) := by decide +kernel
theorem dX5_joy_7 : decode cX5_joy 7 = .ok (.ifCond .eq 12, 3) := by decide +kernel
theorem dX5_joy_10 : decode cX5_joy 10 = .ok (.aload_n 0, 1) := by decide +kernel
theorem dX5_joy_11 : decode cX5_joy 11 = .ok (.iconst 3, 1) := by decide +kernel
theorem dX5_joy_12 : decode cX5_joy 12 = .ok (.iload_n 1, 1) := by decide +kernel
theorem dX5_joy_13 : decode cX5_joy 13 = .ok (.invokevirtual 165, 3) := by decide +kernel
theorem dX5_joy_16 : decode cX5_joy 16 = .ok (.goto 8, 3) := by decide +kernel
theorem dX5_joy_19 : decode cX5_joy 19 = .ok (.aload_n 0, 1) := by decide +kernel
theorem dX5_joy_20 : decode cX5_joy 20 = .ok (.iconst 0, 1) := by decide +kernel
theorem dX5_joy_21 : decode cX5_joy 21 = .ok (.invokevirtual 128, 3) := by decide +kernel
theorem dX5_joy_24 : decode cX5_joy 24 = .ok (.ireturn, 1) := by decide +kernel
theorem dX5_isSo_0 : decode cX5_isSo 0 = .ok (.iload_n 1, 1) := by decide +kernel
theorem dX5_isSo_1 : decode cX5_isSo 1 = .ok (.tableswitch 113 0 3 #[31, 55, 79, 100], 31) := by decide +kernel
theorem dX5_isSo_32 : decode cX5_isSo 32 = .ok (.aload_n 0, 1) := by decide +kernel
theorem dX5_isSo_33 : decode cX5_isSo 33 = .ok (.iload_n 2, 1) := by decide +kernel
theorem dX5_isSo_34 : decode cX5_isSo 34 = .ok (.iload_n 3, 1) := by decide +kernel
theorem dX5_isSo_35 : decode cX5_isSo 35 = .ok (.invokevirtual 95, 3) := by decide +kernel
theorem dX5_isSo_38 : decode cX5_isSo 38 = .ok (.ifCond .eq 16, 3) := by decide +kernel
theorem dX5_isSo_41 : decode cX5_isSo 41 = .ok (.aload_n 0, 1) := by decide +kernel
theorem dX5_isSo_42 : decode cX5_isSo 42 = .ok (.iload_n 3, 1) := by decide +kernel
theorem dX5_isSo_43 : decode cX5_isSo 43 = .ok (.iload_n 2, 1) := by decide +kernel
theorem dX5_isSo_44 : decode cX5_isSo 44 = .ok (.invokevirtual 95, 3) := by decide +kernel
theorem dX5_isSo_47 : decode cX5_isSo 47 = .ok (.ifCond .eq 7, 3) := by decide +kernel
theorem dX5_isSo_50 : decode cX5_isSo 50 = .ok (.iconst 1, 1) := by decide +kernel
theorem dX5_isSo_51 : decode cX5_isSo 51 = .ok (.goto 4, 3) := by decide +kernel
theorem dX5_isSo_54 : decode cX5_isSo 54 = .ok (.iconst 0, 1) := by decide +kernel
theorem dX5_isSo_55 : decode cX5_isSo 55 = .ok (.ireturn, 1) := by decide +kernel
theorem dX5_isSo_56 : decode cX5_isSo 56 = .ok (.aload_n 0, 1) := by decide +kernel
theorem dX5_isSo_57 : decode cX5_isSo 57 = .ok (.iload_n 2, 1) := by decide +kernel
theorem dX5_isSo_58 : decode cX5_isSo 58 = .ok (.iload_n 3, 1) := by decide +kernel
theorem dX5_isSo_59 : decode cX5_isSo 59 = .ok (.invokevirtual 85, 3) := by decide +kernel
theorem dX5_isSo_62 : decode cX5_isSo 62 = .ok (.ifCond .eq 16, 3) := by decide +kernel
theorem dX5_isSo_65 : decode cX5_isSo 65 = .ok (.aload_n 0, 1) := by decide +kernel
theorem dX5_isSo_66 : decode cX5_isSo 66 = .ok (.iload_n 3, 1) := by decide +kernel
theorem dX5_isSo_67 : decode cX5_isSo 67 = .ok (.iload_n 2, 1) := by decide +kernel
theorem dX5_isSo_68 : decode cX5_isSo 68 = .ok (.invokevirtual 85, 3) := by decide +kernel
theorem dX5_isSo_71 : decode cX5_isSo 71 = .ok (.ifCond .eq 7, 3) := by decide +kernel
theorem dX5_isSo_74 : decode cX5_isSo 74 = .ok (.iconst 1, 1) := by decide +kernel
theorem dX5_isSo_75 : decode cX5_isSo 75 = .ok (.goto 4, 3) := by decide +kernel
theorem dX5_isSo_78 : decode cX5_isSo 78 = .ok (.iconst 0, 1) := by decide +kernel
theorem dX5_isSo_79 : decode cX5_isSo 79 = .ok (.ireturn, 1) := by decide +kernel
theorem dX5_isSo_80 : decode cX5_isSo 80 = .ok (.aload_n 0, 1) := by decide +kernel
theorem dX5_isSo_81 : decode cX5_isSo 81 = .ok (.iload_n 2, 1) := by decide +kernel
theorem dX5_isSo_82 : decode cX5_isSo 82 = .ok (.iconst 1, 1) := by decide +kernel
theorem dX5_isSo_83 : decode cX5_isSo 83 = .ok (.invokevirtual 56, 3) := by decide +kernel
theorem dX5_isSo_86 : decode cX5_isSo 86 = .ok (.aload_n 0, 1) := by decide +kernel
theorem dX5_isSo_87 : decode cX5_isSo 87 = .ok (.iload_n 3, 1) := by decide +kernel
theorem dX5_isSo_88 : decode cX5_isSo 88 = .ok (.iconst 1, 1) := by decide +kernel
theorem dX5_isSo_89 : decode cX5_isSo 89 = .ok (.invokevirtual 56, 3) := by decide +kernel
theorem dX5_isSo_92 : decode cX5_isSo 92 = .ok (.if_icmp .ne 7, 3) := by decide +kernel
theorem dX5_isSo_95 : decode cX5_isSo 95 = .ok (.iconst 1, 1) := by decide +kernel
theorem dX5_isSo_96 : decode cX5_isSo 96 = .ok (.goto 4, 3) := by decide +kernel
theorem dX5_isSo_99 : decode cX5_isSo 99 = .ok (.iconst 0, 1) := by decide +kernel
theorem dX5_isSo_100 : decode cX5_isSo 100 = .ok (.ireturn, 1) := by decide +kernel
theorem dX5_isSo_101 : decode cX5_isSo 101 = .ok (.aload_n 0, 1) := by decide +kernel
theorem dX5_isSo_102 : decode cX5_isSo 102 = .ok (.invokevirtual 146, 3) := by decide +kernel
theorem dX5_isSo_105 : decode cX5_isSo 105 = .ok (.ifCond .eq 7, 3) := by decide +kernel
theorem dX5_isSo_108 : decode cX5_isSo 108 = .ok (.iconst 1, 1) := by decide +kernel
theorem dX5_isSo_109 : decode cX5_isSo 109 = .ok (.goto 4, 3) := by decide +kernel
theorem dX5_isSo_112 : decode cX5_isSo 112 = .ok (.iconst 0, 1) := by decide +kernel
theorem dX5_isSo_113 : decode cX5_isSo 113 = .ok (.ireturn, 1) := by decide +kernel
theorem dX5_isSo_114 : decode cX5_isSo 114 = .ok (.aload_n 0, 1) := by decide +kernel
theorem dX5_isSo_115 : decode cX5_isSo 115 = .ok (.iload_n 2, 1) := by decide +kernel
theorem dX5_isSo_116 : decode cX5_isSo 116 = .ok (.bipush 6, 2) := by decide +kernel
theorem dX5_isSo_118 : decode cX5_isSo 118 = .ok (.invokevirtual 56, 3) := by decide +kernel
theorem dX5_isSo_121 : decode cX5_isSo 121 = .ok (.iload_n 3, 1) := by decide +kernel
theorem dX5_isSo_122 : decode cX5_isSo 122 = .ok (.if_icmp .lt 7, 3) := by decide +kernel
theorem dX5_isSo_125 : decode cX5_isSo 125 = .ok (.iconst 1, 1) := by decide +kernel
theorem dX5_isSo_126 : decode cX5_isSo 126 = .ok (.goto 4, 3) := by decide +kernel
theorem dX5_isSo_129 : decode cX5_isSo 129 = .ok (.iconst 0, 1) := by decide +kernel
theorem dX5_isSo_130 : decode cX5_isSo 130 = .ok (.ireturn, 1) := by decide +kernel
theorem dX5_firstBy_0 : decode cX5_firstBy 0 = .ok (.aload_n 0, 1) := by decide +kernel
theorem dX5_firstBy_1 : decode cX5_firstBy 1 = .ok (.invokevirtual 159, 3) := by decide +kernel
theorem dX5_firstBy_4 : decode cX5_firstBy 4 = .ok (.iconst 0, 1) := by decide +kernel
theorem dX5_firstBy_5 : decode cX5_firstBy 5 = .ok (.istore 4, 2) := by decide +kernel
theorem dX5_firstBy_7 : decode cX5_firstBy 7 = .ok (.iload 4, 2) := by decide +kernel
theorem dX5_firstBy_9 : decode cX5_firstBy 9 = .ok (.sipush 200, 3) := by decide +kernel
theorem dX5_firstBy_12 : decode cX5_firstBy 12 = .ok (.if_icmp .gt 23, 3) := by decide +kernel
theorem dX5_firstBy_15 : decode cX5_firstBy 15 = .ok (.aload_n 0, 1) := by decide +kernel
theorem dX5_firstBy_16 : decode cX5_firstBy 16 = .ok (.iload_n 1, 1) := by decide +kernel
theorem dX5_firstBy_17 : decode cX5_firstBy 17 = .ok (.iload_n 2, 1) := by decide +kernel
theorem dX5_firstBy_18 : decode cX5_firstBy 18 = .ok (.iload_n 3, 1) := by decide +kernel
theorem dX5_firstBy_19 : decode cX5_firstBy 19 = .ok (.invokevirtual 168, 3) := by decide +kernel
theorem dX5_firstBy_22 : decode cX5_firstBy 22 = .ok (.ifCond .ne 13, 3) := by decide +kernel
theorem dX5_firstBy_25 : decode cX5_firstBy 25 = .ok (.aload_n 0, 1) := by decide +kernel
theorem dX5_firstBy_26 : decode cX5_firstBy 26 = .ok (.invokevirtual 122, 3) := by decide +kernel
theorem dX5_firstBy_29 : decode cX5_firstBy 29 = .ok (.iinc 4 1, 3) := by decide +kernel
theorem dX5_firstBy_32 : decode cX5_firstBy 32 = .ok (.goto (-25), 3) := by decide +kernel
theorem dX5_firstBy_35 : decode cX5_firstBy 35 = .ok (.aload_n 0, 1) := by decide +kernel
theorem dX5_firstBy_36 : decode cX5_firstBy 36 = .ok (.invokevirtual 162, 3) := by decide +kernel
theorem dX5_firstBy_39 : decode cX5_firstBy 39 = .ok (.iload 4, 2) := by decide +kernel
theorem dX5_firstBy_41 : decode cX5_firstBy 41 = .ok (.sipush 200, 3) := by decide +kernel
theorem dX5_firstBy_44 : decode cX5_firstBy 44 = .ok (.if_icmp .le 11, 3) := by decide +kernel
theorem dX5_firstBy_47 : decode cX5_firstBy 47 = .ok (.aload_n 0, 1) := by decide +kernel
theorem dX5_firstBy_48 : decode cX5_firstBy 48 = .ok (.iconst 3, 1) := by decide +kernel
theorem dX5_firstBy_49 : decode cX5_firstBy 49 = .ok (.invokevirtual 128, 3) := by decide +kernel
theorem dX5_firstBy_52 : decode cX5_firstBy 52 = .ok (.goto 5, 3) := by decide +kernel
theorem dX5_firstBy_55 : decode cX5_firstBy 55 = .ok (.iload 4, 2) := by decide +kernel
theorem dX5_firstBy_57 : decode cX5_firstBy 57 = .ok (.ireturn, 1) := by decide +kernel
theorem dX5_when_0 : decode cX5_when 0 = .ok (.aload_n 0, 1) := by decide +kernel
theorem dX5_when_1 : decode cX5_when 1 = .ok (.iload_n 1, 1) := by decide +kernel
theorem dX5_when_2 : decode cX5_when 2 = .ok (.iload_n 2, 1) := by decide +kernel
theorem dX5_when_3 : decode cX5_when 3 = .ok (.invokevirtual 140, 3) := by decide +kernel
theorem dX5_when_6 : decode cX5_when 6 = .ok (.ifCond .eq 22, 3) := by decide +kernel
theorem dX5_when_9 : decode cX5_when 9 = .ok (.iload_n 3, 1) := by decide +kernel
theorem dX5_when_10 : decode cX5_when 10 = .ok (.iconst 0, 1) := by decide +kernel
theorem dX5_when_11 : decode cX5_when 11 = .ok (.iconst 2, 1) := by decide +kernel
theorem dX5_when_12 : decode cX5_when 12 = .ok (.invokestatic 48, 3) := by decide +kernel
theorem dX5_when_15 : decode cX5_when 15 = .ok (.ifCond .eq 13, 3) := by decide +kernel
theorem dX5_when_18 : decode cX5_when 18 = .ok (.aload_n 0, 1) := by decide +kernel
theorem dX5_when_19 : decode cX5_when 19 = .ok (.iload_n 3, 1) := by decide +kernel
theorem dX5_when_20 : decode cX5_when 20 = .ok (.iload_n 1, 1) := by decide +kernel
theorem dX5_when_21 : decode cX5_when 21 = .ok (.iload_n 2, 1) := by decide +kernel
theorem dX5_when_22 : decode cX5_when 22 = .ok (.invokevirtual 171, 3) := by decide +kernel
theorem dX5_when_25 : decode cX5_when 25 = .ok (.goto 8, 3) := by decide +kernel
theorem dX5_when_28 : decode cX5_when 28 = .ok (.aload_n 0, 1) := by decide +kernel
theorem dX5_when_29 : decode cX5_when 29 = .ok (.iconst 0, 1) := by decide +kernel
theorem dX5_when_30 : decode cX5_when 30 = .ok (.invokevirtual 128, 3) := by decide +kernel
theorem dX5_when_33 : decode cX5_when 33 = .ok (.ireturn, 1) := by decide +kernel
theorem dX5_known_0 : decode cX5_known 0 = .ok (.aload_n 0, 1) := by decide +kernel
theorem dX5_known_1 : decode cX5_known 1 = .ok (.iconst 3, 1) := by decide +kernel
theorem dX5_known_2 : decode cX5_known 2 = .ok (.iconst 0, 1) := by decide +kernel
theorem dX5_known_3 : decode cX5_known 3 = .ok (.iconst 0, 1) := by decide +kernel
theorem dX5_known_4 : decode cX5_known 4 = .ok (.invokevirtual 171, 3) := by decide +kernel
theorem dX5_known_7 : decode cX5_known 7 = .ok (.ireturn, 1) := by decide +kernel
theorem dX5_passed_0 : decode cX5_passed 0 = .ok (.aload_n 0, 1) := by decide +kernel
theorem dX5_passed_1 : decode cX5_passed 1 = .ok (.iload_n 1, 1) := by decide +kernel
theorem dX5_passed_2 : decode cX5_passed 2 = .ok (.invokevirtual 52, 3) := by decide +kernel
theorem dX5_passed_5 : decode cX5_passed 5 = .ok (.ifCond .eq 24, 3) := by decide +kernel
theorem dX5_passed_8 : decode cX5_passed 8 = .ok (.iload_n 2, 1) := by decide +kernel
theorem dX5_passed_9 : decode cX5_passed 9 = .ok (.iconst 0, 1) := by decide +kernel
theorem dX5_passed_10 : decode cX5_passed 10 = .ok (.sipush 9999, 3) := by decide +kernel
theorem dX5_passed_13 : decode cX5_passed 13 = .ok (.invokestatic 48, 3) := by decide +kernel
theorem dX5_passed_16 : decode cX5_passed 16 = .ok (.ifCond .eq 13, 3) := by decide +kernel
theorem dX5_passed_19 : decode cX5_passed 19 = .ok (.aload_n 0, 1) := by decide +kernel
theorem dX5_passed_20 : decode cX5_passed 20 = .ok (.iconst 4, 1) := by decide +kernel
theorem dX5_passed_21 : decode cX5_passed 21 = .ok (.iload_n 1, 1) := by decide +kernel
theorem dX5_passed_22 : decode cX5_passed 22 = .ok (.iload_n 2, 1) := by decide +kernel
theorem dX5_passed_23 : decode cX5_passed 23 = .ok (.invokevirtual 171, 3) := by decide +kernel
theorem dX5_passed_26 : decode cX5_passed 26 = .ok (.goto 8, 3) := by decide +kernel
theorem dX5_passed_29 : decode cX5_passed 29 = .ok (.aload_n 0, 1) := by decide +kernel
theorem dX5_passed_30 : decode cX5_passed 30 = .ok (.iconst 0, 1) := by decide +kernel
theorem dX5_passed_31 : decode cX5_passed 31 = .ok (.invokevirtual 128, 3) := by decide +kernel
theorem dX5_passed_34 : decode cX5_passed 34 = .ok (.ireturn, 1) := by decide +kernel
theorem dX5_gladdestBy_0 : decode cX5_gladdestBy 0 = .ok (.iconst 0, 1) := by decide +kernel
theorem dX5_gladdestBy_1 : decode cX5_gladdestBy 1 = .ok (.istore 5, 2) := by decide +kernel
theorem dX5_gladdestBy_3 : decode cX5_gladdestBy 3 = .ok (.iconst (-1), 1) := by decide +kernel
theorem dX5_gladdestBy_4 : decode cX5_gladdestBy 4 = .ok (.istore 6, 2) := by decide +kernel
theorem dX5_gladdestBy_6 : decode cX5_gladdestBy 6 = .ok (.iconst 0, 1) := by decide +kernel
theorem dX5_gladdestBy_7 : decode cX5_gladdestBy 7 = .ok (.istore 7, 2) := by decide +kernel
theorem dX5_gladdestBy_9 : decode cX5_gladdestBy 9 = .ok (.iload 7, 2) := by decide +kernel
theorem dX5_gladdestBy_11 : decode cX5_gladdestBy 11 = .ok (.iload_n 3, 1) := by decide +kernel
theorem dX5_gladdestBy_12 : decode cX5_gladdestBy 12 = .ok (.if_icmp .ge 71, 3) := by decide +kernel
theorem dX5_gladdestBy_15 : decode cX5_gladdestBy 15 = .ok (.aload_n 0, 1) := by decide +kernel
theorem dX5_gladdestBy_16 : decode cX5_gladdestBy 16 = .ok (.invokevirtual 159, 3) := by decide +kernel
theorem dX5_gladdestBy_19 : decode cX5_gladdestBy 19 = .ok (.aload_n 0, 1) := by decide +kernel
theorem dX5_gladdestBy_20 : decode cX5_gladdestBy 20 = .ok (.iload_n 1, 1) := by decide +kernel
theorem dX5_gladdestBy_21 : decode cX5_gladdestBy 21 = .ok (.iload_n 2, 1) := by decide +kernel
theorem dX5_gladdestBy_22 : decode cX5_gladdestBy 22 = .ok (.iload 7, 2) := by decide +kernel
theorem dX5_gladdestBy_24 : decode cX5_gladdestBy 24 = .ok (.invokevirtual 81, 3) := by decide +kernel
theorem dX5_gladdestBy_27 : decode cX5_gladdestBy 27 = .ok (.aload_n 0, 1) := by decide +kernel
theorem dX5_gladdestBy_28 : decode cX5_gladdestBy 28 = .ok (.iload 4, 2) := by decide +kernel
theorem dX5_gladdestBy_30 : decode cX5_gladdestBy 30 = .ok (.invokevirtual 143, 3) := by decide +kernel
theorem dX5_gladdestBy_33 : decode cX5_gladdestBy 33 = .ok (.aload_n 0, 1) := by decide +kernel
theorem dX5_gladdestBy_34 : decode cX5_gladdestBy 34 = .ok (.getfield 9, 3) := by decide +kernel
theorem dX5_gladdestBy_37 : decode cX5_gladdestBy 37 = .ok (.iconst 3, 1) := by decide +kernel
theorem dX5_gladdestBy_38 : decode cX5_gladdestBy 38 = .ok (.iaload, 1) := by decide +kernel
theorem dX5_gladdestBy_39 : decode cX5_gladdestBy 39 = .ok (.istore 8, 2) := by decide +kernel
theorem dX5_gladdestBy_41 : decode cX5_gladdestBy 41 = .ok (.aload_n 0, 1) := by decide +kernel
theorem dX5_gladdestBy_42 : decode cX5_gladdestBy 42 = .ok (.invokevirtual 162, 3) := by decide +kernel
theorem dX5_gladdestBy_45 : decode cX5_gladdestBy 45 = .ok (.iload 8, 2) := by decide +kernel
theorem dX5_gladdestBy_47 : decode cX5_gladdestBy 47 = .ok (.iload 6, 2) := by decide +kernel
theorem dX5_gladdestBy_49 : decode cX5_gladdestBy 49 = .ok (.if_icmp .le 8, 3) := by decide +kernel
theorem dX5_gladdestBy_52 : decode cX5_gladdestBy 52 = .ok (.iload 7, 2) := by decide +kernel
theorem dX5_gladdestBy_54 : decode cX5_gladdestBy 54 = .ok (.goto 5, 3) := by decide +kernel
theorem dX5_gladdestBy_57 : decode cX5_gladdestBy 57 = .ok (.iload 5, 2) := by decide +kernel
theorem dX5_gladdestBy_59 : decode cX5_gladdestBy 59 = .ok (.istore 5, 2) := by decide +kernel
theorem dX5_gladdestBy_61 : decode cX5_gladdestBy 61 = .ok (.iload 8, 2) := by decide +kernel
theorem dX5_gladdestBy_63 : decode cX5_gladdestBy 63 = .ok (.iload 6, 2) := by decide +kernel
theorem dX5_gladdestBy_65 : decode cX5_gladdestBy 65 = .ok (.if_icmp .le 8, 3) := by decide +kernel
theorem dX5_gladdestBy_68 : decode cX5_gladdestBy 68 = .ok (.iload 8, 2) := by decide +kernel
theorem dX5_gladdestBy_70 : decode cX5_gladdestBy 70 = .ok (.goto 5, 3) := by decide +kernel
theorem dX5_gladdestBy_73 : decode cX5_gladdestBy 73 = .ok (.iload 6, 2) := by decide +kernel
theorem dX5_gladdestBy_75 : decode cX5_gladdestBy 75 = .ok (.istore 6, 2) := by decide +kernel
theorem dX5_gladdestBy_77 : decode cX5_gladdestBy 77 = .ok (.iinc 7 1, 3) := by decide +kernel
theorem dX5_gladdestBy_80 : decode cX5_gladdestBy 80 = .ok (.goto (-71), 3) := by decide +kernel
theorem dX5_gladdestBy_83 : decode cX5_gladdestBy 83 = .ok (.iload 5, 2) := by decide +kernel
theorem dX5_gladdestBy_85 : decode cX5_gladdestBy 85 = .ok (.ireturn, 1) := by decide +kernel
theorem dX5_isAsked_0 : decode cX5_isAsked 0 = .ok (.aload_n 0, 1) := by decide +kernel
theorem dX5_isAsked_1 : decode cX5_isAsked 1 = .ok (.iload_n 1, 1) := by decide +kernel
theorem dX5_isAsked_2 : decode cX5_isAsked 2 = .ok (.invokevirtual 52, 3) := by decide +kernel
theorem dX5_isAsked_5 : decode cX5_isAsked 5 = .ok (.ifCond .eq 17, 3) := by decide +kernel
theorem dX5_isAsked_8 : decode cX5_isAsked 8 = .ok (.iload_n 2, 1) := by decide +kernel
theorem dX5_isAsked_9 : decode cX5_isAsked 9 = .ok (.iconst 0, 1) := by decide +kernel
theorem dX5_isAsked_10 : decode cX5_isAsked 10 = .ok (.bipush 60, 2) := by decide +kernel
theorem dX5_isAsked_12 : decode cX5_isAsked 12 = .ok (.invokestatic 48, 3) := by decide +kernel
theorem dX5_isAsked_15 : decode cX5_isAsked 15 = .ok (.ifCond .eq 7, 3) := by decide +kernel
theorem dX5_isAsked_18 : decode cX5_isAsked 18 = .ok (.iconst 1, 1) := by decide +kernel
theorem dX5_isAsked_19 : decode cX5_isAsked 19 = .ok (.goto 4, 3) := by decide +kernel
theorem dX5_isAsked_22 : decode cX5_isAsked 22 = .ok (.iconst 0, 1) := by decide +kernel
theorem dX5_isAsked_23 : decode cX5_isAsked 23 = .ok (.ireturn, 1) := by decide +kernel
theorem dX5_standFor_0 : decode cX5_standFor 0 = .ok (.aload_n 0, 1) := by decide +kernel
theorem dX5_standFor_1 : decode cX5_standFor 1 = .ok (.iload_n 1, 1) := by decide +kernel
theorem dX5_standFor_2 : decode cX5_standFor 2 = .ok (.iload_n 2, 1) := by decide +kernel
theorem dX5_standFor_3 : decode cX5_standFor 3 = .ok (.invokevirtual 175, 3) := by decide +kernel
theorem dX5_standFor_6 : decode cX5_standFor 6 = .ok (.ifCond .eq 15, 3) := by decide +kernel
theorem dX5_standFor_9 : decode cX5_standFor 9 = .ok (.aload_n 0, 1) := by decide +kernel
theorem dX5_standFor_10 : decode cX5_standFor 10 = .ok (.iload_n 1, 1) := by decide +kernel
theorem dX5_standFor_11 : decode cX5_standFor 11 = .ok (.iconst 1, 1) := by decide +kernel
theorem dX5_standFor_12 : decode cX5_standFor 12 = .ok (.bipush 16, 2) := by decide +kernel
theorem dX5_standFor_14 : decode cX5_standFor 14 = .ok (.iload_n 2, 1) := by decide +kernel
theorem dX5_standFor_15 : decode cX5_standFor 15 = .ok (.invokevirtual 178, 3) := by decide +kernel
theorem dX5_standFor_18 : decode cX5_standFor 18 = .ok (.goto 8, 3) := by decide +kernel
theorem dX5_standFor_21 : decode cX5_standFor 21 = .ok (.aload_n 0, 1) := by decide +kernel
theorem dX5_standFor_22 : decode cX5_standFor 22 = .ok (.iconst 0, 1) := by decide +kernel
theorem dX5_standFor_23 : decode cX5_standFor 23 = .ok (.invokevirtual 128, 3) := by decide +kernel
theorem dX5_standFor_26 : decode cX5_standFor 26 = .ok (.ireturn, 1) := by decide +kernel
theorem dX5_guiseFor_0 : decode cX5_guiseFor 0 = .ok (.aload_n 0, 1) := by decide +kernel
theorem dX5_guiseFor_1 : decode cX5_guiseFor 1 = .ok (.iload_n 1, 1) := by decide +kernel
theorem dX5_guiseFor_2 : decode cX5_guiseFor 2 = .ok (.iload_n 2, 1) := by decide +kernel
theorem dX5_guiseFor_3 : decode cX5_guiseFor 3 = .ok (.invokevirtual 175, 3) := by decide +kernel
theorem dX5_guiseFor_6 : decode cX5_guiseFor 6 = .ok (.ifCond .eq 15, 3) := by decide +kernel
theorem dX5_guiseFor_9 : decode cX5_guiseFor 9 = .ok (.aload_n 0, 1) := by decide +kernel
theorem dX5_guiseFor_10 : decode cX5_guiseFor 10 = .ok (.iload_n 1, 1) := by decide +kernel
theorem dX5_guiseFor_11 : decode cX5_guiseFor 11 = .ok (.iconst 2, 1) := by decide +kernel
theorem dX5_guiseFor_12 : decode cX5_guiseFor 12 = .ok (.bipush 12, 2) := by decide +kernel
theorem dX5_guiseFor_14 : decode cX5_guiseFor 14 = .ok (.iload_n 2, 1) := by decide +kernel
theorem dX5_guiseFor_15 : decode cX5_guiseFor 15 = .ok (.invokevirtual 178, 3) := by decide +kernel
theorem dX5_guiseFor_18 : decode cX5_guiseFor 18 = .ok (.goto 8, 3) := by decide +kernel
theorem dX5_guiseFor_21 : decode cX5_guiseFor 21 = .ok (.aload_n 0, 1) := by decide +kernel
theorem dX5_guiseFor_22 : decode cX5_guiseFor 22 = .ok (.iconst 0, 1) := by decide +kernel
theorem dX5_guiseFor_23 : decode cX5_guiseFor 23 = .ok (.invokevirtual 128, 3) := by decide +kernel
theorem dX5_guiseFor_26 : decode cX5_guiseFor 26 = .ok (.ireturn, 1) := by decide +kernel
theorem dX5_kindFor_0 : decode cX5_kindFor 0 = .ok (.aload_n 0, 1) := by decide +kernel
theorem dX5_kindFor_1 : decode cX5_kindFor 1 = .ok (.iload_n 1, 1) := by decide +kernel
theorem dX5_kindFor_2 : decode cX5_kindFor 2 = .ok (.iload_n 2, 1) := by decide +kernel
theorem dX5_kindFor_3 : decode cX5_kindFor 3 = .ok (.invokevirtual 175, 3) := by decide +kernel
theorem dX5_kindFor_6 : decode cX5_kindFor 6 = .ok (.ifCond .eq 15, 3) := by decide +kernel
theorem dX5_kindFor_9 : decode cX5_kindFor 9 = .ok (.aload_n 0, 1) := by decide +kernel
theorem dX5_kindFor_10 : decode cX5_kindFor 10 = .ok (.iload_n 1, 1) := by decide +kernel
theorem dX5_kindFor_11 : decode cX5_kindFor 11 = .ok (.iconst 0, 1) := by decide +kernel
theorem dX5_kindFor_12 : decode cX5_kindFor 12 = .ok (.bipush 7, 2) := by decide +kernel
theorem dX5_kindFor_14 : decode cX5_kindFor 14 = .ok (.iload_n 2, 1) := by decide +kernel
theorem dX5_kindFor_15 : decode cX5_kindFor 15 = .ok (.invokevirtual 178, 3) := by decide +kernel
theorem dX5_kindFor_18 : decode cX5_kindFor 18 = .ok (.goto 8, 3) := by decide +kernel
theorem dX5_kindFor_21 : decode cX5_kindFor 21 = .ok (.aload_n 0, 1) := by decide +kernel
theorem dX5_kindFor_22 : decode cX5_kindFor 22 = .ok (.iconst 0, 1) := by decide +kernel
theorem dX5_kindFor_23 : decode cX5_kindFor 23 = .ok (.invokevirtual 128, 3) := by decide +kernel
theorem dX5_kindFor_26 : decode cX5_kindFor 26 = .ok (.ireturn, 1) := by decide +kernel
theorem dX5_joyWith_0 : decode cX5_joyWith 0 = .ok (.aload_n 0, 1) := by decide +kernel
theorem dX5_joyWith_1 : decode cX5_joyWith 1 = .ok (.invokevirtual 159, 3) := by decide +kernel
theorem dX5_joyWith_4 : decode cX5_joyWith 4 = .ok (.iconst 0, 1) := by decide +kernel
theorem dX5_joyWith_5 : decode cX5_joyWith 5 = .ok (.istore_n 3, 1) := by decide +kernel
theorem dX5_joyWith_6 : decode cX5_joyWith 6 = .ok (.iload_n 3, 1) := by decide +kernel
theorem dX5_joyWith_7 : decode cX5_joyWith 7 = .ok (.aload_n 0, 1) := by decide +kernel
theorem dX5_joyWith_8 : decode cX5_joyWith 8 = .ok (.getfield 9, 3) := by decide +kernel
theorem dX5_joyWith_11 : decode cX5_joyWith 11 = .ok (.iconst 1, 1) := by decide +kernel
theorem dX5_joyWith_12 : decode cX5_joyWith 12 = .ok (.iaload, 1) := by decide +kernel
theorem dX5_joyWith_13 : decode cX5_joyWith 13 = .ok (.if_icmp .ge 27, 3) := by decide +kernel
theorem dX5_joyWith_16 : decode cX5_joyWith 16 = .ok (.aload_n 0, 1) := by decide +kernel
theorem dX5_joyWith_17 : decode cX5_joyWith 17 = .ok (.iload_n 3, 1) := by decide +kernel
theorem dX5_joyWith_18 : decode cX5_joyWith 18 = .ok (.iconst 5, 1) := by decide +kernel
theorem dX5_joyWith_19 : decode cX5_joyWith 19 = .ok (.aload_n 0, 1) := by decide +kernel
theorem dX5_joyWith_20 : decode cX5_joyWith 20 = .ok (.iload_n 3, 1) := by decide +kernel
theorem dX5_joyWith_21 : decode cX5_joyWith 21 = .ok (.iconst 5, 1) := by decide +kernel
theorem dX5_joyWith_22 : decode cX5_joyWith 22 = .ok (.invokevirtual 56, 3) := by decide +kernel
theorem dX5_joyWith_25 : decode cX5_joyWith 25 = .ok (.iload_n 1, 1) := by decide +kernel
theorem dX5_joyWith_26 : decode cX5_joyWith 26 = .ok (.iload_n 3, 1) := by decide +kernel
theorem dX5_joyWith_27 : decode cX5_joyWith 27 = .ok (.ishr, 1) := by decide +kernel
theorem dX5_joyWith_28 : decode cX5_joyWith 28 = .ok (.iconst 1, 1) := by decide +kernel
theorem dX5_joyWith_29 : decode cX5_joyWith 29 = .ok (.iand, 1) := by decide +kernel
theorem dX5_joyWith_30 : decode cX5_joyWith 30 = .ok (.ior, 1) := by decide +kernel
theorem dX5_joyWith_31 : decode cX5_joyWith 31 = .ok (.invokevirtual 81, 3) := by decide +kernel
theorem dX5_joyWith_34 : decode cX5_joyWith 34 = .ok (.iinc 3 1, 3) := by decide +kernel
theorem dX5_joyWith_37 : decode cX5_joyWith 37 = .ok (.goto (-31), 3) := by decide +kernel
theorem dX5_joyWith_40 : decode cX5_joyWith 40 = .ok (.aload_n 0, 1) := by decide +kernel
theorem dX5_joyWith_41 : decode cX5_joyWith 41 = .ok (.iload_n 2, 1) := by decide +kernel
theorem dX5_joyWith_42 : decode cX5_joyWith 42 = .ok (.invokevirtual 143, 3) := by decide +kernel
theorem dX5_joyWith_45 : decode cX5_joyWith 45 = .ok (.aload_n 0, 1) := by decide +kernel
theorem dX5_joyWith_46 : decode cX5_joyWith 46 = .ok (.getfield 9, 3) := by decide +kernel
theorem dX5_joyWith_49 : decode cX5_joyWith 49 = .ok (.iconst 3, 1) := by decide +kernel
theorem dX5_joyWith_50 : decode cX5_joyWith 50 = .ok (.iaload, 1) := by decide +kernel
theorem dX5_joyWith_51 : decode cX5_joyWith 51 = .ok (.istore_n 3, 1) := by decide +kernel
theorem dX5_joyWith_52 : decode cX5_joyWith 52 = .ok (.aload_n 0, 1) := by decide +kernel
theorem dX5_joyWith_53 : decode cX5_joyWith 53 = .ok (.invokevirtual 162, 3) := by decide +kernel
theorem dX5_joyWith_56 : decode cX5_joyWith 56 = .ok (.iload_n 3, 1) := by decide +kernel
theorem dX5_joyWith_57 : decode cX5_joyWith 57 = .ok (.ireturn, 1) := by decide +kernel
theorem dX5_dark_0 : decode cX5_dark 0 = .ok (.iload_n 1, 1) := by decide +kernel
theorem dX5_dark_1 : decode cX5_dark 1 = .ok (.iconst 0, 1) := by decide +kernel
theorem dX5_dark_2 : decode cX5_dark 2 = .ok (.bipush 24, 2) := by decide +kernel
theorem dX5_dark_4 : decode cX5_dark 4 = .ok (.invokestatic 48, 3) := by decide +kernel
theorem dX5_dark_7 : decode cX5_dark 7 = .ok (.ifCond .ne 9, 3) := by decide +kernel
theorem dX5_dark_10 : decode cX5_dark 10 = .ok (.aload_n 0, 1) := by decide +kernel
theorem dX5_dark_11 : decode cX5_dark 11 = .ok (.iconst 0, 1) := by decide +kernel
theorem dX5_dark_12 : decode cX5_dark 12 = .ok (.invokevirtual 128, 3) := by decide +kernel
theorem dX5_dark_15 : decode cX5_dark 15 = .ok (.ireturn, 1) := by decide +kernel
theorem dX5_dark_16 : decode cX5_dark 16 = .ok (.iconst (-1), 1) := by decide +kernel
theorem dX5_dark_17 : decode cX5_dark 17 = .ok (.istore_n 2, 1) := by decide +kernel
theorem dX5_dark_18 : decode cX5_dark 18 = .ok (.iconst 0, 1) := by decide +kernel
theorem dX5_dark_19 : decode cX5_dark 19 = .ok (.istore_n 3, 1) := by decide +kernel
theorem dX5_dark_20 : decode cX5_dark 20 = .ok (.iload_n 3, 1) := by decide +kernel
theorem dX5_dark_21 : decode cX5_dark 21 = .ok (.iconst 1, 1) := by decide +kernel
theorem dX5_dark_22 : decode cX5_dark 22 = .ok (.aload_n 0, 1) := by decide +kernel
theorem dX5_dark_23 : decode cX5_dark 23 = .ok (.getfield 9, 3) := by decide +kernel
theorem dX5_dark_26 : decode cX5_dark 26 = .ok (.iconst 1, 1) := by decide +kernel
theorem dX5_dark_27 : decode cX5_dark 27 = .ok (.iaload, 1) := by decide +kernel
theorem dX5_dark_28 : decode cX5_dark 28 = .ok (.ishl, 1) := by decide +kernel
theorem dX5_dark_29 : decode cX5_dark 29 = .ok (.if_icmp .ge 57, 3) := by decide +kernel
theorem dX5_dark_32 : decode cX5_dark 32 = .ok (.iload_n 2, 1) := by decide +kernel
theorem dX5_dark_33 : decode cX5_dark 33 = .ok (.ifCond .lt 14, 3) := by decide +kernel
theorem dX5_dark_36 : decode cX5_dark 36 = .ok (.iload_n 3, 1) := by decide +kernel
theorem dX5_dark_37 : decode cX5_dark 37 = .ok (.invokestatic 64, 3) := by decide +kernel
theorem dX5_dark_40 : decode cX5_dark 40 = .ok (.iload_n 2, 1) := by decide +kernel
theorem dX5_dark_41 : decode cX5_dark 41 = .ok (.invokestatic 64, 3) := by decide +kernel
theorem dX5_dark_44 : decode cX5_dark 44 = .ok (.if_icmp .ge 7, 3) := by decide +kernel
theorem dX5_dark_47 : decode cX5_dark 47 = .ok (.iconst 1, 1) := by decide +kernel
theorem dX5_dark_48 : decode cX5_dark 48 = .ok (.goto 4, 3) := by decide +kernel
theorem dX5_dark_51 : decode cX5_dark 51 = .ok (.iconst 0, 1) := by decide +kernel
theorem dX5_dark_52 : decode cX5_dark 52 = .ok (.istore 4, 2) := by decide +kernel
theorem dX5_dark_54 : decode cX5_dark 54 = .ok (.iload 4, 2) := by decide +kernel
theorem dX5_dark_56 : decode cX5_dark 56 = .ok (.ifCond .eq 22, 3) := by decide +kernel
theorem dX5_dark_59 : decode cX5_dark 59 = .ok (.aload_n 0, 1) := by decide +kernel
theorem dX5_dark_60 : decode cX5_dark 60 = .ok (.iload_n 3, 1) := by decide +kernel
theorem dX5_dark_61 : decode cX5_dark 61 = .ok (.iload_n 1, 1) := by decide +kernel
theorem dX5_dark_62 : decode cX5_dark 62 = .ok (.invokevirtual 182, 3) := by decide +kernel
theorem dX5_dark_65 : decode cX5_dark 65 = .ok (.aload_n 0, 1) := by decide +kernel
theorem dX5_dark_66 : decode cX5_dark 66 = .ok (.getfield 9, 3) := by decide +kernel
theorem dX5_dark_69 : decode cX5_dark 69 = .ok (.iconst 3, 1) := by decide +kernel
theorem dX5_dark_70 : decode cX5_dark 70 = .ok (.iaload, 1) := by decide +kernel
theorem dX5_dark_71 : decode cX5_dark 71 = .ok (.if_icmp .ne 7, 3) := by decide +kernel
theorem dX5_dark_74 : decode cX5_dark 74 = .ok (.iload_n 3, 1) := by decide +kernel
theorem dX5_dark_75 : decode cX5_dark 75 = .ok (.goto 4, 3) := by decide +kernel
theorem dX5_dark_78 : decode cX5_dark 78 = .ok (.iload_n 2, 1) := by decide +kernel
theorem dX5_dark_79 : decode cX5_dark 79 = .ok (.istore_n 2, 1) := by decide +kernel
theorem dX5_dark_80 : decode cX5_dark 80 = .ok (.iinc 3 1, 3) := by decide +kernel
theorem dX5_dark_83 : decode cX5_dark 83 = .ok (.goto (-63), 3) := by decide +kernel
theorem dX5_dark_86 : decode cX5_dark 86 = .ok (.iload_n 2, 1) := by decide +kernel
theorem dX5_dark_87 : decode cX5_dark 87 = .ok (.ifCond .ge 11, 3) := by decide +kernel
theorem dX5_dark_90 : decode cX5_dark 90 = .ok (.aload_n 0, 1) := by decide +kernel
theorem dX5_dark_91 : decode cX5_dark 91 = .ok (.iconst 3, 1) := by decide +kernel
theorem dX5_dark_92 : decode cX5_dark 92 = .ok (.invokevirtual 128, 3) := by decide +kernel
theorem dX5_dark_95 : decode cX5_dark 95 = .ok (.goto 4, 3) := by decide +kernel
theorem dX5_dark_98 : decode cX5_dark 98 = .ok (.iload_n 2, 1) := by decide +kernel
theorem dX5_dark_99 : decode cX5_dark 99 = .ok (.ireturn, 1) := by decide +kernel
theorem dX5_isCircle_0 : decode cX5_isCircle 0 = .ok (.iconst 0, 1) := by decide +kernel
theorem dX5_isCircle_1 : decode cX5_isCircle 1 = .ok (.istore_n 3, 1) := by decide +kernel
theorem dX5_isCircle_2 : decode cX5_isCircle 2 = .ok (.iload_n 3, 1) := by decide +kernel
theorem dX5_isCircle_3 : decode cX5_isCircle 3 = .ok (.aload_n 0, 1) := by decide +kernel
theorem dX5_isCircle_4 : decode cX5_isCircle 4 = .ok (.getfield 9, 3) := by decide +kernel
theorem dX5_isCircle_7 : decode cX5_isCircle 7 = .ok (.iconst 1, 1) := by decide +kernel
theorem dX5_isCircle_8 : decode cX5_isCircle 8 = .ok (.iaload, 1) := by decide +kernel
theorem dX5_isCircle_9 : decode cX5_isCircle 9 = .ok (.if_icmp .ge 39, 3) := by decide +kernel
theorem dX5_isCircle_12 : decode cX5_isCircle 12 = .ok (.iload_n 1, 1) := by decide +kernel
theorem dX5_isCircle_13 : decode cX5_isCircle 13 = .ok (.iload_n 3, 1) := by decide +kernel
theorem dX5_isCircle_14 : decode cX5_isCircle 14 = .ok (.ishr, 1) := by decide +kernel
theorem dX5_isCircle_15 : decode cX5_isCircle 15 = .ok (.iconst 1, 1) := by decide +kernel
theorem dX5_isCircle_16 : decode cX5_isCircle 16 = .ok (.iand, 1) := by decide +kernel
theorem dX5_isCircle_17 : decode cX5_isCircle 17 = .ok (.iconst 1, 1) := by decide +kernel
theorem dX5_isCircle_18 : decode cX5_isCircle 18 = .ok (.if_icmp .ne 24, 3) := by decide +kernel
theorem dX5_isCircle_21 : decode cX5_isCircle 21 = .ok (.iload_n 1, 1) := by decide +kernel
theorem dX5_isCircle_22 : decode cX5_isCircle 22 = .ok (.iconst 1, 1) := by decide +kernel
theorem dX5_isCircle_23 : decode cX5_isCircle 23 = .ok (.iload_n 3, 1) := by decide +kernel
theorem dX5_isCircle_24 : decode cX5_isCircle 24 = .ok (.ishl, 1) := by decide +kernel
theorem dX5_isCircle_25 : decode cX5_isCircle 25 = .ok (.iconst (-1), 1) := by decide +kernel
theorem dX5_isCircle_26 : decode cX5_isCircle 26 = .ok (.ixor, 1) := by decide +kernel
theorem dX5_isCircle_27 : decode cX5_isCircle 27 = .ok (.iand, 1) := by decide +kernel
theorem dX5_isCircle_28 : decode cX5_isCircle 28 = .ok (.aload_n 0, 1) := by decide +kernel
theorem dX5_isCircle_29 : decode cX5_isCircle 29 = .ok (.iload_n 3, 1) := by decide +kernel
theorem dX5_isCircle_30 : decode cX5_isCircle 30 = .ok (.iload_n 2, 1) := by decide +kernel
theorem dX5_isCircle_31 : decode cX5_isCircle 31 = .ok (.invokevirtual 56, 3) := by decide +kernel
theorem dX5_isCircle_34 : decode cX5_isCircle 34 = .ok (.iconst (-1), 1) := by decide +kernel
theorem dX5_isCircle_35 : decode cX5_isCircle 35 = .ok (.ixor, 1) := by decide +kernel
theorem dX5_isCircle_36 : decode cX5_isCircle 36 = .ok (.iand, 1) := by decide +kernel
theorem dX5_isCircle_37 : decode cX5_isCircle 37 = .ok (.ifCond .eq 5, 3) := by decide +kernel
theorem dX5_isCircle_40 : decode cX5_isCircle 40 = .ok (.iconst 0, 1) := by decide +kernel
theorem dX5_isCircle_41 : decode cX5_isCircle 41 = .ok (.ireturn, 1) := by decide +kernel
theorem dX5_isCircle_42 : decode cX5_isCircle 42 = .ok (.iinc 3 1, 3) := by decide +kernel
theorem dX5_isCircle_45 : decode cX5_isCircle 45 = .ok (.goto (-43), 3) := by decide +kernel
theorem dX5_isCircle_48 : decode cX5_isCircle 48 = .ok (.iconst 1, 1) := by decide +kernel
theorem dX5_isCircle_49 : decode cX5_isCircle 49 = .ok (.ireturn, 1) := by decide +kernel
theorem dX5_circle_0 : decode cX5_circle 0 = .ok (.iload_n 1, 1) := by decide +kernel
theorem dX5_circle_1 : decode cX5_circle 1 = .ok (.iconst 0, 1) := by decide +kernel
theorem dX5_circle_2 : decode cX5_circle 2 = .ok (.iconst 1, 1) := by decide +kernel
theorem dX5_circle_3 : decode cX5_circle 3 = .ok (.invokestatic 48, 3) := by decide +kernel
theorem dX5_circle_6 : decode cX5_circle 6 = .ok (.ifCond .ne 9, 3) := by decide +kernel
theorem dX5_circle_9 : decode cX5_circle 9 = .ok (.aload_n 0, 1) := by decide +kernel
theorem dX5_circle_10 : decode cX5_circle 10 = .ok (.iconst 0, 1) := by decide +kernel
theorem dX5_circle_11 : decode cX5_circle 11 = .ok (.invokevirtual 128, 3) := by decide +kernel
theorem dX5_circle_14 : decode cX5_circle 14 = .ok (.ireturn, 1) := by decide +kernel
theorem dX5_circle_15 : decode cX5_circle 15 = .ok (.iconst 0, 1) := by decide +kernel
theorem dX5_circle_16 : decode cX5_circle 16 = .ok (.istore_n 2, 1) := by decide +kernel
theorem dX5_circle_17 : decode cX5_circle 17 = .ok (.iconst 1, 1) := by decide +kernel
theorem dX5_circle_18 : decode cX5_circle 18 = .ok (.istore_n 3, 1) := by decide +kernel
theorem dX5_circle_19 : decode cX5_circle 19 = .ok (.iload_n 3, 1) := by decide +kernel
theorem dX5_circle_20 : decode cX5_circle 20 = .ok (.iconst 1, 1) := by decide +kernel
theorem dX5_circle_21 : decode cX5_circle 21 = .ok (.aload_n 0, 1) := by decide +kernel
theorem dX5_circle_22 : decode cX5_circle 22 = .ok (.getfield 9, 3) := by decide +kernel
theorem dX5_circle_25 : decode cX5_circle 25 = .ok (.iconst 1, 1) := by decide +kernel
theorem dX5_circle_26 : decode cX5_circle 26 = .ok (.iaload, 1) := by decide +kernel
theorem dX5_circle_27 : decode cX5_circle 27 = .ok (.ishl, 1) := by decide +kernel
theorem dX5_circle_28 : decode cX5_circle 28 = .ok (.if_icmp .ge 43, 3) := by decide +kernel
theorem dX5_circle_31 : decode cX5_circle 31 = .ok (.iload_n 3, 1) := by decide +kernel
theorem dX5_circle_32 : decode cX5_circle 32 = .ok (.invokestatic 64, 3) := by decide +kernel
theorem dX5_circle_35 : decode cX5_circle 35 = .ok (.iload_n 2, 1) := by decide +kernel
theorem dX5_circle_36 : decode cX5_circle 36 = .ok (.invokestatic 64, 3) := by decide +kernel
theorem dX5_circle_39 : decode cX5_circle 39 = .ok (.if_icmp .le 24, 3) := by decide +kernel
theorem dX5_circle_42 : decode cX5_circle 42 = .ok (.aload_n 0, 1) := by decide +kernel
theorem dX5_circle_43 : decode cX5_circle 43 = .ok (.iload_n 3, 1) := by decide +kernel
theorem dX5_circle_44 : decode cX5_circle 44 = .ok (.iload_n 1, 1) := by decide +kernel
theorem dX5_circle_45 : decode cX5_circle 45 = .ok (.ifCond .ne 7, 3) := by decide +kernel
theorem dX5_circle_48 : decode cX5_circle 48 = .ok (.iconst 3, 1) := by decide +kernel
theorem dX5_circle_49 : decode cX5_circle 49 = .ok (.goto 4, 3) := by decide +kernel
theorem dX5_circle_52 : decode cX5_circle 52 = .ok (.iconst 4, 1) := by decide +kernel
theorem dX5_circle_53 : decode cX5_circle 53 = .ok (.invokevirtual 185, 3) := by decide +kernel
theorem dX5_circle_56 : decode cX5_circle 56 = .ok (.ifCond .eq 7, 3) := by decide +kernel
theorem dX5_circle_59 : decode cX5_circle 59 = .ok (.iload_n 3, 1) := by decide +kernel
theorem dX5_circle_60 : decode cX5_circle 60 = .ok (.goto 4, 3) := by decide +kernel
theorem dX5_circle_63 : decode cX5_circle 63 = .ok (.iload_n 2, 1) := by decide +kernel
theorem dX5_circle_64 : decode cX5_circle 64 = .ok (.istore_n 2, 1) := by decide +kernel
theorem dX5_circle_65 : decode cX5_circle 65 = .ok (.iinc 3 1, 3) := by decide +kernel
theorem dX5_circle_68 : decode cX5_circle 68 = .ok (.goto (-49), 3) := by decide +kernel
theorem dX5_circle_71 : decode cX5_circle 71 = .ok (.iload_n 2, 1) := by decide +kernel
theorem dX5_circle_72 : decode cX5_circle 72 = .ok (.ireturn, 1) := by decide +kernel
theorem dX5_isSheet_0 : decode cX5_isSheet 0 = .ok (.iload_n 0, 1) := by decide +kernel
theorem dX5_isSheet_1 : decode cX5_isSheet 1 = .ok (.iconst 0, 1) := by decide +kernel
theorem dX5_isSheet_2 : decode cX5_isSheet 2 = .ok (.iconst 3, 1) := by decide +kernel
theorem dX5_isSheet_3 : decode cX5_isSheet 3 = .ok (.invokestatic 48, 3) := by decide +kernel
theorem dX5_isSheet_6 : decode cX5_isSheet 6 = .ok (.ireturn, 1) := by decide +kernel
theorem dX5_wrongSheet_0 : decode cX5_wrongSheet 0 = .ok (.iload_n 1, 1) := by decide +kernel
theorem dX5_wrongSheet_1 : decode cX5_wrongSheet 1 = .ok (.invokestatic 188, 3) := by decide +kernel
theorem dX5_wrongSheet_4 : decode cX5_wrongSheet 4 = .ok (.ifCond .ne 7, 3) := by decide +kernel
theorem dX5_wrongSheet_7 : decode cX5_wrongSheet 7 = .ok (.iconst 0, 1) := by decide +kernel
theorem dX5_wrongSheet_8 : decode cX5_wrongSheet 8 = .ok (.goto 17, 3) := by decide +kernel
theorem dX5_wrongSheet_11 : decode cX5_wrongSheet 11 = .ok (.aload_n 0, 1) := by decide +kernel
theorem dX5_wrongSheet_12 : decode cX5_wrongSheet 12 = .ok (.getfield 35, 3) := by decide +kernel
theorem dX5_wrongSheet_15 : decode cX5_wrongSheet 15 = .ok (.iload_n 1, 1) := by decide +kernel
theorem dX5_wrongSheet_16 : decode cX5_wrongSheet 16 = .ok (.iaload, 1) := by decide +kernel
theorem dX5_wrongSheet_17 : decode cX5_wrongSheet 17 = .ok (.ifCond .ne 7, 3) := by decide +kernel
theorem dX5_wrongSheet_20 : decode cX5_wrongSheet 20 = .ok (.iconst 5, 1) := by decide +kernel
theorem dX5_wrongSheet_21 : decode cX5_wrongSheet 21 = .ok (.goto 4, 3) := by decide +kernel
theorem dX5_wrongSheet_24 : decode cX5_wrongSheet 24 = .ok (.iconst (-1), 1) := by decide +kernel
theorem dX5_wrongSheet_25 : decode cX5_wrongSheet 25 = .ok (.ireturn, 1) := by decide +kernel
theorem dX5_wrongTold_0 : decode cX5_wrongTold 0 = .ok (.aload_n 0, 1) := by decide +kernel
theorem dX5_wrongTold_1 : decode cX5_wrongTold 1 = .ok (.iload_n 1, 1) := by decide +kernel
theorem dX5_wrongTold_2 : decode cX5_wrongTold 2 = .ok (.invokevirtual 191, 3) := by decide +kernel
theorem dX5_wrongTold_5 : decode cX5_wrongTold 5 = .ok (.istore_n 3, 1) := by decide +kernel
theorem dX5_wrongTold_6 : decode cX5_wrongTold 6 = .ok (.iload_n 3, 1) := by decide +kernel
theorem dX5_wrongTold_7 : decode cX5_wrongTold 7 = .ok (.ifCond .lt 7, 3) := by decide +kernel
theorem dX5_wrongTold_10 : decode cX5_wrongTold 10 = .ok (.iload_n 3, 1) := by decide +kernel
theorem dX5_wrongTold_11 : decode cX5_wrongTold 11 = .ok (.goto 16, 3) := by decide +kernel
theorem dX5_wrongTold_14 : decode cX5_wrongTold 14 = .ok (.aload_n 0, 1) := by decide +kernel
theorem dX5_wrongTold_15 : decode cX5_wrongTold 15 = .ok (.iload_n 2, 1) := by decide +kernel
theorem dX5_wrongTold_16 : decode cX5_wrongTold 16 = .ok (.invokevirtual 52, 3) := by decide +kernel
theorem dX5_wrongTold_19 : decode cX5_wrongTold 19 = .ok (.ifCond .eq 7, 3) := by decide +kernel
theorem dX5_wrongTold_22 : decode cX5_wrongTold 22 = .ok (.iconst (-1), 1) := by decide +kernel
theorem dX5_wrongTold_23 : decode cX5_wrongTold 23 = .ok (.goto 4, 3) := by decide +kernel
theorem dX5_wrongTold_26 : decode cX5_wrongTold 26 = .ok (.iconst 0, 1) := by decide +kernel
theorem dX5_wrongTold_27 : decode cX5_wrongTold 27 = .ok (.ireturn, 1) := by decide +kernel
theorem dX5_told_0 : decode cX5_told 0 = .ok (.aload_n 0, 1) := by decide +kernel
theorem dX5_told_1 : decode cX5_told 1 = .ok (.getfield 41, 3) := by decide +kernel
theorem dX5_told_4 : decode cX5_told 4 = .ok (.bipush 40, 2) := by decide +kernel
theorem dX5_told_6 : decode cX5_told 6 = .ok (.iload_n 1, 1) := by decide +kernel
theorem dX5_told_7 : decode cX5_told 7 = .ok (.imul, 1) := by decide +kernel
theorem dX5_told_8 : decode cX5_told 8 = .ok (.iload_n 2, 1) := by decide +kernel
theorem dX5_told_9 : decode cX5_told 9 = .ok (.iadd, 1) := by decide +kernel
theorem dX5_told_10 : decode cX5_told 10 = .ok (.iaload, 1) := by decide +kernel
theorem dX5_told_11 : decode cX5_told 11 = .ok (.ireturn, 1) := by decide +kernel
theorem dX5_allThatFit_0 : decode cX5_allThatFit 0 = .ok (.iconst 0, 1) := by decide +kernel
theorem dX5_allThatFit_1 : decode cX5_allThatFit 1 = .ok (.istore 5, 2) := by decide +kernel
theorem dX5_allThatFit_3 : decode cX5_allThatFit 3 = .ok (.iconst 0, 1) := by decide +kernel
theorem dX5_allThatFit_4 : decode cX5_allThatFit 4 = .ok (.istore 6, 2) := by decide +kernel
theorem dX5_allThatFit_6 : decode cX5_allThatFit 6 = .ok (.iload 6, 2) := by decide +kernel
theorem dX5_allThatFit_8 : decode cX5_allThatFit 8 = .ok (.iload 4, 2) := by decide +kernel
theorem dX5_allThatFit_10 : decode cX5_allThatFit 10 = .ok (.if_icmp .ge 109, 3) := by decide +kernel
theorem dX5_allThatFit_13 : decode cX5_allThatFit 13 = .ok (.aload_n 0, 1) := by decide +kernel
theorem dX5_allThatFit_14 : decode cX5_allThatFit 14 = .ok (.invokevirtual 159, 3) := by decide +kernel
theorem dX5_allThatFit_17 : decode cX5_allThatFit 17 = .ok (.aload_n 0, 1) := by decide +kernel
theorem dX5_allThatFit_18 : decode cX5_allThatFit 18 = .ok (.iload_n 2, 1) := by decide +kernel
theorem dX5_allThatFit_19 : decode cX5_allThatFit 19 = .ok (.iload_n 3, 1) := by decide +kernel
theorem dX5_allThatFit_20 : decode cX5_allThatFit 20 = .ok (.iload 6, 2) := by decide +kernel
theorem dX5_allThatFit_22 : decode cX5_allThatFit 22 = .ok (.invokevirtual 81, 3) := by decide +kernel
theorem dX5_allThatFit_25 : decode cX5_allThatFit 25 = .ok (.iconst 1, 1) := by decide +kernel
theorem dX5_allThatFit_26 : decode cX5_allThatFit 26 = .ok (.istore 7, 2) := by decide +kernel
theorem dX5_allThatFit_28 : decode cX5_allThatFit 28 = .ok (.iconst 0, 1) := by decide +kernel
theorem dX5_allThatFit_29 : decode cX5_allThatFit 29 = .ok (.istore 8, 2) := by decide +kernel
theorem dX5_allThatFit_31 : decode cX5_allThatFit 31 = .ok (.iload 8, 2) := by decide +kernel
theorem dX5_allThatFit_33 : decode cX5_allThatFit 33 = .ok (.aload_n 0, 1) := by decide +kernel
theorem dX5_allThatFit_34 : decode cX5_allThatFit 34 = .ok (.getfield 38, 3) := by decide +kernel
theorem dX5_allThatFit_37 : decode cX5_allThatFit 37 = .ok (.iload_n 1, 1) := by decide +kernel
theorem dX5_allThatFit_38 : decode cX5_allThatFit 38 = .ok (.iaload, 1) := by decide +kernel
theorem dX5_allThatFit_39 : decode cX5_allThatFit 39 = .ok (.if_icmp .ge 52, 3) := by decide +kernel
theorem dX5_allThatFit_42 : decode cX5_allThatFit 42 = .ok (.iload 7, 2) := by decide +kernel
theorem dX5_allThatFit_44 : decode cX5_allThatFit 44 = .ok (.ifCond .eq 47, 3) := by decide +kernel
theorem dX5_allThatFit_47 : decode cX5_allThatFit 47 = .ok (.aload_n 0, 1) := by decide +kernel
theorem dX5_allThatFit_48 : decode cX5_allThatFit 48 = .ok (.iload_n 1, 1) := by decide +kernel
theorem dX5_allThatFit_49 : decode cX5_allThatFit 49 = .ok (.iload 8, 2) := by decide +kernel
theorem dX5_allThatFit_51 : decode cX5_allThatFit 51 = .ok (.invokevirtual 194, 3) := by decide +kernel
theorem dX5_allThatFit_54 : decode cX5_allThatFit 54 = .ok (.iconst (-1), 1) := by decide +kernel
theorem dX5_allThatFit_55 : decode cX5_allThatFit 55 = .ok (.if_icmp .eq 19, 3) := by decide +kernel
theorem dX5_allThatFit_58 : decode cX5_allThatFit 58 = .ok (.aload_n 0, 1) := by decide +kernel
theorem dX5_allThatFit_59 : decode cX5_allThatFit 59 = .ok (.iload_n 1, 1) := by decide +kernel
theorem dX5_allThatFit_60 : decode cX5_allThatFit 60 = .ok (.iload 8, 2) := by decide +kernel
theorem dX5_allThatFit_62 : decode cX5_allThatFit 62 = .ok (.invokevirtual 194, 3) := by decide +kernel
theorem dX5_allThatFit_65 : decode cX5_allThatFit 65 = .ok (.aload_n 0, 1) := by decide +kernel
theorem dX5_allThatFit_66 : decode cX5_allThatFit 66 = .ok (.iload_n 2, 1) := by decide +kernel
theorem dX5_allThatFit_67 : decode cX5_allThatFit 67 = .ok (.iconst 3, 1) := by decide +kernel
theorem dX5_allThatFit_68 : decode cX5_allThatFit 68 = .ok (.invokevirtual 56, 3) := by decide +kernel
theorem dX5_allThatFit_71 : decode cX5_allThatFit 71 = .ok (.if_icmp .ne 7, 3) := by decide +kernel
theorem dX5_allThatFit_74 : decode cX5_allThatFit 74 = .ok (.iconst 1, 1) := by decide +kernel
theorem dX5_allThatFit_75 : decode cX5_allThatFit 75 = .ok (.goto 4, 3) := by decide +kernel
theorem dX5_allThatFit_78 : decode cX5_allThatFit 78 = .ok (.iconst 0, 1) := by decide +kernel
theorem dX5_allThatFit_79 : decode cX5_allThatFit 79 = .ok (.istore 7, 2) := by decide +kernel
theorem dX5_allThatFit_81 : decode cX5_allThatFit 81 = .ok (.aload_n 0, 1) := by decide +kernel
theorem dX5_allThatFit_82 : decode cX5_allThatFit 82 = .ok (.invokevirtual 122, 3) := by decide +kernel
theorem dX5_allThatFit_85 : decode cX5_allThatFit 85 = .ok (.iinc 8 1, 3) := by decide +kernel
theorem dX5_allThatFit_88 : decode cX5_allThatFit 88 = .ok (.goto (-57), 3) := by decide +kernel
theorem dX5_allThatFit_91 : decode cX5_allThatFit 91 = .ok (.aload_n 0, 1) := by decide +kernel
theorem dX5_allThatFit_92 : decode cX5_allThatFit 92 = .ok (.invokevirtual 162, 3) := by decide +kernel
theorem dX5_allThatFit_95 : decode cX5_allThatFit 95 = .ok (.iload 5, 2) := by decide +kernel
theorem dX5_allThatFit_97 : decode cX5_allThatFit 97 = .ok (.iload 7, 2) := by decide +kernel
theorem dX5_allThatFit_99 : decode cX5_allThatFit 99 = .ok (.ifCond .eq 10, 3) := by decide +kernel
theorem dX5_allThatFit_102 : decode cX5_allThatFit 102 = .ok (.iconst 1, 1) := by decide +kernel
theorem dX5_allThatFit_103 : decode cX5_allThatFit 103 = .ok (.iload 6, 2) := by decide +kernel
theorem dX5_allThatFit_105 : decode cX5_allThatFit 105 = .ok (.ishl, 1) := by decide +kernel
theorem dX5_allThatFit_106 : decode cX5_allThatFit 106 = .ok (.goto 4, 3) := by decide +kernel
theorem dX5_allThatFit_109 : decode cX5_allThatFit 109 = .ok (.iconst 0, 1) := by decide +kernel
theorem dX5_allThatFit_110 : decode cX5_allThatFit 110 = .ok (.ior, 1) := by decide +kernel
theorem dX5_allThatFit_111 : decode cX5_allThatFit 111 = .ok (.istore 5, 2) := by decide +kernel
theorem dX5_allThatFit_113 : decode cX5_allThatFit 113 = .ok (.iinc 6 1, 3) := by decide +kernel
theorem dX5_allThatFit_116 : decode cX5_allThatFit 116 = .ok (.goto (-110), 3) := by decide +kernel
theorem dX5_allThatFit_119 : decode cX5_allThatFit 119 = .ok (.iload 5, 2) := by decide +kernel
theorem dX5_allThatFit_121 : decode cX5_allThatFit 121 = .ok (.ireturn, 1) := by decide +kernel
theorem dX5_fits_0 : decode cX5_fits 0 = .ok (.aload_n 0, 1) := by decide +kernel
theorem dX5_fits_1 : decode cX5_fits 1 = .ok (.iload_n 1, 1) := by decide +kernel
theorem dX5_fits_2 : decode cX5_fits 2 = .ok (.iload_n 2, 1) := by decide +kernel
theorem dX5_fits_3 : decode cX5_fits 3 = .ok (.invokevirtual 197, 3) := by decide +kernel
theorem dX5_fits_6 : decode cX5_fits 6 = .ok (.istore_n 3, 1) := by decide +kernel
theorem dX5_fits_7 : decode cX5_fits 7 = .ok (.iload_n 3, 1) := by decide +kernel
theorem dX5_fits_8 : decode cX5_fits 8 = .ok (.ifCond .lt 11, 3) := by decide +kernel
theorem dX5_fits_11 : decode cX5_fits 11 = .ok (.aload_n 0, 1) := by decide +kernel
theorem dX5_fits_12 : decode cX5_fits 12 = .ok (.iload_n 3, 1) := by decide +kernel
theorem dX5_fits_13 : decode cX5_fits 13 = .ok (.invokevirtual 128, 3) := by decide +kernel
theorem dX5_fits_16 : decode cX5_fits 16 = .ok (.goto 12, 3) := by decide +kernel
theorem dX5_fits_19 : decode cX5_fits 19 = .ok (.aload_n 0, 1) := by decide +kernel
theorem dX5_fits_20 : decode cX5_fits 20 = .ok (.iload_n 1, 1) := by decide +kernel
theorem dX5_fits_21 : decode cX5_fits 21 = .ok (.iload_n 2, 1) := by decide +kernel
theorem dX5_fits_22 : decode cX5_fits 22 = .ok (.iconst 2, 1) := by decide +kernel
theorem dX5_fits_23 : decode cX5_fits 23 = .ok (.bipush 12, 2) := by decide +kernel
theorem dX5_fits_25 : decode cX5_fits 25 = .ok (.invokevirtual 200, 3) := by decide +kernel
theorem dX5_fits_28 : decode cX5_fits 28 = .ok (.ireturn, 1) := by decide +kernel
theorem dX5_kinds_0 : decode cX5_kinds 0 = .ok (.aload_n 0, 1) := by decide +kernel
theorem dX5_kinds_1 : decode cX5_kinds 1 = .ok (.iload_n 1, 1) := by decide +kernel
theorem dX5_kinds_2 : decode cX5_kinds 2 = .ok (.iload_n 2, 1) := by decide +kernel
theorem dX5_kinds_3 : decode cX5_kinds 3 = .ok (.invokevirtual 197, 3) := by decide +kernel
theorem dX5_kinds_6 : decode cX5_kinds 6 = .ok (.istore_n 3, 1) := by decide +kernel
theorem dX5_kinds_7 : decode cX5_kinds 7 = .ok (.iload_n 3, 1) := by decide +kernel
theorem dX5_kinds_8 : decode cX5_kinds 8 = .ok (.ifCond .lt 11, 3) := by decide +kernel
theorem dX5_kinds_11 : decode cX5_kinds 11 = .ok (.aload_n 0, 1) := by decide +kernel
theorem dX5_kinds_12 : decode cX5_kinds 12 = .ok (.iload_n 3, 1) := by decide +kernel
theorem dX5_kinds_13 : decode cX5_kinds 13 = .ok (.invokevirtual 128, 3) := by decide +kernel
theorem dX5_kinds_16 : decode cX5_kinds 16 = .ok (.goto 12, 3) := by decide +kernel
theorem dX5_kinds_19 : decode cX5_kinds 19 = .ok (.aload_n 0, 1) := by decide +kernel
theorem dX5_kinds_20 : decode cX5_kinds 20 = .ok (.iload_n 1, 1) := by decide +kernel
theorem dX5_kinds_21 : decode cX5_kinds 21 = .ok (.iload_n 2, 1) := by decide +kernel
theorem dX5_kinds_22 : decode cX5_kinds 22 = .ok (.iconst 0, 1) := by decide +kernel
theorem dX5_kinds_23 : decode cX5_kinds 23 = .ok (.bipush 7, 2) := by decide +kernel
theorem dX5_kinds_25 : decode cX5_kinds 25 = .ok (.invokevirtual 200, 3) := by decide +kernel
theorem dX5_kinds_28 : decode cX5_kinds 28 = .ok (.ireturn, 1) := by decide +kernel
theorem dX5_draw_0 : decode cX5_draw 0 = .ok (.aload_n 0, 1) := by decide +kernel
theorem dX5_draw_1 : decode cX5_draw 1 = .ok (.getfield 9, 3) := by decide +kernel
theorem dX5_draw_4 : decode cX5_draw 4 = .ok (.iconst 2, 1) := by decide +kernel
theorem dX5_draw_5 : decode cX5_draw 5 = .ok (.aload_n 0, 1) := by decide +kernel
theorem dX5_draw_6 : decode cX5_draw 6 = .ok (.getfield 9, 3) := by decide +kernel
theorem dX5_draw_9 : decode cX5_draw 9 = .ok (.iconst 2, 1) := by decide +kernel
theorem dX5_draw_10 : decode cX5_draw 10 = .ok (.iaload, 1) := by decide +kernel
theorem dX5_draw_11 : decode cX5_draw 11 = .ok (.ldc 203, 2) := by decide +kernel
theorem dX5_draw_13 : decode cX5_draw 13 = .ok (.imul, 1) := by decide +kernel
theorem dX5_draw_14 : decode cX5_draw 14 = .ok (.sipush 12345, 3) := by decide +kernel
theorem dX5_draw_17 : decode cX5_draw 17 = .ok (.iadd, 1) := by decide +kernel
theorem dX5_draw_18 : decode cX5_draw 18 = .ok (.iastore, 1) := by decide +kernel
theorem dX5_draw_19 : decode cX5_draw 19 = .ok (.aload_n 0, 1) := by decide +kernel
theorem dX5_draw_20 : decode cX5_draw 20 = .ok (.getfield 9, 3) := by decide +kernel
theorem dX5_draw_23 : decode cX5_draw 23 = .ok (.iconst 2, 1) := by decide +kernel
theorem dX5_draw_24 : decode cX5_draw 24 = .ok (.iaload, 1) := by decide +kernel
theorem dX5_draw_25 : decode cX5_draw 25 = .ok (.bipush 8, 2) := by decide +kernel
theorem dX5_draw_27 : decode cX5_draw 27 = .ok (.iushr, 1) := by decide +kernel
theorem dX5_draw_28 : decode cX5_draw 28 = .ok (.ireturn, 1) := by decide +kernel
theorem dX5_night_0 : decode cX5_night 0 = .ok (.iload_n 1, 1) := by decide +kernel
theorem dX5_night_1 : decode cX5_night 1 = .ok (.iconst 1, 1) := by decide +kernel
theorem dX5_night_2 : decode cX5_night 2 = .ok (.bipush 20, 2) := by decide +kernel
theorem dX5_night_4 : decode cX5_night 4 = .ok (.invokestatic 48, 3) := by decide +kernel
theorem dX5_night_7 : decode cX5_night 7 = .ok (.ifCond .ne 9, 3) := by decide +kernel
theorem dX5_night_10 : decode cX5_night 10 = .ok (.aload_n 0, 1) := by decide +kernel
theorem dX5_night_11 : decode cX5_night 11 = .ok (.iconst 0, 1) := by decide +kernel
theorem dX5_night_12 : decode cX5_night 12 = .ok (.invokevirtual 128, 3) := by decide +kernel
theorem dX5_night_15 : decode cX5_night 15 = .ok (.ireturn, 1) := by decide +kernel
theorem dX5_night_16 : decode cX5_night 16 = .ok (.aload_n 0, 1) := by decide +kernel
theorem dX5_night_17 : decode cX5_night 17 = .ok (.getfield 9, 3) := by decide +kernel
theorem dX5_night_20 : decode cX5_night 20 = .ok (.iconst 0, 1) := by decide +kernel
theorem dX5_night_21 : decode cX5_night 21 = .ok (.iaload, 1) := by decide +kernel
theorem dX5_night_22 : decode cX5_night 22 = .ok (.iload_n 1, 1) := by decide +kernel
theorem dX5_night_23 : decode cX5_night 23 = .ok (.iadd, 1) := by decide +kernel
theorem dX5_night_24 : decode cX5_night 24 = .ok (.ldc 88, 2) := by decide +kernel
theorem dX5_night_26 : decode cX5_night 26 = .ok (.if_icmp .le 9, 3) := by decide +kernel
theorem dX5_night_29 : decode cX5_night 29 = .ok (.aload_n 0, 1) := by decide +kernel
theorem dX5_night_30 : decode cX5_night 30 = .ok (.iconst 4, 1) := by decide +kernel
theorem dX5_night_31 : decode cX5_night 31 = .ok (.invokevirtual 128, 3) := by decide +kernel
theorem dX5_night_34 : decode cX5_night 34 = .ok (.ireturn, 1) := by decide +kernel
theorem dX5_night_35 : decode cX5_night 35 = .ok (.iconst 0, 1) := by decide +kernel
theorem dX5_night_36 : decode cX5_night 36 = .ok (.istore_n 2, 1) := by decide +kernel
theorem dX5_night_37 : decode cX5_night 37 = .ok (.iload_n 2, 1) := by decide +kernel
theorem dX5_night_38 : decode cX5_night 38 = .ok (.iload_n 1, 1) := by decide +kernel
theorem dX5_night_39 : decode cX5_night 39 = .ok (.if_icmp .ge 63, 3) := by decide +kernel
theorem dX5_night_42 : decode cX5_night 42 = .ok (.aload_n 0, 1) := by decide +kernel
theorem dX5_night_43 : decode cX5_night 43 = .ok (.invokevirtual 204, 3) := by decide +kernel
theorem dX5_night_46 : decode cX5_night 46 = .ok (.bipush 8, 2) := by decide +kernel
theorem dX5_night_48 : decode cX5_night 48 = .ok (.irem, 1) := by decide +kernel
theorem dX5_night_49 : decode cX5_night 49 = .ok (.istore_n 3, 1) := by decide +kernel
theorem dX5_night_50 : decode cX5_night 50 = .ok (.aload_n 0, 1) := by decide +kernel
theorem dX5_night_51 : decode cX5_night 51 = .ok (.invokevirtual 204, 3) := by decide +kernel
theorem dX5_night_54 : decode cX5_night 54 = .ok (.bipush 16, 2) := by decide +kernel
theorem dX5_night_56 : decode cX5_night 56 = .ok (.irem, 1) := by decide +kernel
theorem dX5_night_57 : decode cX5_night 57 = .ok (.istore 4, 2) := by decide +kernel
theorem dX5_night_59 : decode cX5_night 59 = .ok (.aload_n 0, 1) := by decide +kernel
theorem dX5_night_60 : decode cX5_night 60 = .ok (.invokevirtual 204, 3) := by decide +kernel
theorem dX5_night_63 : decode cX5_night 63 = .ok (.bipush 12, 2) := by decide +kernel
theorem dX5_night_65 : decode cX5_night 65 = .ok (.irem, 1) := by decide +kernel
theorem dX5_night_66 : decode cX5_night 66 = .ok (.istore 5, 2) := by decide +kernel
theorem dX5_night_68 : decode cX5_night 68 = .ok (.aload_n 0, 1) := by decide +kernel
theorem dX5_night_69 : decode cX5_night 69 = .ok (.iload_n 3, 1) := by decide +kernel
theorem dX5_night_70 : decode cX5_night 70 = .ok (.invokevirtual 52, 3) := by decide +kernel
theorem dX5_night_73 : decode cX5_night 73 = .ok (.ifCond .eq 19, 3) := by decide +kernel
theorem dX5_night_76 : decode cX5_night 76 = .ok (.aload_n 0, 1) := by decide +kernel
theorem dX5_night_77 : decode cX5_night 77 = .ok (.iload_n 3, 1) := by decide +kernel
theorem dX5_night_78 : decode cX5_night 78 = .ok (.iconst 1, 1) := by decide +kernel
theorem dX5_night_79 : decode cX5_night 79 = .ok (.iload 4, 2) := by decide +kernel
theorem dX5_night_81 : decode cX5_night 81 = .ok (.invokevirtual 81, 3) := by decide +kernel
theorem dX5_night_84 : decode cX5_night 84 = .ok (.aload_n 0, 1) := by decide +kernel
theorem dX5_night_85 : decode cX5_night 85 = .ok (.iload_n 3, 1) := by decide +kernel
theorem dX5_night_86 : decode cX5_night 86 = .ok (.iconst 2, 1) := by decide +kernel
theorem dX5_night_87 : decode cX5_night 87 = .ok (.iload 5, 2) := by decide +kernel
theorem dX5_night_89 : decode cX5_night 89 = .ok (.invokevirtual 81, 3) := by decide +kernel
theorem dX5_night_92 : decode cX5_night 92 = .ok (.aload_n 0, 1) := by decide +kernel
theorem dX5_night_93 : decode cX5_night 93 = .ok (.invokevirtual 122, 3) := by decide +kernel
theorem dX5_night_96 : decode cX5_night 96 = .ok (.iinc 2 1, 3) := by decide +kernel
theorem dX5_night_99 : decode cX5_night 99 = .ok (.goto (-62), 3) := by decide +kernel
theorem dX5_night_102 : decode cX5_night 102 = .ok (.aload_n 0, 1) := by decide +kernel
theorem dX5_night_103 : decode cX5_night 103 = .ok (.getfield 9, 3) := by decide +kernel
theorem dX5_night_106 : decode cX5_night 106 = .ok (.iconst 3, 1) := by decide +kernel
theorem dX5_night_107 : decode cX5_night 107 = .ok (.iaload, 1) := by decide +kernel
theorem dX5_night_108 : decode cX5_night 108 = .ok (.ireturn, 1) := by decide +kernel
theorem dX5_odds_0 : decode cX5_odds 0 = .ok (.aload_n 0, 1) := by decide +kernel
theorem dX5_odds_1 : decode cX5_odds 1 = .ok (.iload_n 1, 1) := by decide +kernel
theorem dX5_odds_2 : decode cX5_odds 2 = .ok (.invokevirtual 52, 3) := by decide +kernel
theorem dX5_odds_5 : decode cX5_odds 5 = .ok (.ifCond .eq 22, 3) := by decide +kernel
theorem dX5_odds_8 : decode cX5_odds 8 = .ok (.iload_n 2, 1) := by decide +kernel
theorem dX5_odds_9 : decode cX5_odds 9 = .ok (.iconst 0, 1) := by decide +kernel
theorem dX5_odds_10 : decode cX5_odds 10 = .ok (.bipush 17, 2) := by decide +kernel
theorem dX5_odds_12 : decode cX5_odds 12 = .ok (.invokestatic 48, 3) := by decide +kernel
theorem dX5_odds_15 : decode cX5_odds 15 = .ok (.ifCond .eq 12, 3) := by decide +kernel
theorem dX5_odds_18 : decode cX5_odds 18 = .ok (.iload_n 3, 1) := by decide +kernel
theorem dX5_odds_19 : decode cX5_odds 19 = .ok (.iconst 0, 1) := by decide +kernel
theorem dX5_odds_20 : decode cX5_odds 20 = .ok (.iconst 1, 1) := by decide +kernel
theorem dX5_odds_21 : decode cX5_odds 21 = .ok (.invokestatic 48, 3) := by decide +kernel
theorem dX5_odds_24 : decode cX5_odds 24 = .ok (.ifCond .ne 10, 3) := by decide +kernel
theorem dX5_odds_27 : decode cX5_odds 27 = .ok (.aload_n 0, 1) := by decide +kernel
theorem dX5_odds_28 : decode cX5_odds 28 = .ok (.iconst 0, 1) := by decide +kernel
theorem dX5_odds_29 : decode cX5_odds 29 = .ok (.invokevirtual 128, 3) := by decide +kernel
theorem dX5_odds_32 : decode cX5_odds 32 = .ok (.i2l, 1) := by decide +kernel
theorem dX5_odds_33 : decode cX5_odds 33 = .ok (.lreturn, 1) := by decide +kernel
theorem dX5_odds_34 : decode cX5_odds 34 = .ok (.iconst 0, 1) := by decide +kernel
theorem dX5_odds_35 : decode cX5_odds 35 = .ok (.istore 4, 2) := by decide +kernel
theorem dX5_odds_37 : decode cX5_odds 37 = .ok (.iconst 0, 1) := by decide +kernel
theorem dX5_odds_38 : decode cX5_odds 38 = .ok (.istore 5, 2) := by decide +kernel
theorem dX5_odds_40 : decode cX5_odds 40 = .ok (.iload 5, 2) := by decide +kernel
theorem dX5_odds_42 : decode cX5_odds 42 = .ok (.bipush 12, 2) := by decide +kernel
theorem dX5_odds_44 : decode cX5_odds 44 = .ok (.if_icmp .ge 29, 3) := by decide +kernel
theorem dX5_odds_47 : decode cX5_odds 47 = .ok (.iload 4, 2) := by decide +kernel
theorem dX5_odds_49 : decode cX5_odds 49 = .ok (.aload_n 0, 1) := by decide +kernel
theorem dX5_odds_50 : decode cX5_odds 50 = .ok (.iload_n 1, 1) := by decide +kernel
theorem dX5_odds_51 : decode cX5_odds 51 = .ok (.iload 5, 2) := by decide +kernel
theorem dX5_odds_53 : decode cX5_odds 53 = .ok (.invokevirtual 77, 3) := by decide +kernel
theorem dX5_odds_56 : decode cX5_odds 56 = .ok (.ifCond .eq 7, 3) := by decide +kernel
theorem dX5_odds_59 : decode cX5_odds 59 = .ok (.iconst 1, 1) := by decide +kernel
theorem dX5_odds_60 : decode cX5_odds 60 = .ok (.goto 4, 3) := by decide +kernel
theorem dX5_odds_63 : decode cX5_odds 63 = .ok (.iconst 0, 1) := by decide +kernel
theorem dX5_odds_64 : decode cX5_odds 64 = .ok (.iadd, 1) := by decide +kernel
theorem dX5_odds_65 : decode cX5_odds 65 = .ok (.istore 4, 2) := by decide +kernel
theorem dX5_odds_67 : decode cX5_odds 67 = .ok (.iinc 5 1, 3) := by decide +kernel
theorem dX5_odds_70 : decode cX5_odds 70 = .ok (.goto (-30), 3) := by decide +kernel
theorem dX5_odds_73 : decode cX5_odds 73 = .ok (.lconst 1, 1) := by decide +kernel
theorem dX5_odds_74 : decode cX5_odds 74 = .ok (.lstore 5, 2) := by decide +kernel
theorem dX5_odds_76 : decode cX5_odds 76 = .ok (.lconst 1, 1) := by decide +kernel
theorem dX5_odds_77 : decode cX5_odds 77 = .ok (.lstore 7, 2) := by decide +kernel
theorem dX5_odds_79 : decode cX5_odds 79 = .ok (.iconst 0, 1) := by decide +kernel
theorem dX5_odds_80 : decode cX5_odds 80 = .ok (.istore 9, 2) := by decide +kernel
theorem dX5_odds_82 : decode cX5_odds 82 = .ok (.iload 9, 2) := by decide +kernel
theorem dX5_odds_84 : decode cX5_odds 84 = .ok (.iload_n 2, 1) := by decide +kernel
theorem dX5_odds_85 : decode cX5_odds 85 = .ok (.if_icmp .ge 25, 3) := by decide +kernel
theorem dX5_odds_88 : decode cX5_odds 88 = .ok (.lload 5, 2) := by decide +kernel
theorem dX5_odds_90 : decode cX5_odds 90 = .ok (.iload 4, 2) := by decide +kernel
theorem dX5_odds_92 : decode cX5_odds 92 = .ok (.i2l, 1) := by decide +kernel
theorem dX5_odds_93 : decode cX5_odds 93 = .ok (.lmul, 1) := by decide +kernel
theorem dX5_odds_94 : decode cX5_odds 94 = .ok (.lstore 5, 2) := by decide +kernel
theorem dX5_odds_96 : decode cX5_odds 96 = .ok (.lload 7, 2) := by decide +kernel
theorem dX5_odds_98 : decode cX5_odds 98 = .ok (.ldc2_w 207, 3) := by decide +kernel
theorem dX5_odds_101 : decode cX5_odds 101 = .ok (.lmul, 1) := by decide +kernel
theorem dX5_odds_102 : decode cX5_odds 102 = .ok (.lstore 7, 2) := by decide +kernel
theorem dX5_odds_104 : decode cX5_odds 104 = .ok (.iinc 9 1, 3) := by decide +kernel
theorem dX5_odds_107 : decode cX5_odds 107 = .ok (.goto (-25), 3) := by decide +kernel
theorem dX5_odds_110 : decode cX5_odds 110 = .ok (.lload 5, 2) := by decide +kernel
theorem dX5_odds_112 : decode cX5_odds 112 = .ok (.lstore 9, 2) := by decide +kernel
theorem dX5_odds_114 : decode cX5_odds 114 = .ok (.lload 7, 2) := by decide +kernel
theorem dX5_odds_116 : decode cX5_odds 116 = .ok (.lstore 11, 2) := by decide +kernel
theorem dX5_odds_118 : decode cX5_odds 118 = .ok (.lload 11, 2) := by decide +kernel
theorem dX5_odds_120 : decode cX5_odds 120 = .ok (.lconst 0, 1) := by decide +kernel
theorem dX5_odds_121 : decode cX5_odds 121 = .ok (.lcmp, 1) := by decide +kernel
theorem dX5_odds_122 : decode cX5_odds 122 = .ok (.ifCond .eq 21, 3) := by decide +kernel
theorem dX5_odds_125 : decode cX5_odds 125 = .ok (.lload 9, 2) := by decide +kernel
theorem dX5_odds_127 : decode cX5_odds 127 = .ok (.lload 11, 2) := by decide +kernel
theorem dX5_odds_129 : decode cX5_odds 129 = .ok (.lrem, 1) := by decide +kernel
theorem dX5_odds_130 : decode cX5_odds 130 = .ok (.lstore 13, 2) := by decide +kernel
theorem dX5_odds_132 : decode cX5_odds 132 = .ok (.lload 11, 2) := by decide +kernel
theorem dX5_odds_134 : decode cX5_odds 134 = .ok (.lstore 9, 2) := by decide +kernel
theorem dX5_odds_136 : decode cX5_odds 136 = .ok (.lload 13, 2) := by decide +kernel
theorem dX5_odds_138 : decode cX5_odds 138 = .ok (.lstore 11, 2) := by decide +kernel
theorem dX5_odds_140 : decode cX5_odds 140 = .ok (.goto (-22), 3) := by decide +kernel
theorem dX5_odds_143 : decode cX5_odds 143 = .ok (.iload_n 3, 1) := by decide +kernel
theorem dX5_odds_144 : decode cX5_odds 144 = .ok (.ifCond .ne 11, 3) := by decide +kernel
theorem dX5_odds_147 : decode cX5_odds 147 = .ok (.lload 5, 2) := by decide +kernel
theorem dX5_odds_149 : decode cX5_odds 149 = .ok (.lload 9, 2) := by decide +kernel
theorem dX5_odds_151 : decode cX5_odds 151 = .ok (.ldiv, 1) := by decide +kernel
theorem dX5_odds_152 : decode cX5_odds 152 = .ok (.goto 8, 3) := by decide +kernel
theorem dX5_odds_155 : decode cX5_odds 155 = .ok (.lload 7, 2) := by decide +kernel
theorem dX5_odds_157 : decode cX5_odds 157 = .ok (.lload 9, 2) := by decide +kernel
theorem dX5_odds_159 : decode cX5_odds 159 = .ok (.ldiv, 1) := by decide +kernel
theorem dX5_odds_160 : decode cX5_odds 160 = .ok (.lreturn, 1) := by decide +kernel
theorem dX5_seed_0 : decode cX5_seed 0 = .ok (.aload_n 0, 1) := by decide +kernel
theorem dX5_seed_1 : decode cX5_seed 1 = .ok (.getfield 9, 3) := by decide +kernel
theorem dX5_seed_4 : decode cX5_seed 4 = .ok (.iconst 2, 1) := by decide +kernel
theorem dX5_seed_5 : decode cX5_seed 5 = .ok (.iaload, 1) := by decide +kernel
theorem dX5_seed_6 : decode cX5_seed 6 = .ok (.istore_n 2, 1) := by decide +kernel
theorem dX5_seed_7 : decode cX5_seed 7 = .ok (.aload_n 0, 1) := by decide +kernel
theorem dX5_seed_8 : decode cX5_seed 8 = .ok (.getfield 9, 3) := by decide +kernel
theorem dX5_seed_11 : decode cX5_seed 11 = .ok (.iconst 2, 1) := by decide +kernel
theorem dX5_seed_12 : decode cX5_seed 12 = .ok (.iload_n 1, 1) := by decide +kernel
theorem dX5_seed_13 : decode cX5_seed 13 = .ok (.iastore, 1) := by decide +kernel
theorem dX5_seed_14 : decode cX5_seed 14 = .ok (.iload_n 2, 1) := by decide +kernel
theorem dX5_seed_15 : decode cX5_seed 15 = .ok (.ireturn, 1) := by decide +kernel
theorem dX5_feed_0 : decode cX5_feed 0 = .ok (.iload_n 2, 1) := by decide +kernel
theorem dX5_feed_1 : decode cX5_feed 1 = .ok (.iconst 1, 1) := by decide +kernel
theorem dX5_feed_2 : decode cX5_feed 2 = .ok (.iconst 4, 1) := by decide +kernel
theorem dX5_feed_3 : decode cX5_feed 3 = .ok (.invokestatic 48, 3) := by decide +kernel
theorem dX5_feed_6 : decode cX5_feed 6 = .ok (.ifCond .ne 9, 3) := by decide +kernel
theorem dX5_feed_9 : decode cX5_feed 9 = .ok (.aload_n 0, 1) := by decide +kernel
theorem dX5_feed_10 : decode cX5_feed 10 = .ok (.iconst 0, 1) := by decide +kernel
theorem dX5_feed_11 : decode cX5_feed 11 = .ok (.invokevirtual 128, 3) := by decide +kernel
theorem dX5_feed_14 : decode cX5_feed 14 = .ok (.ireturn, 1) := by decide +kernel
theorem dX5_feed_15 : decode cX5_feed 15 = .ok (.aload_n 0, 1) := by decide +kernel
theorem dX5_feed_16 : decode cX5_feed 16 = .ok (.getfield 209, 3) := by decide +kernel
theorem dX5_feed_19 : decode cX5_feed 19 = .ok (.iload_n 2, 1) := by decide +kernel
theorem dX5_feed_20 : decode cX5_feed 20 = .ok (.iadd, 1) := by decide +kernel
theorem dX5_feed_21 : decode cX5_feed 21 = .ok (.bipush 120, 2) := by decide +kernel
theorem dX5_feed_23 : decode cX5_feed 23 = .ok (.if_icmp .le 9, 3) := by decide +kernel
theorem dX5_feed_26 : decode cX5_feed 26 = .ok (.aload_n 0, 1) := by decide +kernel
theorem dX5_feed_27 : decode cX5_feed 27 = .ok (.iconst 1, 1) := by decide +kernel
theorem dX5_feed_28 : decode cX5_feed 28 = .ok (.invokevirtual 128, 3) := by decide +kernel
theorem dX5_feed_31 : decode cX5_feed 31 = .ok (.ireturn, 1) := by decide +kernel
theorem dX5_feed_32 : decode cX5_feed 32 = .ok (.iload_n 2, 1) := by decide +kernel
theorem dX5_feed_33 : decode cX5_feed 33 = .ok (.iconst 1, 1) := by decide +kernel
theorem dX5_feed_34 : decode cX5_feed 34 = .ok (.isub, 1) := by decide +kernel
theorem dX5_feed_35 : decode cX5_feed 35 = .ok (.istore_n 3, 1) := by decide +kernel
theorem dX5_feed_36 : decode cX5_feed 36 = .ok (.iload_n 3, 1) := by decide +kernel
theorem dX5_feed_37 : decode cX5_feed 37 = .ok (.ifCond .lt 38, 3) := by decide +kernel
theorem dX5_feed_40 : decode cX5_feed 40 = .ok (.aload_n 0, 1) := by decide +kernel
theorem dX5_feed_41 : decode cX5_feed 41 = .ok (.getfield 22, 3) := by decide +kernel
theorem dX5_feed_44 : decode cX5_feed 44 = .ok (.aload_n 0, 1) := by decide +kernel
theorem dX5_feed_45 : decode cX5_feed 45 = .ok (.getfield 209, 3) := by decide +kernel
theorem dX5_feed_48 : decode cX5_feed 48 = .ok (.iload_n 1, 1) := by decide +kernel
theorem dX5_feed_49 : decode cX5_feed 49 = .ok (.bipush 8, 2) := by decide +kernel
theorem dX5_feed_51 : decode cX5_feed 51 = .ok (.iload_n 3, 1) := by decide +kernel
theorem dX5_feed_52 : decode cX5_feed 52 = .ok (.imul, 1) := by decide +kernel
theorem dX5_feed_53 : decode cX5_feed 53 = .ok (.ishr, 1) := by decide +kernel
theorem dX5_feed_54 : decode cX5_feed 54 = .ok (.sipush 255, 3) := by decide +kernel
theorem dX5_feed_57 : decode cX5_feed 57 = .ok (.iand, 1) := by decide +kernel
theorem dX5_feed_58 : decode cX5_feed 58 = .ok (.iastore, 1) := by decide +kernel
theorem dX5_feed_59 : decode cX5_feed 59 = .ok (.aload_n 0, 1) := by decide +kernel
theorem dX5_feed_60 : decode cX5_feed 60 = .ok (.dup, 1) := by decide +kernel
theorem dX5_feed_61 : decode cX5_feed 61 = .ok (.getfield 209, 3) := by decide +kernel
theorem dX5_feed_64 : decode cX5_feed 64 = .ok (.iconst 1, 1) := by decide +kernel
theorem dX5_feed_65 : decode cX5_feed 65 = .ok (.iadd, 1) := by decide +kernel
theorem dX5_feed_66 : decode cX5_feed 66 = .ok (.putfield 209, 3) := by decide +kernel
theorem dX5_feed_69 : decode cX5_feed 69 = .ok (.iinc 3 (-1), 3) := by decide +kernel
theorem dX5_feed_72 : decode cX5_feed 72 = .ok (.goto (-36), 3) := by decide +kernel
theorem dX5_feed_75 : decode cX5_feed 75 = .ok (.aload_n 0, 1) := by decide +kernel
theorem dX5_feed_76 : decode cX5_feed 76 = .ok (.getfield 209, 3) := by decide +kernel
theorem dX5_feed_79 : decode cX5_feed 79 = .ok (.ireturn, 1) := by decide +kernel
theorem dX5_wipe_0 : decode cX5_wipe 0 = .ok (.aload_n 0, 1) := by decide +kernel
theorem dX5_wipe_1 : decode cX5_wipe 1 = .ok (.getfield 209, 3) := by decide +kernel
theorem dX5_wipe_4 : decode cX5_wipe 4 = .ok (.istore_n 1, 1) := by decide +kernel
theorem dX5_wipe_5 : decode cX5_wipe 5 = .ok (.aload_n 0, 1) := by decide +kernel
theorem dX5_wipe_6 : decode cX5_wipe 6 = .ok (.iconst 0, 1) := by decide +kernel
theorem dX5_wipe_7 : decode cX5_wipe 7 = .ok (.putfield 209, 3) := by decide +kernel
theorem dX5_wipe_10 : decode cX5_wipe 10 = .ok (.iload_n 1, 1) := by decide +kernel
theorem dX5_wipe_11 : decode cX5_wipe 11 = .ok (.ireturn, 1) := by decide +kernel
theorem dX5_isLetter_0 : decode cX5_isLetter 0 = .ok (.iload_n 0, 1) := by decide +kernel
theorem dX5_isLetter_1 : decode cX5_isLetter 1 = .ok (.bipush 97, 2) := by decide +kernel
theorem dX5_isLetter_3 : decode cX5_isLetter 3 = .ok (.bipush 122, 2) := by decide +kernel
theorem dX5_isLetter_5 : decode cX5_isLetter 5 = .ok (.invokestatic 48, 3) := by decide +kernel
theorem dX5_isLetter_8 : decode cX5_isLetter 8 = .ok (.ireturn, 1) := by decide +kernel
theorem dX5_isDigit_0 : decode cX5_isDigit 0 = .ok (.iload_n 0, 1) := by decide +kernel
theorem dX5_isDigit_1 : decode cX5_isDigit 1 = .ok (.bipush 48, 2) := by decide +kernel
theorem dX5_isDigit_3 : decode cX5_isDigit 3 = .ok (.bipush 57, 2) := by decide +kernel
theorem dX5_isDigit_5 : decode cX5_isDigit 5 = .ok (.invokestatic 48, 3) := by decide +kernel
theorem dX5_isDigit_8 : decode cX5_isDigit 8 = .ok (.ireturn, 1) := by decide +kernel
theorem dX5_nextToken_0 : decode cX5_nextToken 0 = .ok (.aload_n 0, 1) := by decide +kernel
theorem dX5_nextToken_1 : decode cX5_nextToken 1 = .ok (.aload_n 0, 1) := by decide +kernel
theorem dX5_nextToken_2 : decode cX5_nextToken 2 = .ok (.getfield 213, 3) := by decide +kernel
theorem dX5_nextToken_5 : decode cX5_nextToken 5 = .ok (.putfield 216, 3) := by decide +kernel
theorem dX5_nextToken_8 : decode cX5_nextToken 8 = .ok (.aload_n 0, 1) := by decide +kernel
theorem dX5_nextToken_9 : decode cX5_nextToken 9 = .ok (.getfield 216, 3) := by decide +kernel
theorem dX5_nextToken_12 : decode cX5_nextToken 12 = .ok (.aload_n 0, 1) := by decide +kernel
theorem dX5_nextToken_13 : decode cX5_nextToken 13 = .ok (.getfield 209, 3) := by decide +kernel
theorem dX5_nextToken_16 : decode cX5_nextToken 16 = .ok (.if_icmp .ge 30, 3) := by decide +kernel
theorem dX5_nextToken_19 : decode cX5_nextToken 19 = .ok (.aload_n 0, 1) := by decide +kernel
theorem dX5_nextToken_20 : decode cX5_nextToken 20 = .ok (.getfield 22, 3) := by decide +kernel
theorem dX5_nextToken_23 : decode cX5_nextToken 23 = .ok (.aload_n 0, 1) := by decide +kernel
theorem dX5_nextToken_24 : decode cX5_nextToken 24 = .ok (.getfield 216, 3) := by decide +kernel
theorem dX5_nextToken_27 : decode cX5_nextToken 27 = .ok (.iaload, 1) := by decide +kernel
theorem dX5_nextToken_28 : decode cX5_nextToken 28 = .ok (.bipush 32, 2) := by decide +kernel
theorem dX5_nextToken_30 : decode cX5_nextToken 30 = .ok (.if_icmp .ne 16, 3) := by decide +kernel
theorem dX5_nextToken_33 : decode cX5_nextToken 33 = .ok (.aload_n 0, 1) := by decide +kernel
theorem dX5_nextToken_34 : decode cX5_nextToken 34 = .ok (.dup, 1) := by decide +kernel
theorem dX5_nextToken_35 : decode cX5_nextToken 35 = .ok (.getfield 216, 3) := by decide +kernel
theorem dX5_nextToken_38 : decode cX5_nextToken 38 = .ok (.iconst 1, 1) := by decide +kernel
theorem dX5_nextToken_39 : decode cX5_nextToken 39 = .ok (.iadd, 1) := by decide +kernel
theorem dX5_nextToken_40 : decode cX5_nextToken 40 = .ok (.putfield 216, 3) := by decide +kernel
theorem dX5_nextToken_43 : decode cX5_nextToken 43 = .ok (.goto (-35), 3) := by decide +kernel
theorem dX5_nextToken_46 : decode cX5_nextToken 46 = .ok (.aload_n 0, 1) := by decide +kernel
theorem dX5_nextToken_47 : decode cX5_nextToken 47 = .ok (.aload_n 0, 1) := by decide +kernel
theorem dX5_nextToken_48 : decode cX5_nextToken 48 = .ok (.getfield 216, 3) := by decide +kernel
theorem dX5_nextToken_51 : decode cX5_nextToken 51 = .ok (.putfield 213, 3) := by decide +kernel
theorem dX5_nextToken_54 : decode cX5_nextToken 54 = .ok (.aload_n 0, 1) := by decide +kernel
theorem dX5_nextToken_55 : decode cX5_nextToken 55 = .ok (.lconst 0, 1) := by decide +kernel
theorem dX5_nextToken_56 : decode cX5_nextToken 56 = .ok (.putfield 219, 3) := by decide +kernel
theorem dX5_nextToken_59 : decode cX5_nextToken 59 = .ok (.aload_n 0, 1) := by decide +kernel
theorem dX5_nextToken_60 : decode cX5_nextToken 60 = .ok (.getfield 216, 3) := by decide +kernel
theorem dX5_nextToken_63 : decode cX5_nextToken 63 = .ok (.aload_n 0, 1) := by decide +kernel
theorem dX5_nextToken_64 : decode cX5_nextToken 64 = .ok (.getfield 209, 3) := by decide +kernel
theorem dX5_nextToken_67 : decode cX5_nextToken 67 = .ok (.if_icmp .ne 11, 3) := by decide +kernel
theorem dX5_nextToken_70 : decode cX5_nextToken 70 = .ok (.aload_n 0, 1) := by decide +kernel
theorem dX5_nextToken_71 : decode cX5_nextToken 71 = .ok (.iconst 0, 1) := by decide +kernel
theorem dX5_nextToken_72 : decode cX5_nextToken 72 = .ok (.putfield 223, 3) := by decide +kernel
theorem dX5_nextToken_75 : decode cX5_nextToken 75 = .ok (.goto 262, 3) := by decide +kernel
theorem dX5_nextToken_78 : decode cX5_nextToken 78 = .ok (.aload_n 0, 1) := by decide +kernel
theorem dX5_nextToken_79 : decode cX5_nextToken 79 = .ok (.getfield 22, 3) := by decide +kernel
theorem dX5_nextToken_82 : decode cX5_nextToken 82 = .ok (.aload_n 0, 1) := by decide +kernel
theorem dX5_nextToken_83 : decode cX5_nextToken 83 = .ok (.getfield 216, 3) := by decide +kernel
theorem dX5_nextToken_86 : decode cX5_nextToken 86 = .ok (.iaload, 1) := by decide +kernel
theorem dX5_nextToken_87 : decode cX5_nextToken 87 = .ok (.invokestatic 226, 3) := by decide +kernel
theorem dX5_nextToken_90 : decode cX5_nextToken 90 = .ok (.ifCond .eq 92, 3) := by decide +kernel
theorem dX5_nextToken_93 : decode cX5_nextToken 93 = .ok (.aload_n 0, 1) := by decide +kernel
theorem dX5_nextToken_94 : decode cX5_nextToken 94 = .ok (.iconst 1, 1) := by decide +kernel
theorem dX5_nextToken_95 : decode cX5_nextToken 95 = .ok (.putfield 223, 3) := by decide +kernel
theorem dX5_nextToken_98 : decode cX5_nextToken 98 = .ok (.aload_n 0, 1) := by decide +kernel
theorem dX5_nextToken_99 : decode cX5_nextToken 99 = .ok (.getfield 213, 3) := by decide +kernel
theorem dX5_nextToken_102 : decode cX5_nextToken 102 = .ok (.aload_n 0, 1) := by decide +kernel
theorem dX5_nextToken_103 : decode cX5_nextToken 103 = .ok (.getfield 209, 3) := by decide +kernel
theorem dX5_nextToken_106 : decode cX5_nextToken 106 = .ok (.if_icmp .ge 231, 3) := by decide +kernel
theorem dX5_nextToken_109 : decode cX5_nextToken 109 = .ok (.aload_n 0, 1) := by decide +kernel
theorem dX5_nextToken_110 : decode cX5_nextToken 110 = .ok (.getfield 22, 3) := by decide +kernel
theorem dX5_nextToken_113 : decode cX5_nextToken 113 = .ok (.aload_n 0, 1) := by decide +kernel
theorem dX5_nextToken_114 : decode cX5_nextToken 114 = .ok (.getfield 213, 3) := by decide +kernel
theorem dX5_nextToken_117 : decode cX5_nextToken 117 = .ok (.iaload, 1) := by decide +kernel
theorem dX5_nextToken_118 : decode cX5_nextToken 118 = .ok (.invokestatic 226, 3) := by decide +kernel
theorem dX5_nextToken_121 : decode cX5_nextToken 121 = .ok (.ifCond .eq 216, 3) := by decide +kernel
theorem dX5_nextToken_124 : decode cX5_nextToken 124 = .ok (.aload_n 0, 1) := by decide +kernel
theorem dX5_nextToken_125 : decode cX5_nextToken 125 = .ok (.aload_n 0, 1) := by decide +kernel
theorem dX5_nextToken_126 : decode cX5_nextToken 126 = .ok (.getfield 219, 3) := by decide +kernel
theorem dX5_nextToken_129 : decode cX5_nextToken 129 = .ok (.ldc2_w 229, 3) := by decide +kernel
theorem dX5_nextToken_132 : decode cX5_nextToken 132 = .ok (.lcmp, 1) := by decide +kernel
theorem dX5_nextToken_133 : decode cX5_nextToken 133 = .ok (.ifCond .le 10, 3) := by decide +kernel
theorem dX5_nextToken_136 : decode cX5_nextToken 136 = .ok (.aload_n 0, 1) := by decide +kernel
theorem dX5_nextToken_137 : decode cX5_nextToken 137 = .ok (.getfield 219, 3) := by decide +kernel
theorem dX5_nextToken_140 : decode cX5_nextToken 140 = .ok (.goto 26, 3) := by decide +kernel
theorem dX5_nextToken_143 : decode cX5_nextToken 143 = .ok (.aload_n 0, 1) := by decide +kernel
theorem dX5_nextToken_144 : decode cX5_nextToken 144 = .ok (.getfield 219, 3) := by decide +kernel
theorem dX5_nextToken_147 : decode cX5_nextToken 147 = .ok (.ldc2_w 231, 3) := by decide +kernel
theorem dX5_nextToken_150 : decode cX5_nextToken 150 = .ok (.lmul, 1) := by decide +kernel
theorem dX5_nextToken_151 : decode cX5_nextToken 151 = .ok (.aload_n 0, 1) := by decide +kernel
theorem dX5_nextToken_152 : decode cX5_nextToken 152 = .ok (.getfield 22, 3) := by decide +kernel
theorem dX5_nextToken_155 : decode cX5_nextToken 155 = .ok (.aload_n 0, 1) := by decide +kernel
theorem dX5_nextToken_156 : decode cX5_nextToken 156 = .ok (.getfield 213, 3) := by decide +kernel
theorem dX5_nextToken_159 : decode cX5_nextToken 159 = .ok (.iaload, 1) := by decide +kernel
theorem dX5_nextToken_160 : decode cX5_nextToken 160 = .ok (.i2l, 1) := by decide +kernel
theorem dX5_nextToken_161 : decode cX5_nextToken 161 = .ok (.ladd, 1) := by decide +kernel
theorem dX5_nextToken_162 : decode cX5_nextToken 162 = .ok (.ldc2_w 233, 3) := by decide +kernel
theorem dX5_nextToken_165 : decode cX5_nextToken 165 = .ok (.lsub, 1) := by decide +kernel
theorem dX5_nextToken_166 : decode cX5_nextToken 166 = .ok (.putfield 219, 3) := by decide +kernel
theorem dX5_nextToken_169 : decode cX5_nextToken 169 = .ok (.aload_n 0, 1) := by decide +kernel
theorem dX5_nextToken_170 : decode cX5_nextToken 170 = .ok (.dup, 1) := by decide +kernel
theorem dX5_nextToken_171 : decode cX5_nextToken 171 = .ok (.getfield 213, 3) := by decide +kernel
theorem dX5_nextToken_174 : decode cX5_nextToken 174 = .ok (.iconst 1, 1) := by decide +kernel
theorem dX5_nextToken_175 : decode cX5_nextToken 175 = .ok (.iadd, 1) := by decide +kernel
theorem dX5_nextToken_176 : decode cX5_nextToken 176 = .ok (.putfield 213, 3) := by decide +kernel
theorem dX5_nextToken_179 : decode cX5_nextToken 179 = .ok (.goto (-81), 3) := by decide +kernel
theorem dX5_nextToken_182 : decode cX5_nextToken 182 = .ok (.aload_n 0, 1) := by decide +kernel
theorem dX5_nextToken_183 : decode cX5_nextToken 183 = .ok (.getfield 22, 3) := by decide +kernel
theorem dX5_nextToken_186 : decode cX5_nextToken 186 = .ok (.aload_n 0, 1) := by decide +kernel
theorem dX5_nextToken_187 : decode cX5_nextToken 187 = .ok (.getfield 216, 3) := by decide +kernel
theorem dX5_nextToken_190 : decode cX5_nextToken 190 = .ok (.iaload, 1) := by decide +kernel
theorem dX5_nextToken_191 : decode cX5_nextToken 191 = .ok (.invokestatic 235, 3) := by decide +kernel
theorem dX5_nextToken_194 : decode cX5_nextToken 194 = .ok (.ifCond .eq 110, 3) := by decide +kernel
theorem dX5_nextToken_197 : decode cX5_nextToken 197 = .ok (.aload_n 0, 1) := by decide +kernel
theorem dX5_nextToken_198 : decode cX5_nextToken 198 = .ok (.getfield 213, 3) := by decide +kernel
theorem dX5_nextToken_201 : decode cX5_nextToken 201 = .ok (.aload_n 0, 1) := by decide +kernel
theorem dX5_nextToken_202 : decode cX5_nextToken 202 = .ok (.getfield 209, 3) := by decide +kernel
theorem dX5_nextToken_205 : decode cX5_nextToken 205 = .ok (.if_icmp .ge 76, 3) := by decide +kernel
theorem dX5_nextToken_208 : decode cX5_nextToken 208 = .ok (.aload_n 0, 1) := by decide +kernel
theorem dX5_nextToken_209 : decode cX5_nextToken 209 = .ok (.getfield 22, 3) := by decide +kernel
theorem dX5_nextToken_212 : decode cX5_nextToken 212 = .ok (.aload_n 0, 1) := by decide +kernel
theorem dX5_nextToken_213 : decode cX5_nextToken 213 = .ok (.getfield 213, 3) := by decide +kernel
theorem dX5_nextToken_216 : decode cX5_nextToken 216 = .ok (.iaload, 1) := by decide +kernel
theorem dX5_nextToken_217 : decode cX5_nextToken 217 = .ok (.invokestatic 235, 3) := by decide +kernel
theorem dX5_nextToken_220 : decode cX5_nextToken 220 = .ok (.ifCond .eq 61, 3) := by decide +kernel
theorem dX5_nextToken_223 : decode cX5_nextToken 223 = .ok (.aload_n 0, 1) := by decide +kernel
theorem dX5_nextToken_224 : decode cX5_nextToken 224 = .ok (.aload_n 0, 1) := by decide +kernel
theorem dX5_nextToken_225 : decode cX5_nextToken 225 = .ok (.getfield 219, 3) := by decide +kernel
theorem dX5_nextToken_228 : decode cX5_nextToken 228 = .ok (.ldc2_w 238, 3) := by decide +kernel
theorem dX5_nextToken_231 : decode cX5_nextToken 231 = .ok (.lcmp, 1) := by decide +kernel
theorem dX5_nextToken_232 : decode cX5_nextToken 232 = .ok (.ifCond .le 10, 3) := by decide +kernel
theorem dX5_nextToken_235 : decode cX5_nextToken 235 = .ok (.aload_n 0, 1) := by decide +kernel
theorem dX5_nextToken_236 : decode cX5_nextToken 236 = .ok (.getfield 219, 3) := by decide +kernel
theorem dX5_nextToken_239 : decode cX5_nextToken 239 = .ok (.goto 26, 3) := by decide +kernel
theorem dX5_nextToken_242 : decode cX5_nextToken 242 = .ok (.aload_n 0, 1) := by decide +kernel
theorem dX5_nextToken_243 : decode cX5_nextToken 243 = .ok (.getfield 219, 3) := by decide +kernel
theorem dX5_nextToken_246 : decode cX5_nextToken 246 = .ok (.ldc2_w 240, 3) := by decide +kernel
theorem dX5_nextToken_249 : decode cX5_nextToken 249 = .ok (.lmul, 1) := by decide +kernel
theorem dX5_nextToken_250 : decode cX5_nextToken 250 = .ok (.aload_n 0, 1) := by decide +kernel
theorem dX5_nextToken_251 : decode cX5_nextToken 251 = .ok (.getfield 22, 3) := by decide +kernel
theorem dX5_nextToken_254 : decode cX5_nextToken 254 = .ok (.aload_n 0, 1) := by decide +kernel
theorem dX5_nextToken_255 : decode cX5_nextToken 255 = .ok (.getfield 213, 3) := by decide +kernel
theorem dX5_nextToken_258 : decode cX5_nextToken 258 = .ok (.iaload, 1) := by decide +kernel
theorem dX5_nextToken_259 : decode cX5_nextToken 259 = .ok (.i2l, 1) := by decide +kernel
theorem dX5_nextToken_260 : decode cX5_nextToken 260 = .ok (.ladd, 1) := by decide +kernel
theorem dX5_nextToken_261 : decode cX5_nextToken 261 = .ok (.ldc2_w 242, 3) := by decide +kernel
theorem dX5_nextToken_264 : decode cX5_nextToken 264 = .ok (.lsub, 1) := by decide +kernel
theorem dX5_nextToken_265 : decode cX5_nextToken 265 = .ok (.putfield 219, 3) := by decide +kernel
theorem dX5_nextToken_268 : decode cX5_nextToken 268 = .ok (.aload_n 0, 1) := by decide +kernel
theorem dX5_nextToken_269 : decode cX5_nextToken 269 = .ok (.dup, 1) := by decide +kernel
theorem dX5_nextToken_270 : decode cX5_nextToken 270 = .ok (.getfield 213, 3) := by decide +kernel
theorem dX5_nextToken_273 : decode cX5_nextToken 273 = .ok (.iconst 1, 1) := by decide +kernel
theorem dX5_nextToken_274 : decode cX5_nextToken 274 = .ok (.iadd, 1) := by decide +kernel
theorem dX5_nextToken_275 : decode cX5_nextToken 275 = .ok (.putfield 213, 3) := by decide +kernel
theorem dX5_nextToken_278 : decode cX5_nextToken 278 = .ok (.goto (-81), 3) := by decide +kernel
theorem dX5_nextToken_281 : decode cX5_nextToken 281 = .ok (.aload_n 0, 1) := by decide +kernel
theorem dX5_nextToken_282 : decode cX5_nextToken 282 = .ok (.aload_n 0, 1) := by decide +kernel
theorem dX5_nextToken_283 : decode cX5_nextToken 283 = .ok (.getfield 219, 3) := by decide +kernel
theorem dX5_nextToken_286 : decode cX5_nextToken 286 = .ok (.ldc2_w 238, 3) := by decide +kernel
theorem dX5_nextToken_289 : decode cX5_nextToken 289 = .ok (.lcmp, 1) := by decide +kernel
theorem dX5_nextToken_290 : decode cX5_nextToken 290 = .ok (.ifCond .le 7, 3) := by decide +kernel
theorem dX5_nextToken_293 : decode cX5_nextToken 293 = .ok (.iconst 4, 1) := by decide +kernel
theorem dX5_nextToken_294 : decode cX5_nextToken 294 = .ok (.goto 4, 3) := by decide +kernel
theorem dX5_nextToken_297 : decode cX5_nextToken 297 = .ok (.iconst 2, 1) := by decide +kernel
theorem dX5_nextToken_298 : decode cX5_nextToken 298 = .ok (.putfield 223, 3) := by decide +kernel
theorem dX5_nextToken_301 : decode cX5_nextToken 301 = .ok (.goto 36, 3) := by decide +kernel
theorem dX5_nextToken_304 : decode cX5_nextToken 304 = .ok (.aload_n 0, 1) := by decide +kernel
theorem dX5_nextToken_305 : decode cX5_nextToken 305 = .ok (.aload_n 0, 1) := by decide +kernel
theorem dX5_nextToken_306 : decode cX5_nextToken 306 = .ok (.getfield 22, 3) := by decide +kernel
theorem dX5_nextToken_309 : decode cX5_nextToken 309 = .ok (.aload_n 0, 1) := by decide +kernel
theorem dX5_nextToken_310 : decode cX5_nextToken 310 = .ok (.getfield 216, 3) := by decide +kernel
theorem dX5_nextToken_313 : decode cX5_nextToken 313 = .ok (.iaload, 1) := by decide +kernel
theorem dX5_nextToken_314 : decode cX5_nextToken 314 = .ok (.bipush 59, 2) := by decide +kernel
theorem dX5_nextToken_316 : decode cX5_nextToken 316 = .ok (.if_icmp .ne 7, 3) := by decide +kernel
theorem dX5_nextToken_319 : decode cX5_nextToken 319 = .ok (.iconst 3, 1) := by decide +kernel
theorem dX5_nextToken_320 : decode cX5_nextToken 320 = .ok (.goto 4, 3) := by decide +kernel
theorem dX5_nextToken_323 : decode cX5_nextToken 323 = .ok (.iconst 4, 1) := by decide +kernel
theorem dX5_nextToken_324 : decode cX5_nextToken 324 = .ok (.putfield 223, 3) := by decide +kernel
theorem dX5_nextToken_327 : decode cX5_nextToken 327 = .ok (.aload_n 0, 1) := by decide +kernel
theorem dX5_nextToken_328 : decode cX5_nextToken 328 = .ok (.dup, 1) := by decide +kernel
theorem dX5_nextToken_329 : decode cX5_nextToken 329 = .ok (.getfield 213, 3) := by decide +kernel
theorem dX5_nextToken_332 : decode cX5_nextToken 332 = .ok (.iconst 1, 1) := by decide +kernel
theorem dX5_nextToken_333 : decode cX5_nextToken 333 = .ok (.iadd, 1) := by decide +kernel
theorem dX5_nextToken_334 : decode cX5_nextToken 334 = .ok (.putfield 213, 3) := by decide +kernel
theorem dX5_nextToken_337 : decode cX5_nextToken 337 = .ok (.return_, 1) := by decide +kernel
theorem dX5_wordOf_0 : decode cX5_wordOf 0 = .ok (.iconst (-1), 1) := by decide +kernel
theorem dX5_wordOf_1 : decode cX5_wordOf 1 = .ok (.istore_n 2, 1) := by decide +kernel
theorem dX5_wordOf_2 : decode cX5_wordOf 2 = .ok (.iconst 0, 1) := by decide +kernel
theorem dX5_wordOf_3 : decode cX5_wordOf 3 = .ok (.istore_n 3, 1) := by decide +kernel
theorem dX5_wordOf_4 : decode cX5_wordOf 4 = .ok (.iload_n 3, 1) := by decide +kernel
theorem dX5_wordOf_5 : decode cX5_wordOf 5 = .ok (.aload_n 1, 1) := by decide +kernel
theorem dX5_wordOf_6 : decode cX5_wordOf 6 = .ok (.arraylength, 1) := by decide +kernel
theorem dX5_wordOf_7 : decode cX5_wordOf 7 = .ok (.bipush 9, 2) := by decide +kernel
theorem dX5_wordOf_9 : decode cX5_wordOf 9 = .ok (.idiv, 1) := by decide +kernel
theorem dX5_wordOf_10 : decode cX5_wordOf 10 = .ok (.if_icmp .ge 94, 3) := by decide +kernel
theorem dX5_wordOf_13 : decode cX5_wordOf 13 = .ok (.aload_n 0, 1) := by decide +kernel
theorem dX5_wordOf_14 : decode cX5_wordOf 14 = .ok (.getfield 223, 3) := by decide +kernel
theorem dX5_wordOf_17 : decode cX5_wordOf 17 = .ok (.iconst 1, 1) := by decide +kernel
theorem dX5_wordOf_18 : decode cX5_wordOf 18 = .ok (.if_icmp .ne 86, 3) := by decide +kernel
theorem dX5_wordOf_21 : decode cX5_wordOf 21 = .ok (.lconst 0, 1) := by decide +kernel
theorem dX5_wordOf_22 : decode cX5_wordOf 22 = .ok (.lstore 4, 2) := by decide +kernel
theorem dX5_wordOf_24 : decode cX5_wordOf 24 = .ok (.iconst 0, 1) := by decide +kernel
theorem dX5_wordOf_25 : decode cX5_wordOf 25 = .ok (.istore 6, 2) := by decide +kernel
theorem dX5_wordOf_27 : decode cX5_wordOf 27 = .ok (.iload 6, 2) := by decide +kernel
theorem dX5_wordOf_29 : decode cX5_wordOf 29 = .ok (.bipush 9, 2) := by decide +kernel
theorem dX5_wordOf_31 : decode cX5_wordOf 31 = .ok (.if_icmp .ge 51, 3) := by decide +kernel
theorem dX5_wordOf_34 : decode cX5_wordOf 34 = .ok (.aload_n 1, 1) := by decide +kernel
theorem dX5_wordOf_35 : decode cX5_wordOf 35 = .ok (.bipush 9, 2) := by decide +kernel
theorem dX5_wordOf_37 : decode cX5_wordOf 37 = .ok (.iload_n 3, 1) := by decide +kernel
theorem dX5_wordOf_38 : decode cX5_wordOf 38 = .ok (.imul, 1) := by decide +kernel
theorem dX5_wordOf_39 : decode cX5_wordOf 39 = .ok (.iload 6, 2) := by decide +kernel
theorem dX5_wordOf_41 : decode cX5_wordOf 41 = .ok (.iadd, 1) := by decide +kernel
theorem dX5_wordOf_42 : decode cX5_wordOf 42 = .ok (.caload, 1) := by decide +kernel
theorem dX5_wordOf_43 : decode cX5_wordOf 43 = .ok (.bipush 32, 2) := by decide +kernel
theorem dX5_wordOf_45 : decode cX5_wordOf 45 = .ok (.if_icmp .ne 8, 3) := by decide +kernel
theorem dX5_wordOf_48 : decode cX5_wordOf 48 = .ok (.lload 4, 2) := by decide +kernel
theorem dX5_wordOf_50 : decode cX5_wordOf 50 = .ok (.goto 24, 3) := by decide +kernel
theorem dX5_wordOf_53 : decode cX5_wordOf 53 = .ok (.lload 4, 2) := by decide +kernel
theorem dX5_wordOf_55 : decode cX5_wordOf 55 = .ok (.ldc2_w 231, 3) := by decide +kernel
theorem dX5_wordOf_58 : decode cX5_wordOf 58 = .ok (.lmul, 1) := by decide +kernel
theorem dX5_wordOf_59 : decode cX5_wordOf 59 = .ok (.aload_n 1, 1) := by decide +kernel
theorem dX5_wordOf_60 : decode cX5_wordOf 60 = .ok (.bipush 9, 2) := by decide +kernel
theorem dX5_wordOf_62 : decode cX5_wordOf 62 = .ok (.iload_n 3, 1) := by decide +kernel
theorem dX5_wordOf_63 : decode cX5_wordOf 63 = .ok (.imul, 1) := by decide +kernel
theorem dX5_wordOf_64 : decode cX5_wordOf 64 = .ok (.iload 6, 2) := by decide +kernel
theorem dX5_wordOf_66 : decode cX5_wordOf 66 = .ok (.iadd, 1) := by decide +kernel
theorem dX5_wordOf_67 : decode cX5_wordOf 67 = .ok (.caload, 1) := by decide +kernel
theorem dX5_wordOf_68 : decode cX5_wordOf 68 = .ok (.i2l, 1) := by decide +kernel
theorem dX5_wordOf_69 : decode cX5_wordOf 69 = .ok (.ladd, 1) := by decide +kernel
theorem dX5_wordOf_70 : decode cX5_wordOf 70 = .ok (.ldc2_w 233, 3) := by decide +kernel
theorem dX5_wordOf_73 : decode cX5_wordOf 73 = .ok (.lsub, 1) := by decide +kernel
theorem dX5_wordOf_74 : decode cX5_wordOf 74 = .ok (.lstore 4, 2) := by decide +kernel
theorem dX5_wordOf_76 : decode cX5_wordOf 76 = .ok (.iinc 6 1, 3) := by decide +kernel
theorem dX5_wordOf_79 : decode cX5_wordOf 79 = .ok (.goto (-52), 3) := by decide +kernel
theorem dX5_wordOf_82 : decode cX5_wordOf 82 = .ok (.lload 4, 2) := by decide +kernel
theorem dX5_wordOf_84 : decode cX5_wordOf 84 = .ok (.aload_n 0, 1) := by decide +kernel
theorem dX5_wordOf_85 : decode cX5_wordOf 85 = .ok (.getfield 219, 3) := by decide +kernel
theorem dX5_wordOf_88 : decode cX5_wordOf 88 = .ok (.lcmp, 1) := by decide +kernel
theorem dX5_wordOf_89 : decode cX5_wordOf 89 = .ok (.ifCond .ne 7, 3) := by decide +kernel
theorem dX5_wordOf_92 : decode cX5_wordOf 92 = .ok (.iload_n 3, 1) := by decide +kernel
theorem dX5_wordOf_93 : decode cX5_wordOf 93 = .ok (.goto 4, 3) := by decide +kernel
theorem dX5_wordOf_96 : decode cX5_wordOf 96 = .ok (.iload_n 2, 1) := by decide +kernel
theorem dX5_wordOf_97 : decode cX5_wordOf 97 = .ok (.istore_n 2, 1) := by decide +kernel
theorem dX5_wordOf_98 : decode cX5_wordOf 98 = .ok (.iinc 3 1, 3) := by decide +kernel
theorem dX5_wordOf_101 : decode cX5_wordOf 101 = .ok (.goto (-97), 3) := by decide +kernel
theorem dX5_wordOf_104 : decode cX5_wordOf 104 = .ok (.iload_n 2, 1) := by decide +kernel
theorem dX5_wordOf_105 : decode cX5_wordOf 105 = .ok (.ireturn, 1) := by decide +kernel
theorem dX5_takesNumber_0 : decode cX5_takesNumber 0 = .ok (.aload_n 0, 1) := by decide +kernel
theorem dX5_takesNumber_1 : decode cX5_takesNumber 1 = .ok (.getfield 223, 3) := by decide +kernel
theorem dX5_takesNumber_4 : decode cX5_takesNumber 4 = .ok (.iconst 2, 1) := by decide +kernel
theorem dX5_takesNumber_5 : decode cX5_takesNumber 5 = .ok (.if_icmp .ne 24, 3) := by decide +kernel
theorem dX5_takesNumber_8 : decode cX5_takesNumber 8 = .ok (.aload_n 0, 1) := by decide +kernel
theorem dX5_takesNumber_9 : decode cX5_takesNumber 9 = .ok (.getfield 219, 3) := by decide +kernel
theorem dX5_takesNumber_12 : decode cX5_takesNumber 12 = .ok (.l2i, 1) := by decide +kernel
theorem dX5_takesNumber_13 : decode cX5_takesNumber 13 = .ok (.iload_n 1, 1) := by decide +kernel
theorem dX5_takesNumber_14 : decode cX5_takesNumber 14 = .ok (.iload_n 2, 1) := by decide +kernel
theorem dX5_takesNumber_15 : decode cX5_takesNumber 15 = .ok (.invokestatic 48, 3) := by decide +kernel
theorem dX5_takesNumber_18 : decode cX5_takesNumber 18 = .ok (.ifCond .eq 11, 3) := by decide +kernel
theorem dX5_takesNumber_21 : decode cX5_takesNumber 21 = .ok (.aload_n 0, 1) := by decide +kernel
theorem dX5_takesNumber_22 : decode cX5_takesNumber 22 = .ok (.getfield 219, 3) := by decide +kernel
theorem dX5_takesNumber_25 : decode cX5_takesNumber 25 = .ok (.l2i, 1) := by decide +kernel
theorem dX5_takesNumber_26 : decode cX5_takesNumber 26 = .ok (.goto 4, 3) := by decide +kernel
theorem dX5_takesNumber_29 : decode cX5_takesNumber 29 = .ok (.iconst (-1), 1) := by decide +kernel
theorem dX5_takesNumber_30 : decode cX5_takesNumber 30 = .ok (.istore_n 3, 1) := by decide +kernel
theorem dX5_takesNumber_31 : decode cX5_takesNumber 31 = .ok (.iload_n 3, 1) := by decide +kernel
theorem dX5_takesNumber_32 : decode cX5_takesNumber 32 = .ok (.ifCond .lt 7, 3) := by decide +kernel
theorem dX5_takesNumber_35 : decode cX5_takesNumber 35 = .ok (.aload_n 0, 1) := by decide +kernel
theorem dX5_takesNumber_36 : decode cX5_takesNumber 36 = .ok (.invokevirtual 244, 3) := by decide +kernel
theorem dX5_takesNumber_39 : decode cX5_takesNumber 39 = .ok (.iload_n 3, 1) := by decide +kernel
theorem dX5_takesNumber_40 : decode cX5_takesNumber 40 = .ok (.ireturn, 1) := by decide +kernel
theorem dX5_readsPerson_0 : decode cX5_readsPerson 0 = .ok (.aload_n 0, 1) := by decide +kernel
theorem dX5_readsPerson_1 : decode cX5_readsPerson 1 = .ok (.getfield 9, 3) := by decide +kernel
theorem dX5_readsPerson_4 : decode cX5_readsPerson 4 = .ok (.iconst 1, 1) := by decide +kernel
theorem dX5_readsPerson_5 : decode cX5_readsPerson 5 = .ok (.iaload, 1) := by decide +kernel
theorem dX5_readsPerson_6 : decode cX5_readsPerson 6 = .ok (.bipush 8, 2) := by decide +kernel
theorem dX5_readsPerson_8 : decode cX5_readsPerson 8 = .ok (.if_icmp .ne 5, 3) := by decide +kernel
theorem dX5_readsPerson_11 : decode cX5_readsPerson 11 = .ok (.iconst 0, 1) := by decide +kernel
theorem dX5_readsPerson_12 : decode cX5_readsPerson 12 = .ok (.ireturn, 1) := by decide +kernel
theorem dX5_readsPerson_13 : decode cX5_readsPerson 13 = .ok (.aload_n 0, 1) := by decide +kernel
theorem dX5_readsPerson_14 : decode cX5_readsPerson 14 = .ok (.getfield 9, 3) := by decide +kernel
