theorem dX5_bestFeel_48 : decode cX5_bestFeel 48 = .ok (.iload 6, 2) := by decide +kernel
theorem dX5_bestFeel_50 : decode cX5_bestFeel 50 = .ok (.istore 4, 2) := by decide +kernel
theorem dX5_bestFeel_52 : decode cX5_bestFeel 52 = .ok (.iinc 5 1, 3) := by decide +kernel
theorem dX5_bestFeel_55 : decode cX5_bestFeel 55 = .ok (.goto (-34), 3) := by decide +kernel
theorem dX5_bestFeel_58 : decode cX5_bestFeel 58 = .ok (.iload_n 3, 1) := by decide +kernel
theorem dX5_bestFeel_59 : decode cX5_bestFeel 59 = .ok (.ireturn, 1) := by decide +kernel
theorem dX5_mostLeft_0 : decode cX5_mostLeft 0 = .ok (.aload_n 0, 1) := by decide +kernel
theorem dX5_mostLeft_1 : decode cX5_mostLeft 1 = .ok (.getfield 9, 3) := by decide +kernel
theorem dX5_mostLeft_4 : decode cX5_mostLeft 4 = .ok (.iload_n 1, 1) := by decide +kernel
theorem dX5_mostLeft_5 : decode cX5_mostLeft 5 = .ok (.invokestatic 72, 3) := by decide +kernel
theorem dX5_mostLeft_8 : decode cX5_mostLeft 8 = .ok (.istore 4, 2) := by decide +kernel
theorem dX5_mostLeft_10 : decode cX5_mostLeft 10 = .ok (.aload_n 0, 1) := by decide +kernel
theorem dX5_mostLeft_11 : decode cX5_mostLeft 11 = .ok (.getfield 18, 3) := by decide +kernel
theorem dX5_mostLeft_14 : decode cX5_mostLeft 14 = .ok (.iload_n 1, 1) := by decide +kernel
theorem dX5_mostLeft_15 : decode cX5_mostLeft 15 = .ok (.invokestatic 72, 3) := by decide +kernel
theorem dX5_mostLeft_18 : decode cX5_mostLeft 18 = .ok (.iload_n 3, 1) := by decide +kernel
theorem dX5_mostLeft_19 : decode cX5_mostLeft 19 = .ok (.iadd, 1) := by decide +kernel
theorem dX5_mostLeft_20 : decode cX5_mostLeft 20 = .ok (.invokestatic 76, 3) := by decide +kernel
theorem dX5_mostLeft_23 : decode cX5_mostLeft 23 = .ok (.istore 5, 2) := by decide +kernel
theorem dX5_mostLeft_25 : decode cX5_mostLeft 25 = .ok (.iconst 0, 1) := by decide +kernel
theorem dX5_mostLeft_26 : decode cX5_mostLeft 26 = .ok (.istore 6, 2) := by decide +kernel
theorem dX5_mostLeft_28 : decode cX5_mostLeft 28 = .ok (.aload_n 0, 1) := by decide +kernel
theorem dX5_mostLeft_29 : decode cX5_mostLeft 29 = .ok (.getfield 42, 3) := by decide +kernel
theorem dX5_mostLeft_32 : decode cX5_mostLeft 32 = .ok (.iconst 0, 1) := by decide +kernel
theorem dX5_mostLeft_33 : decode cX5_mostLeft 33 = .ok (.invokestatic 58, 3) := by decide +kernel
theorem dX5_mostLeft_36 : decode cX5_mostLeft 36 = .ok (.iconst 0, 1) := by decide +kernel
theorem dX5_mostLeft_37 : decode cX5_mostLeft 37 = .ok (.istore 7, 2) := by decide +kernel
theorem dX5_mostLeft_39 : decode cX5_mostLeft 39 = .ok (.iload 7, 2) := by decide +kernel
theorem dX5_mostLeft_41 : decode cX5_mostLeft 41 = .ok (.bipush 9, 2) := by decide +kernel
theorem dX5_mostLeft_43 : decode cX5_mostLeft 43 = .ok (.if_icmp .gt 62, 3) := by decide +kernel
theorem dX5_mostLeft_46 : decode cX5_mostLeft 46 = .ok (.iload_n 2, 1) := by decide +kernel
theorem dX5_mostLeft_47 : decode cX5_mostLeft 47 = .ok (.iload 7, 2) := by decide +kernel
theorem dX5_mostLeft_49 : decode cX5_mostLeft 49 = .ok (.invokestatic 93, 3) := by decide +kernel
theorem dX5_mostLeft_52 : decode cX5_mostLeft 52 = .ok (.ifCond .eq 47, 3) := by decide +kernel
theorem dX5_mostLeft_55 : decode cX5_mostLeft 55 = .ok (.iload 4, 2) := by decide +kernel
theorem dX5_mostLeft_57 : decode cX5_mostLeft 57 = .ok (.iload 7, 2) := by decide +kernel
theorem dX5_mostLeft_59 : decode cX5_mostLeft 59 = .ok (.iload 5, 2) := by decide +kernel
theorem dX5_mostLeft_61 : decode cX5_mostLeft 61 = .ok (.invokestatic 80, 3) := by decide +kernel
theorem dX5_mostLeft_64 : decode cX5_mostLeft 64 = .ok (.istore 8, 2) := by decide +kernel
theorem dX5_mostLeft_66 : decode cX5_mostLeft 66 = .ok (.aload_n 0, 1) := by decide +kernel
theorem dX5_mostLeft_67 : decode cX5_mostLeft 67 = .ok (.getfield 42, 3) := by decide +kernel
theorem dX5_mostLeft_70 : decode cX5_mostLeft 70 = .ok (.iload 8, 2) := by decide +kernel
theorem dX5_mostLeft_72 : decode cX5_mostLeft 72 = .ok (.invokestatic 72, 3) := by decide +kernel
theorem dX5_mostLeft_75 : decode cX5_mostLeft 75 = .ok (.iconst 1, 1) := by decide +kernel
theorem dX5_mostLeft_76 : decode cX5_mostLeft 76 = .ok (.iadd, 1) := by decide +kernel
theorem dX5_mostLeft_77 : decode cX5_mostLeft 77 = .ok (.istore 9, 2) := by decide +kernel
theorem dX5_mostLeft_79 : decode cX5_mostLeft 79 = .ok (.aload_n 0, 1) := by decide +kernel
theorem dX5_mostLeft_80 : decode cX5_mostLeft 80 = .ok (.getfield 42, 3) := by decide +kernel
theorem dX5_mostLeft_83 : decode cX5_mostLeft 83 = .ok (.iload 8, 2) := by decide +kernel
theorem dX5_mostLeft_85 : decode cX5_mostLeft 85 = .ok (.iload 9, 2) := by decide +kernel
theorem dX5_mostLeft_87 : decode cX5_mostLeft 87 = .ok (.invokestatic 68, 3) := by decide +kernel
theorem dX5_mostLeft_90 : decode cX5_mostLeft 90 = .ok (.iload 6, 2) := by decide +kernel
theorem dX5_mostLeft_92 : decode cX5_mostLeft 92 = .ok (.iload 9, 2) := by decide +kernel
theorem dX5_mostLeft_94 : decode cX5_mostLeft 94 = .ok (.invokestatic 100, 3) := by decide +kernel
theorem dX5_mostLeft_97 : decode cX5_mostLeft 97 = .ok (.istore 6, 2) := by decide +kernel
theorem dX5_mostLeft_99 : decode cX5_mostLeft 99 = .ok (.iinc 7 1, 3) := by decide +kernel
theorem dX5_mostLeft_102 : decode cX5_mostLeft 102 = .ok (.goto (-63), 3) := by decide +kernel
theorem dX5_mostLeft_105 : decode cX5_mostLeft 105 = .ok (.iload 6, 2) := by decide +kernel
theorem dX5_mostLeft_107 : decode cX5_mostLeft 107 = .ok (.ireturn, 1) := by decide +kernel
theorem dX5_changeByDraws_0 : decode cX5_changeByDraws 0 = .ok (.aload_n 1, 1) := by decide +kernel
theorem dX5_changeByDraws_1 : decode cX5_changeByDraws 1 = .ok (.aload_n 0, 1) := by decide +kernel
theorem dX5_changeByDraws_2 : decode cX5_changeByDraws 2 = .ok (.getfield 45, 3) := by decide +kernel
theorem dX5_changeByDraws_5 : decode cX5_changeByDraws 5 = .ok (.invokevirtual 126, 3) := by decide +kernel
theorem dX5_changeByDraws_8 : decode cX5_changeByDraws 8 = .ok (.istore_n 2, 1) := by decide +kernel
theorem dX5_changeByDraws_9 : decode cX5_changeByDraws 9 = .ok (.aload_n 0, 1) := by decide +kernel
theorem dX5_changeByDraws_10 : decode cX5_changeByDraws 10 = .ok (.getfield 21, 3) := by decide +kernel
theorem dX5_changeByDraws_13 : decode cX5_changeByDraws 13 = .ok (.iload_n 2, 1) := by decide +kernel
theorem dX5_changeByDraws_14 : decode cX5_changeByDraws 14 = .ok (.invokestatic 72, 3) := by decide +kernel
theorem dX5_changeByDraws_17 : decode cX5_changeByDraws 17 = .ok (.iconst (-1), 1) := by decide +kernel
theorem dX5_changeByDraws_18 : decode cX5_changeByDraws 18 = .ok (.if_icmp .eq 9, 3) := by decide +kernel
theorem dX5_changeByDraws_21 : decode cX5_changeByDraws 21 = .ok (.aload_n 0, 1) := by decide +kernel
theorem dX5_changeByDraws_22 : decode cX5_changeByDraws 22 = .ok (.iload_n 2, 1) := by decide +kernel
theorem dX5_changeByDraws_23 : decode cX5_changeByDraws 23 = .ok (.invokevirtual 131, 3) := by decide +kernel
theorem dX5_changeByDraws_26 : decode cX5_changeByDraws 26 = .ok (.return_, 1) := by decide +kernel
theorem dX5_changeByDraws_27 : decode cX5_changeByDraws 27 = .ok (.aload_n 1, 1) := by decide +kernel
theorem dX5_changeByDraws_28 : decode cX5_changeByDraws 28 = .ok (.aload_n 0, 1) := by decide +kernel
theorem dX5_changeByDraws_29 : decode cX5_changeByDraws 29 = .ok (.getfield 49, 3) := by decide +kernel
theorem dX5_changeByDraws_32 : decode cX5_changeByDraws 32 = .ok (.invokevirtual 126, 3) := by decide +kernel
theorem dX5_changeByDraws_35 : decode cX5_changeByDraws 35 = .ok (.istore_n 3, 1) := by decide +kernel
theorem dX5_changeByDraws_36 : decode cX5_changeByDraws 36 = .ok (.aload_n 1, 1) := by decide +kernel
theorem dX5_changeByDraws_37 : decode cX5_changeByDraws 37 = .ok (.iconst 2, 1) := by decide +kernel
theorem dX5_changeByDraws_38 : decode cX5_changeByDraws 38 = .ok (.invokevirtual 126, 3) := by decide +kernel
theorem dX5_changeByDraws_41 : decode cX5_changeByDraws 41 = .ok (.istore 4, 2) := by decide +kernel
theorem dX5_changeByDraws_43 : decode cX5_changeByDraws 43 = .ok (.aload_n 0, 1) := by decide +kernel
theorem dX5_changeByDraws_44 : decode cX5_changeByDraws 44 = .ok (.iload_n 3, 1) := by decide +kernel
theorem dX5_changeByDraws_45 : decode cX5_changeByDraws 45 = .ok (.iload 4, 2) := by decide +kernel
theorem dX5_changeByDraws_47 : decode cX5_changeByDraws 47 = .ok (.invokevirtual 135, 3) := by decide +kernel
theorem dX5_changeByDraws_50 : decode cX5_changeByDraws 50 = .ok (.iconst (-1), 1) := by decide +kernel
theorem dX5_changeByDraws_51 : decode cX5_changeByDraws 51 = .ok (.if_icmp .ne 11, 3) := by decide +kernel
theorem dX5_changeByDraws_54 : decode cX5_changeByDraws 54 = .ok (.aload_n 0, 1) := by decide +kernel
theorem dX5_changeByDraws_55 : decode cX5_changeByDraws 55 = .ok (.iload_n 2, 1) := by decide +kernel
theorem dX5_changeByDraws_56 : decode cX5_changeByDraws 56 = .ok (.iload_n 3, 1) := by decide +kernel
theorem dX5_changeByDraws_57 : decode cX5_changeByDraws 57 = .ok (.iload 4, 2) := by decide +kernel
theorem dX5_changeByDraws_59 : decode cX5_changeByDraws 59 = .ok (.invokevirtual 138, 3) := by decide +kernel
theorem dX5_changeByDraws_62 : decode cX5_changeByDraws 62 = .ok (.return_, 1) := by decide +kernel
theorem dX5_countOnHands_0 : decode cX5_countOnHands 0 = .ok (.aload_n 0, 1) := by decide +kernel
theorem dX5_countOnHands_1 : decode cX5_countOnHands 1 = .ok (.getfield 45, 3) := by decide +kernel
theorem dX5_countOnHands_4 : decode cX5_countOnHands 4 = .ok (.aload_n 0, 1) := by decide +kernel
theorem dX5_countOnHands_5 : decode cX5_countOnHands 5 = .ok (.iconst (-1), 1) := by decide +kernel
theorem dX5_countOnHands_6 : decode cX5_countOnHands 6 = .ok (.invokevirtual 103, 3) := by decide +kernel
theorem dX5_countOnHands_9 : decode cX5_countOnHands 9 = .ok (.invokestatic 112, 3) := by decide +kernel
theorem dX5_countOnHands_12 : decode cX5_countOnHands 12 = .ok (.isub, 1) := by decide +kernel
theorem dX5_countOnHands_13 : decode cX5_countOnHands 13 = .ok (.ireturn, 1) := by decide +kernel
theorem dX5_countDoing_0 : decode cX5_countDoing 0 = .ok (.iconst 0, 1) := by decide +kernel
theorem dX5_countDoing_1 : decode cX5_countDoing 1 = .ok (.istore_n 2, 1) := by decide +kernel
theorem dX5_countDoing_2 : decode cX5_countDoing 2 = .ok (.iconst 0, 1) := by decide +kernel
theorem dX5_countDoing_3 : decode cX5_countDoing 3 = .ok (.istore_n 3, 1) := by decide +kernel
theorem dX5_countDoing_4 : decode cX5_countDoing 4 = .ok (.iload_n 3, 1) := by decide +kernel
theorem dX5_countDoing_5 : decode cX5_countDoing 5 = .ok (.aload_n 0, 1) := by decide +kernel
theorem dX5_countDoing_6 : decode cX5_countDoing 6 = .ok (.getfield 49, 3) := by decide +kernel
theorem dX5_countDoing_9 : decode cX5_countDoing 9 = .ok (.if_icmp .ge 25, 3) := by decide +kernel
theorem dX5_countDoing_12 : decode cX5_countDoing 12 = .ok (.aload_n 0, 1) := by decide +kernel
theorem dX5_countDoing_13 : decode cX5_countDoing 13 = .ok (.iload_n 3, 1) := by decide +kernel
theorem dX5_countDoing_14 : decode cX5_countDoing 14 = .ok (.iconst 0, 1) := by decide +kernel
theorem dX5_countDoing_15 : decode cX5_countDoing 15 = .ok (.invokevirtual 142, 3) := by decide +kernel
theorem dX5_countDoing_18 : decode cX5_countDoing 18 = .ok (.invokestatic 109, 3) := by decide +kernel
theorem dX5_countDoing_21 : decode cX5_countDoing 21 = .ok (.iload_n 1, 1) := by decide +kernel
theorem dX5_countDoing_22 : decode cX5_countDoing 22 = .ok (.if_icmp .ne 6, 3) := by decide +kernel
theorem dX5_countDoing_25 : decode cX5_countDoing 25 = .ok (.iinc 2 1, 3) := by decide +kernel
theorem dX5_countDoing_28 : decode cX5_countDoing 28 = .ok (.iinc 3 1, 3) := by decide +kernel
theorem dX5_countDoing_31 : decode cX5_countDoing 31 = .ok (.goto (-27), 3) := by decide +kernel
theorem dX5_countDoing_34 : decode cX5_countDoing 34 = .ok (.iload_n 2, 1) := by decide +kernel
theorem dX5_countDoing_35 : decode cX5_countDoing 35 = .ok (.ireturn, 1) := by decide +kernel
theorem dX5_countPleased_0 : decode cX5_countPleased 0 = .ok (.iconst 0, 1) := by decide +kernel
theorem dX5_countPleased_1 : decode cX5_countPleased 1 = .ok (.istore_n 1, 1) := by decide +kernel
theorem dX5_countPleased_2 : decode cX5_countPleased 2 = .ok (.iconst 0, 1) := by decide +kernel
theorem dX5_countPleased_3 : decode cX5_countPleased 3 = .ok (.istore_n 2, 1) := by decide +kernel
theorem dX5_countPleased_4 : decode cX5_countPleased 4 = .ok (.iload_n 2, 1) := by decide +kernel
theorem dX5_countPleased_5 : decode cX5_countPleased 5 = .ok (.aload_n 0, 1) := by decide +kernel
theorem dX5_countPleased_6 : decode cX5_countPleased 6 = .ok (.getfield 49, 3) := by decide +kernel
theorem dX5_countPleased_9 : decode cX5_countPleased 9 = .ok (.if_icmp .ge 26, 3) := by decide +kernel
theorem dX5_countPleased_12 : decode cX5_countPleased 12 = .ok (.aload_n 0, 1) := by decide +kernel
theorem dX5_countPleased_13 : decode cX5_countPleased 13 = .ok (.iload_n 2, 1) := by decide +kernel
theorem dX5_countPleased_14 : decode cX5_countPleased 14 = .ok (.aload_n 0, 1) := by decide +kernel
theorem dX5_countPleased_15 : decode cX5_countPleased 15 = .ok (.iload_n 2, 1) := by decide +kernel
theorem dX5_countPleased_16 : decode cX5_countPleased 16 = .ok (.iconst 0, 1) := by decide +kernel
theorem dX5_countPleased_17 : decode cX5_countPleased 17 = .ok (.invokevirtual 142, 3) := by decide +kernel
theorem dX5_countPleased_20 : decode cX5_countPleased 20 = .ok (.invokevirtual 145, 3) := by decide +kernel
theorem dX5_countPleased_23 : decode cX5_countPleased 23 = .ok (.ifCond .eq 6, 3) := by decide +kernel
theorem dX5_countPleased_26 : decode cX5_countPleased 26 = .ok (.iinc 1 1, 3) := by decide +kernel
theorem dX5_countPleased_29 : decode cX5_countPleased 29 = .ok (.iinc 2 1, 3) := by decide +kernel
theorem dX5_countPleased_32 : decode cX5_countPleased 32 = .ok (.goto (-28), 3) := by decide +kernel
theorem dX5_countPleased_35 : decode cX5_countPleased 35 = .ok (.iload_n 1, 1) := by decide +kernel
theorem dX5_countPleased_36 : decode cX5_countPleased 36 = .ok (.ireturn, 1) := by decide +kernel
theorem dX5_countQuarrels_0 : decode cX5_countQuarrels 0 = .ok (.iconst 0, 1) := by decide +kernel
theorem dX5_countQuarrels_1 : decode cX5_countQuarrels 1 = .ok (.istore_n 1, 1) := by decide +kernel
theorem dX5_countQuarrels_2 : decode cX5_countQuarrels 2 = .ok (.iconst 0, 1) := by decide +kernel
theorem dX5_countQuarrels_3 : decode cX5_countQuarrels 3 = .ok (.istore_n 2, 1) := by decide +kernel
theorem dX5_countQuarrels_4 : decode cX5_countQuarrels 4 = .ok (.iload_n 2, 1) := by decide +kernel
theorem dX5_countQuarrels_5 : decode cX5_countQuarrels 5 = .ok (.aload_n 0, 1) := by decide +kernel
theorem dX5_countQuarrels_6 : decode cX5_countQuarrels 6 = .ok (.getfield 45, 3) := by decide +kernel
theorem dX5_countQuarrels_9 : decode cX5_countQuarrels 9 = .ok (.if_icmp .ge 20, 3) := by decide +kernel
theorem dX5_countQuarrels_12 : decode cX5_countQuarrels 12 = .ok (.iload_n 1, 1) := by decide +kernel
theorem dX5_countQuarrels_13 : decode cX5_countQuarrels 13 = .ok (.aload_n 0, 1) := by decide +kernel
theorem dX5_countQuarrels_14 : decode cX5_countQuarrels 14 = .ok (.iload_n 2, 1) := by decide +kernel
theorem dX5_countQuarrels_15 : decode cX5_countQuarrels 15 = .ok (.invokevirtual 148, 3) := by decide +kernel
theorem dX5_countQuarrels_18 : decode cX5_countQuarrels 18 = .ok (.invokestatic 112, 3) := by decide +kernel
theorem dX5_countQuarrels_21 : decode cX5_countQuarrels 21 = .ok (.iadd, 1) := by decide +kernel
theorem dX5_countQuarrels_22 : decode cX5_countQuarrels 22 = .ok (.istore_n 1, 1) := by decide +kernel
theorem dX5_countQuarrels_23 : decode cX5_countQuarrels 23 = .ok (.iinc 2 1, 3) := by decide +kernel
theorem dX5_countQuarrels_26 : decode cX5_countQuarrels 26 = .ok (.goto (-22), 3) := by decide +kernel
theorem dX5_countQuarrels_29 : decode cX5_countQuarrels 29 = .ok (.iload_n 1, 1) := by decide +kernel
theorem dX5_countQuarrels_30 : decode cX5_countQuarrels 30 = .ok (.iconst 2, 1) := by decide +kernel
theorem dX5_countQuarrels_31 : decode cX5_countQuarrels 31 = .ok (.idiv, 1) := by decide +kernel
theorem dX5_countQuarrels_32 : decode cX5_countQuarrels 32 = .ok (.ireturn, 1) := by decide +kernel
theorem dX5_sumOfTempers_0 : decode cX5_sumOfTempers 0 = .ok (.iconst 0, 1) := by decide +kernel
theorem dX5_sumOfTempers_1 : decode cX5_sumOfTempers 1 = .ok (.istore_n 1, 1) := by decide +kernel
theorem dX5_sumOfTempers_2 : decode cX5_sumOfTempers 2 = .ok (.iconst 0, 1) := by decide +kernel
theorem dX5_sumOfTempers_3 : decode cX5_sumOfTempers 3 = .ok (.istore_n 2, 1) := by decide +kernel
theorem dX5_sumOfTempers_4 : decode cX5_sumOfTempers 4 = .ok (.iload_n 2, 1) := by decide +kernel
theorem dX5_sumOfTempers_5 : decode cX5_sumOfTempers 5 = .ok (.aload_n 0, 1) := by decide +kernel
theorem dX5_sumOfTempers_6 : decode cX5_sumOfTempers 6 = .ok (.getfield 45, 3) := by decide +kernel
theorem dX5_sumOfTempers_9 : decode cX5_sumOfTempers 9 = .ok (.if_icmp .ge 18, 3) := by decide +kernel
theorem dX5_sumOfTempers_12 : decode cX5_sumOfTempers 12 = .ok (.iload_n 1, 1) := by decide +kernel
theorem dX5_sumOfTempers_13 : decode cX5_sumOfTempers 13 = .ok (.aload_n 0, 1) := by decide +kernel
theorem dX5_sumOfTempers_14 : decode cX5_sumOfTempers 14 = .ok (.iload_n 2, 1) := by decide +kernel
theorem dX5_sumOfTempers_15 : decode cX5_sumOfTempers 15 = .ok (.iconst 0, 1) := by decide +kernel
theorem dX5_sumOfTempers_16 : decode cX5_sumOfTempers 16 = .ok (.invokevirtual 84, 3) := by decide +kernel
theorem dX5_sumOfTempers_19 : decode cX5_sumOfTempers 19 = .ok (.iadd, 1) := by decide +kernel
theorem dX5_sumOfTempers_20 : decode cX5_sumOfTempers 20 = .ok (.istore_n 1, 1) := by decide +kernel
theorem dX5_sumOfTempers_21 : decode cX5_sumOfTempers 21 = .ok (.iinc 2 1, 3) := by decide +kernel
theorem dX5_sumOfTempers_24 : decode cX5_sumOfTempers 24 = .ok (.goto (-20), 3) := by decide +kernel
theorem dX5_sumOfTempers_27 : decode cX5_sumOfTempers 27 = .ok (.iload_n 1, 1) := by decide +kernel
theorem dX5_sumOfTempers_28 : decode cX5_sumOfTempers 28 = .ok (.ireturn, 1) := by decide +kernel
theorem dX6_init_0 : decode cX6_init 0 = .ok (.aload_n 0, 1) := by decide +kernel
theorem dX6_init_1 : decode cX6_init 1 = .ok (.invokespecial 3, 3) := by decide +kernel
theorem dX6_init_4 : decode cX6_init 4 = .ok (.aload_n 0, 1) := by decide +kernel
theorem dX6_init_5 : decode cX6_init 5 = .ok (.new 9, 3) := by decide +kernel
theorem dX6_init_8 : decode cX6_init 8 = .ok (.dup, 1) := by decide +kernel
theorem dX6_init_9 : decode cX6_init 9 = .ok (.invokespecial 11, 3) := by decide +kernel
theorem dX6_init_12 : decode cX6_init 12 = .ok (.putfield 12, 3) := by decide +kernel
theorem dX6_init_15 : decode cX6_init 15 = .ok (.aload_n 0, 1) := by decide +kernel
theorem dX6_init_16 : decode cX6_init 16 = .ok (.new 16, 3) := by decide +kernel
theorem dX6_init_19 : decode cX6_init 19 = .ok (.dup, 1) := by decide +kernel
theorem dX6_init_20 : decode cX6_init 20 = .ok (.invokespecial 18, 3) := by decide +kernel
theorem dX6_init_23 : decode cX6_init 23 = .ok (.putfield 19, 3) := by decide +kernel
theorem dX6_init_26 : decode cX6_init 26 = .ok (.aload_n 0, 1) := by decide +kernel
theorem dX6_init_27 : decode cX6_init 27 = .ok (.new 16, 3) := by decide +kernel
theorem dX6_init_30 : decode cX6_init 30 = .ok (.dup, 1) := by decide +kernel
theorem dX6_init_31 : decode cX6_init 31 = .ok (.invokespecial 18, 3) := by decide +kernel
theorem dX6_init_34 : decode cX6_init 34 = .ok (.putfield 23, 3) := by decide +kernel
theorem dX6_init_37 : decode cX6_init 37 = .ok (.aload_n 0, 1) := by decide +kernel
theorem dX6_init_38 : decode cX6_init 38 = .ok (.new 16, 3) := by decide +kernel
theorem dX6_init_41 : decode cX6_init 41 = .ok (.dup, 1) := by decide +kernel
theorem dX6_init_42 : decode cX6_init 42 = .ok (.invokespecial 18, 3) := by decide +kernel
theorem dX6_init_45 : decode cX6_init 45 = .ok (.putfield 26, 3) := by decide +kernel
theorem dX6_init_48 : decode cX6_init 48 = .ok (.aload_n 0, 1) := by decide +kernel
theorem dX6_init_49 : decode cX6_init 49 = .ok (.new 29, 3) := by decide +kernel
theorem dX6_init_52 : decode cX6_init 52 = .ok (.dup, 1) := by decide +kernel
theorem dX6_init_53 : decode cX6_init 53 = .ok (.invokespecial 31, 3) := by decide +kernel
theorem dX6_init_56 : decode cX6_init 56 = .ok (.putfield 32, 3) := by decide +kernel
theorem dX6_init_59 : decode cX6_init 59 = .ok (.aload_n 0, 1) := by decide +kernel
theorem dX6_init_60 : decode cX6_init 60 = .ok (.new 36, 3) := by decide +kernel
theorem dX6_init_63 : decode cX6_init 63 = .ok (.dup, 1) := by decide +kernel
theorem dX6_init_64 : decode cX6_init 64 = .ok (.invokespecial 38, 3) := by decide +kernel
theorem dX6_init_67 : decode cX6_init 67 = .ok (.putfield 39, 3) := by decide +kernel
theorem dX6_init_70 : decode cX6_init 70 = .ok (.aload_n 0, 1) := by decide +kernel
theorem dX6_init_71 : decode cX6_init 71 = .ok (.new 43, 3) := by decide +kernel
theorem dX6_init_74 : decode cX6_init 74 = .ok (.dup, 1) := by decide +kernel
theorem dX6_init_75 : decode cX6_init 75 = .ok (.invokespecial 45, 3) := by decide +kernel
theorem dX6_init_78 : decode cX6_init 78 = .ok (.putfield 46, 3) := by decide +kernel
theorem dX6_init_81 : decode cX6_init 81 = .ok (.aload_n 0, 1) := by decide +kernel
theorem dX6_init_82 : decode cX6_init 82 = .ok (.new 50, 3) := by decide +kernel
theorem dX6_init_85 : decode cX6_init 85 = .ok (.dup, 1) := by decide +kernel
theorem dX6_init_86 : decode cX6_init 86 = .ok (.invokespecial 52, 3) := by decide +kernel
theorem dX6_init_89 : decode cX6_init 89 = .ok (.putfield 53, 3) := by decide +kernel
theorem dX6_init_92 : decode cX6_init 92 = .ok (.return_, 1) := by decide +kernel
theorem dX6_letter_0 : decode cX6_letter 0 = .ok (.iload_n 1, 1) := by decide +kernel
theorem dX6_letter_1 : decode cX6_letter 1 = .ok (.bipush 32, 2) := by decide +kernel
theorem dX6_letter_3 : decode cX6_letter 3 = .ok (.bipush 126, 2) := by decide +kernel
theorem dX6_letter_5 : decode cX6_letter 5 = .ok (.invokestatic 57, 3) := by decide +kernel
theorem dX6_letter_8 : decode cX6_letter 8 = .ok (.ifCond .ne 6, 3) := by decide +kernel
theorem dX6_letter_11 : decode cX6_letter 11 = .ok (.bipush (-102), 2) := by decide +kernel
theorem dX6_letter_13 : decode cX6_letter 13 = .ok (.ireturn, 1) := by decide +kernel
theorem dX6_letter_14 : decode cX6_letter 14 = .ok (.aload_n 0, 1) := by decide +kernel
theorem dX6_letter_15 : decode cX6_letter 15 = .ok (.getfield 12, 3) := by decide +kernel
theorem dX6_letter_18 : decode cX6_letter 18 = .ok (.iload_n 1, 1) := by decide +kernel
theorem dX6_letter_19 : decode cX6_letter 19 = .ok (.invokevirtual 61, 3) := by decide +kernel
theorem dX6_letter_22 : decode cX6_letter 22 = .ok (.ifCond .eq 13, 3) := by decide +kernel
theorem dX6_letter_25 : decode cX6_letter 25 = .ok (.aload_n 0, 1) := by decide +kernel
theorem dX6_letter_26 : decode cX6_letter 26 = .ok (.getfield 12, 3) := by decide +kernel
theorem dX6_letter_29 : decode cX6_letter 29 = .ok (.getfield 65, 3) := by decide +kernel
theorem dX6_letter_32 : decode cX6_letter 32 = .ok (.goto 5, 3) := by decide +kernel
theorem dX6_letter_35 : decode cX6_letter 35 = .ok (.bipush (-104), 2) := by decide +kernel
theorem dX6_letter_37 : decode cX6_letter 37 = .ok (.ireturn, 1) := by decide +kernel
theorem dX6_fault_0 : decode cX6_fault 0 = .ok (.aload_n 0, 1) := by decide +kernel
theorem dX6_fault_1 : decode cX6_fault 1 = .ok (.getfield 12, 3) := by decide +kernel
theorem dX6_fault_4 : decode cX6_fault 4 = .ok (.invokevirtual 69, 3) := by decide +kernel
theorem dX6_fault_7 : decode cX6_fault 7 = .ok (.ireturn, 1) := by decide +kernel
theorem dX6_shop_0 : decode cX6_shop 0 = .ok (.aload_n 0, 1) := by decide +kernel
theorem dX6_shop_1 : decode cX6_shop 1 = .ok (.getfield 12, 3) := by decide +kernel
theorem dX6_shop_4 : decode cX6_shop 4 = .ok (.invokevirtual 73, 3) := by decide +kernel
theorem dX6_shop_7 : decode cX6_shop 7 = .ok (.ifCond .ne 6, 3) := by decide +kernel
theorem dX6_shop_10 : decode cX6_shop 10 = .ok (.bipush (-103), 2) := by decide +kernel
theorem dX6_shop_12 : decode cX6_shop 12 = .ok (.ireturn, 1) := by decide +kernel
theorem dX6_shop_13 : decode cX6_shop 13 = .ok (.aload_n 0, 1) := by decide +kernel
theorem dX6_shop_14 : decode cX6_shop 14 = .ok (.getfield 12, 3) := by decide +kernel
theorem dX6_shop_17 : decode cX6_shop 17 = .ok (.aload_n 0, 1) := by decide +kernel
theorem dX6_shop_18 : decode cX6_shop 18 = .ok (.getfield 19, 3) := by decide +kernel
theorem dX6_shop_21 : decode cX6_shop 21 = .ok (.invokevirtual 77, 3) := by decide +kernel
theorem dX6_shop_24 : decode cX6_shop 24 = .ok (.aload_n 0, 1) := by decide +kernel
theorem dX6_shop_25 : decode cX6_shop 25 = .ok (.getfield 12, 3) := by decide +kernel
theorem dX6_shop_28 : decode cX6_shop 28 = .ok (.iconst 0, 1) := by decide +kernel
theorem dX6_shop_29 : decode cX6_shop 29 = .ok (.putfield 65, 3) := by decide +kernel
theorem dX6_shop_32 : decode cX6_shop 32 = .ok (.aload_n 0, 1) := by decide +kernel
theorem dX6_shop_33 : decode cX6_shop 33 = .ok (.iconst 0, 1) := by decide +kernel
theorem dX6_shop_34 : decode cX6_shop 34 = .ok (.putfield 81, 3) := by decide +kernel
theorem dX6_shop_37 : decode cX6_shop 37 = .ok (.aload_n 0, 1) := by decide +kernel
theorem dX6_shop_38 : decode cX6_shop 38 = .ok (.dup, 1) := by decide +kernel
theorem dX6_shop_39 : decode cX6_shop 39 = .ok (.getfield 85, 3) := by decide +kernel
theorem dX6_shop_42 : decode cX6_shop 42 = .ok (.iconst 1, 1) := by decide +kernel
theorem dX6_shop_43 : decode cX6_shop 43 = .ok (.iadd, 1) := by decide +kernel
theorem dX6_shop_44 : decode cX6_shop 44 = .ok (.putfield 85, 3) := by decide +kernel
theorem dX6_shop_47 : decode cX6_shop 47 = .ok (.aload_n 0, 1) := by decide +kernel
theorem dX6_shop_48 : decode cX6_shop 48 = .ok (.getfield 19, 3) := by decide +kernel
theorem dX6_shop_51 : decode cX6_shop 51 = .ok (.getfield 88, 3) := by decide +kernel
theorem dX6_shop_54 : decode cX6_shop 54 = .ok (.ireturn, 1) := by decide +kernel
theorem dX6_glove_0 : decode cX6_glove 0 = .ok (.aload_n 0, 1) := by decide +kernel
theorem dX6_glove_1 : decode cX6_glove 1 = .ok (.getfield 19, 3) := by decide +kernel
theorem dX6_glove_4 : decode cX6_glove 4 = .ok (.iload_n 1, 1) := by decide +kernel
theorem dX6_glove_5 : decode cX6_glove 5 = .ok (.invokevirtual 91, 3) := by decide +kernel
theorem dX6_glove_8 : decode cX6_glove 8 = .ok (.ifCond .ne 6, 3) := by decide +kernel
theorem dX6_glove_11 : decode cX6_glove 11 = .ok (.bipush (-101), 2) := by decide +kernel
theorem dX6_glove_13 : decode cX6_glove 13 = .ok (.ireturn, 1) := by decide +kernel
theorem dX6_glove_14 : decode cX6_glove 14 = .ok (.iload_n 2, 1) := by decide +kernel
theorem dX6_glove_15 : decode cX6_glove 15 = .ok (.tableswitch 146 0 8 #[49, 61, 73, 85, 95, 107, 119, 128, 137], 49) := by decide +kernel
theorem dX6_glove_64 : decode cX6_glove 64 = .ok (.aload_n 0, 1) := by decide +kernel
theorem dX6_glove_65 : decode cX6_glove 65 = .ok (.getfield 19, 3) := by decide +kernel
theorem dX6_glove_68 : decode cX6_glove 68 = .ok (.getfield 94, 3) := by decide +kernel
theorem dX6_glove_71 : decode cX6_glove 71 = .ok (.iload_n 1, 1) := by decide +kernel
theorem dX6_glove_72 : decode cX6_glove 72 = .ok (.invokestatic 98, 3) := by decide +kernel
theorem dX6_glove_75 : decode cX6_glove 75 = .ok (.ireturn, 1) := by decide +kernel
theorem dX6_glove_76 : decode cX6_glove 76 = .ok (.aload_n 0, 1) := by decide +kernel
theorem dX6_glove_77 : decode cX6_glove 77 = .ok (.getfield 19, 3) := by decide +kernel
theorem dX6_glove_80 : decode cX6_glove 80 = .ok (.getfield 102, 3) := by decide +kernel
theorem dX6_glove_83 : decode cX6_glove 83 = .ok (.iload_n 1, 1) := by decide +kernel
theorem dX6_glove_84 : decode cX6_glove 84 = .ok (.invokestatic 98, 3) := by decide +kernel
theorem dX6_glove_87 : decode cX6_glove 87 = .ok (.ireturn, 1) := by decide +kernel
theorem dX6_glove_88 : decode cX6_glove 88 = .ok (.aload_n 0, 1) := by decide +kernel
theorem dX6_glove_89 : decode cX6_glove 89 = .ok (.getfield 19, 3) := by decide +kernel
theorem dX6_glove_92 : decode cX6_glove 92 = .ok (.getfield 105, 3) := by decide +kernel
theorem dX6_glove_95 : decode cX6_glove 95 = .ok (.iload_n 1, 1) := by decide +kernel
theorem dX6_glove_96 : decode cX6_glove 96 = .ok (.invokestatic 98, 3) := by decide +kernel
theorem dX6_glove_99 : decode cX6_glove 99 = .ok (.ireturn, 1) := by decide +kernel
theorem dX6_glove_100 : decode cX6_glove 100 = .ok (.aload_n 0, 1) := by decide +kernel
theorem dX6_glove_101 : decode cX6_glove 101 = .ok (.getfield 19, 3) := by decide +kernel
theorem dX6_glove_104 : decode cX6_glove 104 = .ok (.iload_n 1, 1) := by decide +kernel
theorem dX6_glove_105 : decode cX6_glove 105 = .ok (.iconst 0, 1) := by decide +kernel
theorem dX6_glove_106 : decode cX6_glove 106 = .ok (.invokevirtual 108, 3) := by decide +kernel
theorem dX6_glove_109 : decode cX6_glove 109 = .ok (.ireturn, 1) := by decide +kernel
theorem dX6_glove_110 : decode cX6_glove 110 = .ok (.aload_n 0, 1) := by decide +kernel
theorem dX6_glove_111 : decode cX6_glove 111 = .ok (.getfield 19, 3) := by decide +kernel
theorem dX6_glove_114 : decode cX6_glove 114 = .ok (.getfield 112, 3) := by decide +kernel
theorem dX6_glove_117 : decode cX6_glove 117 = .ok (.iload_n 1, 1) := by decide +kernel
theorem dX6_glove_118 : decode cX6_glove 118 = .ok (.invokestatic 98, 3) := by decide +kernel
theorem dX6_glove_121 : decode cX6_glove 121 = .ok (.ireturn, 1) := by decide +kernel
theorem dX6_glove_122 : decode cX6_glove 122 = .ok (.aload_n 0, 1) := by decide +kernel
theorem dX6_glove_123 : decode cX6_glove 123 = .ok (.getfield 19, 3) := by decide +kernel
theorem dX6_glove_126 : decode cX6_glove 126 = .ok (.getfield 115, 3) := by decide +kernel
theorem dX6_glove_129 : decode cX6_glove 129 = .ok (.iload_n 1, 1) := by decide +kernel
theorem dX6_glove_130 : decode cX6_glove 130 = .ok (.invokestatic 98, 3) := by decide +kernel
theorem dX6_glove_133 : decode cX6_glove 133 = .ok (.ireturn, 1) := by decide +kernel
theorem dX6_glove_134 : decode cX6_glove 134 = .ok (.aload_n 0, 1) := by decide +kernel
theorem dX6_glove_135 : decode cX6_glove 135 = .ok (.getfield 19, 3) := by decide +kernel
theorem dX6_glove_138 : decode cX6_glove 138 = .ok (.iload_n 1, 1) := by decide +kernel
theorem dX6_glove_139 : decode cX6_glove 139 = .ok (.invokevirtual 118, 3) := by decide +kernel
theorem dX6_glove_142 : decode cX6_glove 142 = .ok (.ireturn, 1) := by decide +kernel
theorem dX6_glove_143 : decode cX6_glove 143 = .ok (.aload_n 0, 1) := by decide +kernel
theorem dX6_glove_144 : decode cX6_glove 144 = .ok (.getfield 19, 3) := by decide +kernel
theorem dX6_glove_147 : decode cX6_glove 147 = .ok (.iload_n 1, 1) := by decide +kernel
theorem dX6_glove_148 : decode cX6_glove 148 = .ok (.invokevirtual 122, 3) := by decide +kernel
theorem dX6_glove_151 : decode cX6_glove 151 = .ok (.ireturn, 1) := by decide +kernel
theorem dX6_glove_152 : decode cX6_glove 152 = .ok (.aload_n 0, 1) := by decide +kernel
theorem dX6_glove_153 : decode cX6_glove 153 = .ok (.getfield 19, 3) := by decide +kernel
theorem dX6_glove_156 : decode cX6_glove 156 = .ok (.iload_n 1, 1) := by decide +kernel
theorem dX6_glove_157 : decode cX6_glove 157 = .ok (.invokevirtual 125, 3) := by decide +kernel
theorem dX6_glove_160 : decode cX6_glove 160 = .ok (.ireturn, 1) := by decide +kernel
theorem dX6_glove_161 : decode cX6_glove 161 = .ok (.bipush (-102), 2) := by decide +kernel
theorem dX6_glove_163 : decode cX6_glove 163 = .ok (.ireturn, 1) := by decide +kernel
theorem dX6_as_0 : decode cX6_as 0 = .ok (.aload_n 0, 1) := by decide +kernel
theorem dX6_as_1 : decode cX6_as 1 = .ok (.getfield 19, 3) := by decide +kernel
theorem dX6_as_4 : decode cX6_as 4 = .ok (.iload_n 1, 1) := by decide +kernel
theorem dX6_as_5 : decode cX6_as 5 = .ok (.invokevirtual 91, 3) := by decide +kernel
theorem dX6_as_8 : decode cX6_as 8 = .ok (.ifCond .ne 6, 3) := by decide +kernel
theorem dX6_as_11 : decode cX6_as 11 = .ok (.bipush (-101), 2) := by decide +kernel
theorem dX6_as_13 : decode cX6_as 13 = .ok (.ireturn, 1) := by decide +kernel
theorem dX6_as_14 : decode cX6_as 14 = .ok (.iload_n 2, 1) := by decide +kernel
theorem dX6_as_15 : decode cX6_as 15 = .ok (.iconst 0, 1) := by decide +kernel
theorem dX6_as_16 : decode cX6_as 16 = .ok (.iconst 4, 1) := by decide +kernel
theorem dX6_as_17 : decode cX6_as 17 = .ok (.invokestatic 57, 3) := by decide +kernel
theorem dX6_as_20 : decode cX6_as 20 = .ok (.ifCond .ne 6, 3) := by decide +kernel
theorem dX6_as_23 : decode cX6_as 23 = .ok (.bipush (-102), 2) := by decide +kernel
theorem dX6_as_25 : decode cX6_as 25 = .ok (.ireturn, 1) := by decide +kernel
theorem dX6_as_26 : decode cX6_as 26 = .ok (.aload_n 0, 1) := by decide +kernel
theorem dX6_as_27 : decode cX6_as 27 = .ok (.getfield 19, 3) := by decide +kernel
theorem dX6_as_30 : decode cX6_as 30 = .ok (.getfield 94, 3) := by decide +kernel
theorem dX6_as_33 : decode cX6_as 33 = .ok (.iload_n 1, 1) := by decide +kernel
theorem dX6_as_34 : decode cX6_as 34 = .ok (.invokestatic 98, 3) := by decide +kernel
theorem dX6_as_37 : decode cX6_as 37 = .ok (.iload_n 2, 1) := by decide +kernel
theorem dX6_as_38 : decode cX6_as 38 = .ok (.invokestatic 128, 3) := by decide +kernel
theorem dX6_as_41 : decode cX6_as 41 = .ok (.ifCond .eq 7, 3) := by decide +kernel
theorem dX6_as_44 : decode cX6_as 44 = .ok (.iload_n 1, 1) := by decide +kernel
theorem dX6_as_45 : decode cX6_as 45 = .ok (.goto 4, 3) := by decide +kernel
theorem dX6_as_48 : decode cX6_as 48 = .ok (.iconst (-1), 1) := by decide +kernel
theorem dX6_as_49 : decode cX6_as 49 = .ok (.ireturn, 1) := by decide +kernel
theorem dX6_wearer_0 : decode cX6_wearer 0 = .ok (.aload_n 0, 1) := by decide +kernel
theorem dX6_wearer_1 : decode cX6_wearer 1 = .ok (.getfield 19, 3) := by decide +kernel
theorem dX6_wearer_4 : decode cX6_wearer 4 = .ok (.iload_n 1, 1) := by decide +kernel
theorem dX6_wearer_5 : decode cX6_wearer 5 = .ok (.invokevirtual 132, 3) := by decide +kernel
theorem dX6_wearer_8 : decode cX6_wearer 8 = .ok (.ifCond .ne 6, 3) := by decide +kernel
theorem dX6_wearer_11 : decode cX6_wearer 11 = .ok (.bipush (-101), 2) := by decide +kernel
theorem dX6_wearer_13 : decode cX6_wearer 13 = .ok (.ireturn, 1) := by decide +kernel
theorem dX6_wearer_14 : decode cX6_wearer 14 = .ok (.iload_n 2, 1) := by decide +kernel
theorem dX6_wearer_15 : decode cX6_wearer 15 = .ok (.tableswitch 168 0 8 #[49, 61, 71, 81, 91, 104, 116, 142, 159], 49) := by decide +kernel
theorem dX6_wearer_64 : decode cX6_wearer 64 = .ok (.aload_n 0, 1) := by decide +kernel
theorem dX6_wearer_65 : decode cX6_wearer 65 = .ok (.getfield 19, 3) := by decide +kernel
theorem dX6_wearer_68 : decode cX6_wearer 68 = .ok (.getfield 135, 3) := by decide +kernel
theorem dX6_wearer_71 : decode cX6_wearer 71 = .ok (.iload_n 1, 1) := by decide +kernel
theorem dX6_wearer_72 : decode cX6_wearer 72 = .ok (.invokestatic 98, 3) := by decide +kernel
theorem dX6_wearer_75 : decode cX6_wearer 75 = .ok (.ireturn, 1) := by decide +kernel
theorem dX6_wearer_76 : decode cX6_wearer 76 = .ok (.aload_n 0, 1) := by decide +kernel
theorem dX6_wearer_77 : decode cX6_wearer 77 = .ok (.getfield 19, 3) := by decide +kernel
theorem dX6_wearer_80 : decode cX6_wearer 80 = .ok (.iload_n 1, 1) := by decide +kernel
theorem dX6_wearer_81 : decode cX6_wearer 81 = .ok (.iconst 0, 1) := by decide +kernel
theorem dX6_wearer_82 : decode cX6_wearer 82 = .ok (.invokevirtual 138, 3) := by decide +kernel
theorem dX6_wearer_85 : decode cX6_wearer 85 = .ok (.ireturn, 1) := by decide +kernel
theorem dX6_wearer_86 : decode cX6_wearer 86 = .ok (.aload_n 0, 1) := by decide +kernel
theorem dX6_wearer_87 : decode cX6_wearer 87 = .ok (.getfield 19, 3) := by decide +kernel
theorem dX6_wearer_90 : decode cX6_wearer 90 = .ok (.iload_n 1, 1) := by decide +kernel
theorem dX6_wearer_91 : decode cX6_wearer 91 = .ok (.iconst 0, 1) := by decide +kernel
theorem dX6_wearer_92 : decode cX6_wearer 92 = .ok (.invokevirtual 141, 3) := by decide +kernel
theorem dX6_wearer_95 : decode cX6_wearer 95 = .ok (.ireturn, 1) := by decide +kernel
theorem dX6_wearer_96 : decode cX6_wearer 96 = .ok (.aload_n 0, 1) := by decide +kernel
theorem dX6_wearer_97 : decode cX6_wearer 97 = .ok (.getfield 19, 3) := by decide +kernel
theorem dX6_wearer_100 : decode cX6_wearer 100 = .ok (.iload_n 1, 1) := by decide +kernel
theorem dX6_wearer_101 : decode cX6_wearer 101 = .ok (.iconst 1, 1) := by decide +kernel
theorem dX6_wearer_102 : decode cX6_wearer 102 = .ok (.invokevirtual 141, 3) := by decide +kernel
theorem dX6_wearer_105 : decode cX6_wearer 105 = .ok (.ireturn, 1) := by decide +kernel
theorem dX6_wearer_106 : decode cX6_wearer 106 = .ok (.aload_n 0, 1) := by decide +kernel
theorem dX6_wearer_107 : decode cX6_wearer 107 = .ok (.getfield 19, 3) := by decide +kernel
theorem dX6_wearer_110 : decode cX6_wearer 110 = .ok (.iload_n 1, 1) := by decide +kernel
theorem dX6_wearer_111 : decode cX6_wearer 111 = .ok (.iconst 0, 1) := by decide +kernel
theorem dX6_wearer_112 : decode cX6_wearer 112 = .ok (.invokevirtual 138, 3) := by decide +kernel
theorem dX6_wearer_115 : decode cX6_wearer 115 = .ok (.invokestatic 144, 3) := by decide +kernel
theorem dX6_wearer_118 : decode cX6_wearer 118 = .ok (.ireturn, 1) := by decide +kernel
theorem dX6_wearer_119 : decode cX6_wearer 119 = .ok (.aload_n 0, 1) := by decide +kernel
theorem dX6_wearer_120 : decode cX6_wearer 120 = .ok (.getfield 19, 3) := by decide +kernel
theorem dX6_wearer_123 : decode cX6_wearer 123 = .ok (.getfield 147, 3) := by decide +kernel
theorem dX6_wearer_126 : decode cX6_wearer 126 = .ok (.iload_n 1, 1) := by decide +kernel
theorem dX6_wearer_127 : decode cX6_wearer 127 = .ok (.invokestatic 98, 3) := by decide +kernel
theorem dX6_wearer_130 : decode cX6_wearer 130 = .ok (.ireturn, 1) := by decide +kernel
theorem dX6_wearer_131 : decode cX6_wearer 131 = .ok (.aload_n 0, 1) := by decide +kernel
theorem dX6_wearer_132 : decode cX6_wearer 132 = .ok (.getfield 19, 3) := by decide +kernel
theorem dX6_wearer_135 : decode cX6_wearer 135 = .ok (.iload_n 1, 1) := by decide +kernel
theorem dX6_wearer_136 : decode cX6_wearer 136 = .ok (.aload_n 0, 1) := by decide +kernel
theorem dX6_wearer_137 : decode cX6_wearer 137 = .ok (.getfield 19, 3) := by decide +kernel
theorem dX6_wearer_140 : decode cX6_wearer 140 = .ok (.iload_n 1, 1) := by decide +kernel
theorem dX6_wearer_141 : decode cX6_wearer 141 = .ok (.iconst 0, 1) := by decide +kernel
theorem dX6_wearer_142 : decode cX6_wearer 142 = .ok (.invokevirtual 138, 3) := by decide +kernel
theorem dX6_wearer_145 : decode cX6_wearer 145 = .ok (.invokevirtual 150, 3) := by decide +kernel
theorem dX6_wearer_148 : decode cX6_wearer 148 = .ok (.ifCond .eq 7, 3) := by decide +kernel
theorem dX6_wearer_151 : decode cX6_wearer 151 = .ok (.iconst 1, 1) := by decide +kernel
theorem dX6_wearer_152 : decode cX6_wearer 152 = .ok (.goto 4, 3) := by decide +kernel
theorem dX6_wearer_155 : decode cX6_wearer 155 = .ok (.iconst 0, 1) := by decide +kernel
theorem dX6_wearer_156 : decode cX6_wearer 156 = .ok (.ireturn, 1) := by decide +kernel
theorem dX6_wearer_157 : decode cX6_wearer 157 = .ok (.aload_n 0, 1) := by decide +kernel
theorem dX6_wearer_158 : decode cX6_wearer 158 = .ok (.getfield 19, 3) := by decide +kernel
theorem dX6_wearer_161 : decode cX6_wearer 161 = .ok (.iload_n 1, 1) := by decide +kernel
theorem dX6_wearer_162 : decode cX6_wearer 162 = .ok (.aload_n 0, 1) := by decide +kernel
theorem dX6_wearer_163 : decode cX6_wearer 163 = .ok (.getfield 19, 3) := by decide +kernel
theorem dX6_wearer_166 : decode cX6_wearer 166 = .ok (.iload_n 1, 1) := by decide +kernel
theorem dX6_wearer_167 : decode cX6_wearer 167 = .ok (.invokevirtual 153, 3) := by decide +kernel
theorem dX6_wearer_170 : decode cX6_wearer 170 = .ok (.invokevirtual 156, 3) := by decide +kernel
theorem dX6_wearer_173 : decode cX6_wearer 173 = .ok (.ireturn, 1) := by decide +kernel
theorem dX6_wearer_174 : decode cX6_wearer 174 = .ok (.aload_n 0, 1) := by decide +kernel
theorem dX6_wearer_175 : decode cX6_wearer 175 = .ok (.getfield 19, 3) := by decide +kernel
theorem dX6_wearer_178 : decode cX6_wearer 178 = .ok (.iload_n 1, 1) := by decide +kernel
theorem dX6_wearer_179 : decode cX6_wearer 179 = .ok (.invokevirtual 153, 3) := by decide +kernel
theorem dX6_wearer_182 : decode cX6_wearer 182 = .ok (.ireturn, 1) := by decide +kernel
theorem dX6_wearer_183 : decode cX6_wearer 183 = .ok (.bipush (-102), 2) := by decide +kernel
theorem dX6_wearer_185 : decode cX6_wearer 185 = .ok (.ireturn, 1) := by decide +kernel
theorem dX6_wear_0 : decode cX6_wear 0 = .ok (.aload_n 0, 1) := by decide +kernel
theorem dX6_wear_1 : decode cX6_wear 1 = .ok (.getfield 19, 3) := by decide +kernel
theorem dX6_wear_4 : decode cX6_wear 4 = .ok (.iload_n 1, 1) := by decide +kernel
theorem dX6_wear_5 : decode cX6_wear 5 = .ok (.invokevirtual 91, 3) := by decide +kernel
theorem dX6_wear_8 : decode cX6_wear 8 = .ok (.ifCond .eq 14, 3) := by decide +kernel
theorem dX6_wear_11 : decode cX6_wear 11 = .ok (.aload_n 0, 1) := by decide +kernel
theorem dX6_wear_12 : decode cX6_wear 12 = .ok (.getfield 19, 3) := by decide +kernel
theorem dX6_wear_15 : decode cX6_wear 15 = .ok (.iload_n 2, 1) := by decide +kernel
theorem dX6_wear_16 : decode cX6_wear 16 = .ok (.invokevirtual 132, 3) := by decide +kernel
theorem dX6_wear_19 : decode cX6_wear 19 = .ok (.ifCond .ne 6, 3) := by decide +kernel
theorem dX6_wear_22 : decode cX6_wear 22 = .ok (.bipush (-101), 2) := by decide +kernel
theorem dX6_wear_24 : decode cX6_wear 24 = .ok (.ireturn, 1) := by decide +kernel
theorem dX6_wear_25 : decode cX6_wear 25 = .ok (.iload_n 3, 1) := by decide +kernel
theorem dX6_wear_26 : decode cX6_wear 26 = .ok (.iconst 0, 1) := by decide +kernel
theorem dX6_wear_27 : decode cX6_wear 27 = .ok (.iconst 1, 1) := by decide +kernel
theorem dX6_wear_28 : decode cX6_wear 28 = .ok (.invokestatic 57, 3) := by decide +kernel
theorem dX6_wear_31 : decode cX6_wear 31 = .ok (.ifCond .ne 6, 3) := by decide +kernel
theorem dX6_wear_34 : decode cX6_wear 34 = .ok (.bipush (-102), 2) := by decide +kernel
theorem dX6_wear_36 : decode cX6_wear 36 = .ok (.ireturn, 1) := by decide +kernel
theorem dX6_wear_37 : decode cX6_wear 37 = .ok (.aload_n 0, 1) := by decide +kernel
theorem dX6_wear_38 : decode cX6_wear 38 = .ok (.getfield 19, 3) := by decide +kernel
theorem dX6_wear_41 : decode cX6_wear 41 = .ok (.getfield 112, 3) := by decide +kernel
theorem dX6_wear_44 : decode cX6_wear 44 = .ok (.iload_n 1, 1) := by decide +kernel
theorem dX6_wear_45 : decode cX6_wear 45 = .ok (.invokestatic 98, 3) := by decide +kernel
theorem dX6_wear_48 : decode cX6_wear 48 = .ok (.iconst (-1), 1) := by decide +kernel
theorem dX6_wear_49 : decode cX6_wear 49 = .ok (.if_icmp .ne 16, 3) := by decide +kernel
theorem dX6_wear_52 : decode cX6_wear 52 = .ok (.aload_n 0, 1) := by decide +kernel
theorem dX6_wear_53 : decode cX6_wear 53 = .ok (.getfield 19, 3) := by decide +kernel
theorem dX6_wear_56 : decode cX6_wear 56 = .ok (.iload_n 2, 1) := by decide +kernel
theorem dX6_wear_57 : decode cX6_wear 57 = .ok (.iload_n 3, 1) := by decide +kernel
theorem dX6_wear_58 : decode cX6_wear 58 = .ok (.invokevirtual 141, 3) := by decide +kernel
theorem dX6_wear_61 : decode cX6_wear 61 = .ok (.iconst (-1), 1) := by decide +kernel
theorem dX6_wear_62 : decode cX6_wear 62 = .ok (.if_icmp .eq 6, 3) := by decide +kernel
theorem dX6_wear_65 : decode cX6_wear 65 = .ok (.bipush (-103), 2) := by decide +kernel
theorem dX6_wear_67 : decode cX6_wear 67 = .ok (.ireturn, 1) := by decide +kernel
theorem dX6_wear_68 : decode cX6_wear 68 = .ok (.aload_n 0, 1) := by decide +kernel
theorem dX6_wear_69 : decode cX6_wear 69 = .ok (.getfield 19, 3) := by decide +kernel
theorem dX6_wear_72 : decode cX6_wear 72 = .ok (.iload_n 1, 1) := by decide +kernel
theorem dX6_wear_73 : decode cX6_wear 73 = .ok (.iload_n 2, 1) := by decide +kernel
theorem dX6_wear_74 : decode cX6_wear 74 = .ok (.iload_n 3, 1) := by decide +kernel
theorem dX6_wear_75 : decode cX6_wear 75 = .ok (.invokevirtual 159, 3) := by decide +kernel
theorem dX6_wear_78 : decode cX6_wear 78 = .ok (.aload_n 0, 1) := by decide +kernel
theorem dX6_wear_79 : decode cX6_wear 79 = .ok (.getfield 19, 3) := by decide +kernel
theorem dX6_wear_82 : decode cX6_wear 82 = .ok (.iload_n 2, 1) := by decide +kernel
theorem dX6_wear_83 : decode cX6_wear 83 = .ok (.iconst 0, 1) := by decide +kernel
theorem dX6_wear_84 : decode cX6_wear 84 = .ok (.invokevirtual 138, 3) := by decide +kernel
theorem dX6_wear_87 : decode cX6_wear 87 = .ok (.ireturn, 1) := by decide +kernel
theorem dX6_off_0 : decode cX6_off 0 = .ok (.aload_n 0, 1) := by decide +kernel
theorem dX6_off_1 : decode cX6_off 1 = .ok (.getfield 19, 3) := by decide +kernel
theorem dX6_off_4 : decode cX6_off 4 = .ok (.iload_n 1, 1) := by decide +kernel
theorem dX6_off_5 : decode cX6_off 5 = .ok (.invokevirtual 91, 3) := by decide +kernel
theorem dX6_off_8 : decode cX6_off 8 = .ok (.ifCond .ne 6, 3) := by decide +kernel
theorem dX6_off_11 : decode cX6_off 11 = .ok (.bipush (-101), 2) := by decide +kernel
theorem dX6_off_13 : decode cX6_off 13 = .ok (.ireturn, 1) := by decide +kernel
theorem dX6_off_14 : decode cX6_off 14 = .ok (.aload_n 0, 1) := by decide +kernel
theorem dX6_off_15 : decode cX6_off 15 = .ok (.getfield 19, 3) := by decide +kernel
theorem dX6_off_18 : decode cX6_off 18 = .ok (.getfield 112, 3) := by decide +kernel
theorem dX6_off_21 : decode cX6_off 21 = .ok (.iload_n 1, 1) := by decide +kernel
theorem dX6_off_22 : decode cX6_off 22 = .ok (.invokestatic 98, 3) := by decide +kernel
theorem dX6_off_25 : decode cX6_off 25 = .ok (.istore_n 2, 1) := by decide +kernel
theorem dX6_off_26 : decode cX6_off 26 = .ok (.iload_n 2, 1) := by decide +kernel
theorem dX6_off_27 : decode cX6_off 27 = .ok (.iconst (-1), 1) := by decide +kernel
theorem dX6_off_28 : decode cX6_off 28 = .ok (.if_icmp .ne 6, 3) := by decide +kernel
theorem dX6_off_31 : decode cX6_off 31 = .ok (.bipush (-103), 2) := by decide +kernel
theorem dX6_off_33 : decode cX6_off 33 = .ok (.ireturn, 1) := by decide +kernel
theorem dX6_off_34 : decode cX6_off 34 = .ok (.aload_n 0, 1) := by decide +kernel
theorem dX6_off_35 : decode cX6_off 35 = .ok (.getfield 19, 3) := by decide +kernel
theorem dX6_off_38 : decode cX6_off 38 = .ok (.iload_n 1, 1) := by decide +kernel
theorem dX6_off_39 : decode cX6_off 39 = .ok (.invokevirtual 163, 3) := by decide +kernel
theorem dX6_off_42 : decode cX6_off 42 = .ok (.iload_n 2, 1) := by decide +kernel
theorem dX6_off_43 : decode cX6_off 43 = .ok (.ireturn, 1) := by decide +kernel
theorem dX6_hour_0 : decode cX6_hour 0 = .ok (.aload_n 0, 1) := by decide +kernel
theorem dX6_hour_1 : decode cX6_hour 1 = .ok (.invokevirtual 167, 3) := by decide +kernel
theorem dX6_hour_4 : decode cX6_hour 4 = .ok (.ifCond .ne 6, 3) := by decide +kernel
theorem dX6_hour_7 : decode cX6_hour 7 = .ok (.bipush (-103), 2) := by decide +kernel
theorem dX6_hour_9 : decode cX6_hour 9 = .ok (.ireturn, 1) := by decide +kernel
theorem dX6_hour_10 : decode cX6_hour 10 = .ok (.aload_n 0, 1) := by decide +kernel
theorem dX6_hour_11 : decode cX6_hour 11 = .ok (.getfield 19, 3) := by decide +kernel
theorem dX6_hour_14 : decode cX6_hour 14 = .ok (.getfield 170, 3) := by decide +kernel
theorem dX6_hour_17 : decode cX6_hour 17 = .ok (.sipush 999, 3) := by decide +kernel
theorem dX6_hour_20 : decode cX6_hour 20 = .ok (.if_icmp .lt 6, 3) := by decide +kernel
theorem dX6_hour_23 : decode cX6_hour 23 = .ok (.bipush (-104), 2) := by decide +kernel
theorem dX6_hour_25 : decode cX6_hour 25 = .ok (.ireturn, 1) := by decide +kernel
theorem dX6_hour_26 : decode cX6_hour 26 = .ok (.aload_n 0, 1) := by decide +kernel
theorem dX6_hour_27 : decode cX6_hour 27 = .ok (.getfield 19, 3) := by decide +kernel
theorem dX6_hour_30 : decode cX6_hour 30 = .ok (.invokevirtual 173, 3) := by decide +kernel
theorem dX6_hour_33 : decode cX6_hour 33 = .ok (.aload_n 0, 1) := by decide +kernel
theorem dX6_hour_34 : decode cX6_hour 34 = .ok (.getfield 19, 3) := by decide +kernel
theorem dX6_hour_37 : decode cX6_hour 37 = .ok (.getfield 170, 3) := by decide +kernel
theorem dX6_hour_40 : decode cX6_hour 40 = .ok (.ireturn, 1) := by decide +kernel
theorem dX6_book_0 : decode cX6_book 0 = .ok (.aload_n 0, 1) := by decide +kernel
theorem dX6_book_1 : decode cX6_book 1 = .ok (.getfield 19, 3) := by decide +kernel
theorem dX6_book_4 : decode cX6_book 4 = .ok (.iload_n 1, 1) := by decide +kernel
theorem dX6_book_5 : decode cX6_book 5 = .ok (.invokevirtual 91, 3) := by decide +kernel
theorem dX6_book_8 : decode cX6_book 8 = .ok (.ifCond .ne 6, 3) := by decide +kernel
theorem dX6_book_11 : decode cX6_book 11 = .ok (.bipush (-101), 2) := by decide +kernel
theorem dX6_book_13 : decode cX6_book 13 = .ok (.ireturn, 1) := by decide +kernel
theorem dX6_book_14 : decode cX6_book 14 = .ok (.iload_n 2, 1) := by decide +kernel
theorem dX6_book_15 : decode cX6_book 15 = .ok (.iconst 0, 1) := by decide +kernel
theorem dX6_book_16 : decode cX6_book 16 = .ok (.bipush 9, 2) := by decide +kernel
theorem dX6_book_18 : decode cX6_book 18 = .ok (.invokestatic 57, 3) := by decide +kernel
theorem dX6_book_21 : decode cX6_book 21 = .ok (.ifCond .ne 6, 3) := by decide +kernel
theorem dX6_book_24 : decode cX6_book 24 = .ok (.bipush (-102), 2) := by decide +kernel
theorem dX6_book_26 : decode cX6_book 26 = .ok (.ireturn, 1) := by decide +kernel
theorem dX6_book_27 : decode cX6_book 27 = .ok (.aload_n 0, 1) := by decide +kernel
theorem dX6_book_28 : decode cX6_book 28 = .ok (.getfield 19, 3) := by decide +kernel
theorem dX6_book_31 : decode cX6_book 31 = .ok (.getfield 102, 3) := by decide +kernel
theorem dX6_book_34 : decode cX6_book 34 = .ok (.iload_n 1, 1) := by decide +kernel
theorem dX6_book_35 : decode cX6_book 35 = .ok (.invokestatic 98, 3) := by decide +kernel
theorem dX6_book_38 : decode cX6_book 38 = .ok (.istore_n 3, 1) := by decide +kernel
theorem dX6_book_39 : decode cX6_book 39 = .ok (.aload_n 0, 1) := by decide +kernel
theorem dX6_book_40 : decode cX6_book 40 = .ok (.getfield 19, 3) := by decide +kernel
theorem dX6_book_43 : decode cX6_book 43 = .ok (.getfield 102, 3) := by decide +kernel
theorem dX6_book_46 : decode cX6_book 46 = .ok (.iload_n 1, 1) := by decide +kernel
theorem dX6_book_47 : decode cX6_book 47 = .ok (.iload_n 2, 1) := by decide +kernel
theorem dX6_book_48 : decode cX6_book 48 = .ok (.invokestatic 176, 3) := by decide +kernel
theorem dX6_book_51 : decode cX6_book 51 = .ok (.iload_n 3, 1) := by decide +kernel
theorem dX6_book_52 : decode cX6_book 52 = .ok (.ireturn, 1) := by decide +kernel
theorem dX6_wish_0 : decode cX6_wish 0 = .ok (.aload_n 0, 1) := by decide +kernel
theorem dX6_wish_1 : decode cX6_wish 1 = .ok (.getfield 19, 3) := by decide +kernel
theorem dX6_wish_4 : decode cX6_wish 4 = .ok (.iload_n 1, 1) := by decide +kernel
theorem dX6_wish_5 : decode cX6_wish 5 = .ok (.invokevirtual 132, 3) := by decide +kernel
theorem dX6_wish_8 : decode cX6_wish 8 = .ok (.ifCond .ne 6, 3) := by decide +kernel
theorem dX6_wish_11 : decode cX6_wish 11 = .ok (.bipush (-101), 2) := by decide +kernel
theorem dX6_wish_13 : decode cX6_wish 13 = .ok (.ireturn, 1) := by decide +kernel
theorem dX6_wish_14 : decode cX6_wish 14 = .ok (.iload_n 2, 1) := by decide +kernel
theorem dX6_wish_15 : decode cX6_wish 15 = .ok (.iconst 0, 1) := by decide +kernel
theorem dX6_wish_16 : decode cX6_wish 16 = .ok (.bipush 9, 2) := by decide +kernel
theorem dX6_wish_18 : decode cX6_wish 18 = .ok (.invokestatic 57, 3) := by decide +kernel
theorem dX6_wish_21 : decode cX6_wish 21 = .ok (.ifCond .eq 12, 3) := by decide +kernel
theorem dX6_wish_24 : decode cX6_wish 24 = .ok (.iload_n 3, 1) := by decide +kernel
theorem dX6_wish_25 : decode cX6_wish 25 = .ok (.iconst 0, 1) := by decide +kernel
theorem dX6_wish_26 : decode cX6_wish 26 = .ok (.iconst 2, 1) := by decide +kernel
theorem dX6_wish_27 : decode cX6_wish 27 = .ok (.invokestatic 57, 3) := by decide +kernel
theorem dX6_wish_30 : decode cX6_wish 30 = .ok (.ifCond .ne 6, 3) := by decide +kernel
theorem dX6_wish_33 : decode cX6_wish 33 = .ok (.bipush (-102), 2) := by decide +kernel
theorem dX6_wish_35 : decode cX6_wish 35 = .ok (.ireturn, 1) := by decide +kernel
theorem dX6_wish_36 : decode cX6_wish 36 = .ok (.aload_n 0, 1) := by decide +kernel
theorem dX6_wish_37 : decode cX6_wish 37 = .ok (.getfield 19, 3) := by decide +kernel
theorem dX6_wish_40 : decode cX6_wish 40 = .ok (.getfield 147, 3) := by decide +kernel
theorem dX6_wish_43 : decode cX6_wish 43 = .ok (.iload_n 1, 1) := by decide +kernel
theorem dX6_wish_44 : decode cX6_wish 44 = .ok (.invokestatic 98, 3) := by decide +kernel
theorem dX6_wish_47 : decode cX6_wish 47 = .ok (.istore 4, 2) := by decide +kernel
theorem dX6_wish_49 : decode cX6_wish 49 = .ok (.aload_n 0, 1) := by decide +kernel
theorem dX6_wish_50 : decode cX6_wish 50 = .ok (.getfield 19, 3) := by decide +kernel
theorem dX6_wish_53 : decode cX6_wish 53 = .ok (.getfield 135, 3) := by decide +kernel
theorem dX6_wish_56 : decode cX6_wish 56 = .ok (.iload_n 1, 1) := by decide +kernel
theorem dX6_wish_57 : decode cX6_wish 57 = .ok (.iload_n 2, 1) := by decide +kernel
theorem dX6_wish_58 : decode cX6_wish 58 = .ok (.invokestatic 176, 3) := by decide +kernel
theorem dX6_wish_61 : decode cX6_wish 61 = .ok (.aload_n 0, 1) := by decide +kernel
theorem dX6_wish_62 : decode cX6_wish 62 = .ok (.getfield 19, 3) := by decide +kernel
theorem dX6_wish_65 : decode cX6_wish 65 = .ok (.getfield 147, 3) := by decide +kernel
theorem dX6_wish_68 : decode cX6_wish 68 = .ok (.iload_n 1, 1) := by decide +kernel
theorem dX6_wish_69 : decode cX6_wish 69 = .ok (.iload_n 3, 1) := by decide +kernel
theorem dX6_wish_70 : decode cX6_wish 70 = .ok (.invokestatic 176, 3) := by decide +kernel
theorem dX6_wish_73 : decode cX6_wish 73 = .ok (.iload 4, 2) := by decide +kernel
theorem dX6_wish_75 : decode cX6_wish 75 = .ok (.ireturn, 1) := by decide +kernel
theorem dX6_mood_0 : decode cX6_mood 0 = .ok (.aload_n 0, 1) := by decide +kernel
theorem dX6_mood_1 : decode cX6_mood 1 = .ok (.getfield 19, 3) := by decide +kernel
theorem dX6_mood_4 : decode cX6_mood 4 = .ok (.iload_n 1, 1) := by decide +kernel
theorem dX6_mood_5 : decode cX6_mood 5 = .ok (.invokevirtual 132, 3) := by decide +kernel
theorem dX6_mood_8 : decode cX6_mood 8 = .ok (.ifCond .ne 6, 3) := by decide +kernel
theorem dX6_mood_11 : decode cX6_mood 11 = .ok (.bipush (-101), 2) := by decide +kernel
theorem dX6_mood_13 : decode cX6_mood 13 = .ok (.ireturn, 1) := by decide +kernel
theorem dX6_mood_14 : decode cX6_mood 14 = .ok (.iload_n 2, 1) := by decide +kernel
theorem dX6_mood_15 : decode cX6_mood 15 = .ok (.iconst 0, 1) := by decide +kernel
theorem dX6_mood_16 : decode cX6_mood 16 = .ok (.bipush 40, 2) := by decide +kernel
theorem dX6_mood_18 : decode cX6_mood 18 = .ok (.invokestatic 57, 3) := by decide +kernel
theorem dX6_mood_21 : decode cX6_mood 21 = .ok (.ifCond .ne 6, 3) := by decide +kernel
theorem dX6_mood_24 : decode cX6_mood 24 = .ok (.bipush (-102), 2) := by decide +kernel
theorem dX6_mood_26 : decode cX6_mood 26 = .ok (.ireturn, 1) := by decide +kernel
theorem dX6_mood_27 : decode cX6_mood 27 = .ok (.aload_n 0, 1) := by decide +kernel
theorem dX6_mood_28 : decode cX6_mood 28 = .ok (.getfield 19, 3) := by decide +kernel
theorem dX6_mood_31 : decode cX6_mood 31 = .ok (.iload_n 1, 1) := by decide +kernel
theorem dX6_mood_32 : decode cX6_mood 32 = .ok (.iload_n 2, 1) := by decide +kernel
theorem dX6_mood_33 : decode cX6_mood 33 = .ok (.invokevirtual 138, 3) := by decide +kernel
theorem dX6_mood_36 : decode cX6_mood 36 = .ok (.ireturn, 1) := by decide +kernel
theorem dX6_teas_0 : decode cX6_teas 0 = .ok (.iload_n 1, 1) := by decide +kernel
theorem dX6_teas_1 : decode cX6_teas 1 = .ok (.iconst 1, 1) := by decide +kernel
theorem dX6_teas_2 : decode cX6_teas 2 = .ok (.bipush 60, 2) := by decide +kernel
theorem dX6_teas_4 : decode cX6_teas 4 = .ok (.invokestatic 57, 3) := by decide +kernel
theorem dX6_teas_7 : decode cX6_teas 7 = .ok (.ifCond .eq 16, 3) := by decide +kernel
theorem dX6_teas_10 : decode cX6_teas 10 = .ok (.iload_n 2, 1) := by decide +kernel
theorem dX6_teas_11 : decode cX6_teas 11 = .ok (.ifCond .lt 12, 3) := by decide +kernel
theorem dX6_teas_14 : decode cX6_teas 14 = .ok (.iload_n 3, 1) := by decide +kernel
theorem dX6_teas_15 : decode cX6_teas 15 = .ok (.iconst 0, 1) := by decide +kernel
theorem dX6_teas_16 : decode cX6_teas 16 = .ok (.iconst 2, 1) := by decide +kernel
theorem dX6_teas_17 : decode cX6_teas 17 = .ok (.invokestatic 57, 3) := by decide +kernel
theorem dX6_teas_20 : decode cX6_teas 20 = .ok (.ifCond .ne 6, 3) := by decide +kernel
theorem dX6_teas_23 : decode cX6_teas 23 = .ok (.bipush (-102), 2) := by decide +kernel
theorem dX6_teas_25 : decode cX6_teas 25 = .ok (.ireturn, 1) := by decide +kernel
theorem dX6_teas_26 : decode cX6_teas 26 = .ok (.aload_n 0, 1) := by decide +kernel
theorem dX6_teas_27 : decode cX6_teas 27 = .ok (.invokevirtual 167, 3) := by decide +kernel
theorem dX6_teas_30 : decode cX6_teas 30 = .ok (.ifCond .ne 6, 3) := by decide +kernel
theorem dX6_teas_33 : decode cX6_teas 33 = .ok (.bipush (-103), 2) := by decide +kernel
theorem dX6_teas_35 : decode cX6_teas 35 = .ok (.ireturn, 1) := by decide +kernel
theorem dX6_teas_36 : decode cX6_teas 36 = .ok (.aload_n 0, 1) := by decide +kernel
theorem dX6_teas_37 : decode cX6_teas 37 = .ok (.getfield 26, 3) := by decide +kernel
theorem dX6_teas_40 : decode cX6_teas 40 = .ok (.aload_n 0, 1) := by decide +kernel
theorem dX6_teas_41 : decode cX6_teas 41 = .ok (.getfield 19, 3) := by decide +kernel
theorem dX6_teas_44 : decode cX6_teas 44 = .ok (.invokevirtual 222, 3) := by decide +kernel
theorem dX6_teas_47 : decode cX6_teas 47 = .ok (.aload_n 0, 1) := by decide +kernel
theorem dX6_teas_48 : decode cX6_teas 48 = .ok (.getfield 53, 3) := by decide +kernel
theorem dX6_teas_51 : decode cX6_teas 51 = .ok (.iload_n 2, 1) := by decide +kernel
theorem dX6_teas_52 : decode cX6_teas 52 = .ok (.putfield 225, 3) := by decide +kernel
theorem dX6_teas_55 : decode cX6_teas 55 = .ok (.iconst 0, 1) := by decide +kernel
theorem dX6_teas_56 : decode cX6_teas 56 = .ok (.istore 4, 2) := by decide +kernel
theorem dX6_teas_58 : decode cX6_teas 58 = .ok (.iconst 0, 1) := by decide +kernel
theorem dX6_teas_59 : decode cX6_teas 59 = .ok (.istore 5, 2) := by decide +kernel
theorem dX6_teas_61 : decode cX6_teas 61 = .ok (.iload 5, 2) := by decide +kernel
theorem dX6_teas_63 : decode cX6_teas 63 = .ok (.iload_n 1, 1) := by decide +kernel
theorem dX6_teas_64 : decode cX6_teas 64 = .ok (.if_icmp .ge 40, 3) := by decide +kernel
theorem dX6_teas_67 : decode cX6_teas 67 = .ok (.aload_n 0, 1) := by decide +kernel
theorem dX6_teas_68 : decode cX6_teas 68 = .ok (.getfield 26, 3) := by decide +kernel
theorem dX6_teas_71 : decode cX6_teas 71 = .ok (.aload_n 0, 1) := by decide +kernel
theorem dX6_teas_72 : decode cX6_teas 72 = .ok (.getfield 53, 3) := by decide +kernel
theorem dX6_teas_75 : decode cX6_teas 75 = .ok (.invokevirtual 228, 3) := by decide +kernel
theorem dX6_teas_78 : decode cX6_teas 78 = .ok (.aload_n 0, 1) := by decide +kernel
theorem dX6_teas_79 : decode cX6_teas 79 = .ok (.getfield 26, 3) := by decide +kernel
theorem dX6_teas_82 : decode cX6_teas 82 = .ok (.invokevirtual 173, 3) := by decide +kernel
theorem dX6_teas_85 : decode cX6_teas 85 = .ok (.iload 4, 2) := by decide +kernel
theorem dX6_teas_87 : decode cX6_teas 87 = .ok (.aload_n 0, 1) := by decide +kernel
theorem dX6_teas_88 : decode cX6_teas 88 = .ok (.getfield 26, 3) := by decide +kernel
theorem dX6_teas_91 : decode cX6_teas 91 = .ok (.iconst 1, 1) := by decide +kernel
theorem dX6_teas_92 : decode cX6_teas 92 = .ok (.invokevirtual 232, 3) := by decide +kernel
theorem dX6_teas_95 : decode cX6_teas 95 = .ok (.iadd, 1) := by decide +kernel
theorem dX6_teas_96 : decode cX6_teas 96 = .ok (.istore 4, 2) := by decide +kernel
theorem dX6_teas_98 : decode cX6_teas 98 = .ok (.iinc 5 1, 3) := by decide +kernel
theorem dX6_teas_101 : decode cX6_teas 101 = .ok (.goto (-40), 3) := by decide +kernel
theorem dX6_teas_104 : decode cX6_teas 104 = .ok (.iload_n 3, 1) := by decide +kernel
theorem dX6_teas_105 : decode cX6_teas 105 = .ok (.lookupswitch 38 #[(0, 27), (1, 30)], 27) := by decide +kernel
theorem dX6_teas_132 : decode cX6_teas 132 = .ok (.iload 4, 2) := by decide +kernel
theorem dX6_teas_134 : decode cX6_teas 134 = .ok (.ireturn, 1) := by decide +kernel
theorem dX6_teas_135 : decode cX6_teas 135 = .ok (.aload_n 0, 1) := by decide +kernel
theorem dX6_teas_136 : decode cX6_teas 136 = .ok (.getfield 26, 3) := by decide +kernel
theorem dX6_teas_139 : decode cX6_teas 139 = .ok (.invokevirtual 235, 3) := by decide +kernel
theorem dX6_teas_142 : decode cX6_teas 142 = .ok (.ireturn, 1) := by decide +kernel
theorem dX6_teas_143 : decode cX6_teas 143 = .ok (.aload_n 0, 1) := by decide +kernel
theorem dX6_teas_144 : decode cX6_teas 144 = .ok (.getfield 53, 3) := by decide +kernel
theorem dX6_teas_147 : decode cX6_teas 147 = .ok (.getfield 225, 3) := by decide +kernel
theorem dX6_teas_150 : decode cX6_teas 150 = .ok (.ireturn, 1) := by decide +kernel
theorem dX6_count_0 : decode cX6_count 0 = .ok (.iload_n 1, 1) := by decide +kernel
theorem dX6_count_1 : decode cX6_count 1 = .ok (.tableswitch 167 0 12 #[67, 75, 83, 91, 99, 108, 117, 125, 133, 141, 149, 157, 162], 67) := by decide +kernel
theorem dX6_count_68 : decode cX6_count 68 = .ok (.aload_n 0, 1) := by decide +kernel
theorem dX6_count_69 : decode cX6_count 69 = .ok (.getfield 19, 3) := by decide +kernel
theorem dX6_count_72 : decode cX6_count 72 = .ok (.getfield 88, 3) := by decide +kernel
theorem dX6_count_75 : decode cX6_count 75 = .ok (.ireturn, 1) := by decide +kernel
theorem dX6_count_76 : decode cX6_count 76 = .ok (.aload_n 0, 1) := by decide +kernel
theorem dX6_count_77 : decode cX6_count 77 = .ok (.getfield 19, 3) := by decide +kernel
theorem dX6_count_80 : decode cX6_count 80 = .ok (.getfield 238, 3) := by decide +kernel
theorem dX6_count_83 : decode cX6_count 83 = .ok (.ireturn, 1) := by decide +kernel
theorem dX6_count_84 : decode cX6_count 84 = .ok (.aload_n 0, 1) := by decide +kernel
theorem dX6_count_85 : decode cX6_count 85 = .ok (.getfield 19, 3) := by decide +kernel
theorem dX6_count_88 : decode cX6_count 88 = .ok (.invokevirtual 235, 3) := by decide +kernel
theorem dX6_count_91 : decode cX6_count 91 = .ok (.ireturn, 1) := by decide +kernel
theorem dX6_count_92 : decode cX6_count 92 = .ok (.aload_n 0, 1) := by decide +kernel
theorem dX6_count_93 : decode cX6_count 93 = .ok (.getfield 19, 3) := by decide +kernel
theorem dX6_count_96 : decode cX6_count 96 = .ok (.getfield 170, 3) := by decide +kernel
theorem dX6_count_99 : decode cX6_count 99 = .ok (.ireturn, 1) := by decide +kernel
theorem dX6_count_100 : decode cX6_count 100 = .ok (.aload_n 0, 1) := by decide +kernel
theorem dX6_count_101 : decode cX6_count 101 = .ok (.getfield 19, 3) := by decide +kernel
theorem dX6_count_104 : decode cX6_count 104 = .ok (.iconst 1, 1) := by decide +kernel
theorem dX6_count_105 : decode cX6_count 105 = .ok (.invokevirtual 232, 3) := by decide +kernel
theorem dX6_count_108 : decode cX6_count 108 = .ok (.ireturn, 1) := by decide +kernel
theorem dX6_count_109 : decode cX6_count 109 = .ok (.aload_n 0, 1) := by decide +kernel
theorem dX6_count_110 : decode cX6_count 110 = .ok (.getfield 19, 3) := by decide +kernel
theorem dX6_count_113 : decode cX6_count 113 = .ok (.iconst 0, 1) := by decide +kernel
theorem dX6_count_114 : decode cX6_count 114 = .ok (.invokevirtual 232, 3) := by decide +kernel
theorem dX6_count_117 : decode cX6_count 117 = .ok (.ireturn, 1) := by decide +kernel
theorem dX6_count_118 : decode cX6_count 118 = .ok (.aload_n 0, 1) := by decide +kernel
theorem dX6_count_119 : decode cX6_count 119 = .ok (.getfield 19, 3) := by decide +kernel
theorem dX6_count_122 : decode cX6_count 122 = .ok (.invokevirtual 241, 3) := by decide +kernel
theorem dX6_count_125 : decode cX6_count 125 = .ok (.ireturn, 1) := by decide +kernel
theorem dX6_count_126 : decode cX6_count 126 = .ok (.aload_n 0, 1) := by decide +kernel
theorem dX6_count_127 : decode cX6_count 127 = .ok (.getfield 19, 3) := by decide +kernel
theorem dX6_count_130 : decode cX6_count 130 = .ok (.invokevirtual 244, 3) := by decide +kernel
theorem dX6_count_133 : decode cX6_count 133 = .ok (.ireturn, 1) := by decide +kernel
theorem dX6_count_134 : decode cX6_count 134 = .ok (.aload_n 0, 1) := by decide +kernel
theorem dX6_count_135 : decode cX6_count 135 = .ok (.getfield 19, 3) := by decide +kernel
theorem dX6_count_138 : decode cX6_count 138 = .ok (.invokevirtual 247, 3) := by decide +kernel
theorem dX6_count_141 : decode cX6_count 141 = .ok (.ireturn, 1) := by decide +kernel
theorem dX6_count_142 : decode cX6_count 142 = .ok (.aload_n 0, 1) := by decide +kernel
theorem dX6_count_143 : decode cX6_count 143 = .ok (.getfield 19, 3) := by decide +kernel
theorem dX6_count_146 : decode cX6_count 146 = .ok (.getfield 219, 3) := by decide +kernel
theorem dX6_count_149 : decode cX6_count 149 = .ok (.ireturn, 1) := by decide +kernel
theorem dX6_count_150 : decode cX6_count 150 = .ok (.aload_n 0, 1) := by decide +kernel
theorem dX6_count_151 : decode cX6_count 151 = .ok (.getfield 12, 3) := by decide +kernel
theorem dX6_count_154 : decode cX6_count 154 = .ok (.getfield 65, 3) := by decide +kernel
theorem dX6_count_157 : decode cX6_count 157 = .ok (.ireturn, 1) := by decide +kernel
theorem dX6_count_158 : decode cX6_count 158 = .ok (.aload_n 0, 1) := by decide +kernel
theorem dX6_count_159 : decode cX6_count 159 = .ok (.getfield 85, 3) := by decide +kernel
theorem dX6_count_162 : decode cX6_count 162 = .ok (.ireturn, 1) := by decide +kernel
theorem dX6_count_163 : decode cX6_count 163 = .ok (.aload_n 0, 1) := by decide +kernel
theorem dX6_count_164 : decode cX6_count 164 = .ok (.getfield 183, 3) := by decide +kernel
theorem dX6_count_167 : decode cX6_count 167 = .ok (.ireturn, 1) := by decide +kernel
theorem dX6_count_168 : decode cX6_count 168 = .ok (.bipush (-102), 2) := by decide +kernel
theorem dX6_count_170 : decode cX6_count 170 = .ok (.ireturn, 1) := by decide +kernel
theorem dX6_hasShop_0 : decode cX6_hasShop 0 = .ok (.aload_n 0, 1) := by decide +kernel
theorem dX6_hasShop_1 : decode cX6_hasShop 1 = .ok (.getfield 19, 3) := by decide +kernel
theorem dX6_hasShop_4 : decode cX6_hasShop 4 = .ok (.getfield 88, 3) := by decide +kernel
theorem dX6_hasShop_7 : decode cX6_hasShop 7 = .ok (.ifCond .le 7, 3) := by decide +kernel
theorem dX6_hasShop_10 : decode cX6_hasShop 10 = .ok (.iconst 1, 1) := by decide +kernel
theorem dX6_hasShop_11 : decode cX6_hasShop 11 = .ok (.goto 4, 3) := by decide +kernel
theorem dX6_hasShop_14 : decode cX6_hasShop 14 = .ok (.iconst 0, 1) := by decide +kernel
theorem dX6_hasShop_15 : decode cX6_hasShop 15 = .ok (.ireturn, 1) := by decide +kernel
theorem dX6_within_0 : decode cX6_within 0 = .ok (.iload_n 0, 1) := by decide +kernel
theorem dX6_within_1 : decode cX6_within 1 = .ok (.iload_n 1, 1) := by decide +kernel
theorem dX6_within_2 : decode cX6_within 2 = .ok (.if_icmp .lt 12, 3) := by decide +kernel
theorem dX6_within_5 : decode cX6_within 5 = .ok (.iload_n 0, 1) := by decide +kernel
theorem dX6_within_6 : decode cX6_within 6 = .ok (.iload_n 2, 1) := by decide +kernel
theorem dX6_within_7 : decode cX6_within 7 = .ok (.if_icmp .gt 7, 3) := by decide +kernel
theorem dX6_within_10 : decode cX6_within 10 = .ok (.iconst 1, 1) := by decide +kernel
theorem dX6_within_11 : decode cX6_within 11 = .ok (.goto 4, 3) := by decide +kernel
theorem dX6_within_14 : decode cX6_within 14 = .ok (.iconst 0, 1) := by decide +kernel
theorem dX6_within_15 : decode cX6_within 15 = .ok (.ireturn, 1) := by decide +kernel
theorem dX6_at_0 : decode cX6_at 0 = .ok (.aload_n 0, 1) := by decide +kernel
theorem dX6_at_1 : decode cX6_at 1 = .ok (.ifnull 19, 3) := by decide +kernel
theorem dX6_at_4 : decode cX6_at 4 = .ok (.iload_n 1, 1) := by decide +kernel
theorem dX6_at_5 : decode cX6_at 5 = .ok (.ifCond .lt 15, 3) := by decide +kernel
theorem dX6_at_8 : decode cX6_at 8 = .ok (.iload_n 1, 1) := by decide +kernel
theorem dX6_at_9 : decode cX6_at 9 = .ok (.aload_n 0, 1) := by decide +kernel
theorem dX6_at_10 : decode cX6_at 10 = .ok (.arraylength, 1) := by decide +kernel
theorem dX6_at_11 : decode cX6_at 11 = .ok (.if_icmp .ge 9, 3) := by decide +kernel
theorem dX6_at_14 : decode cX6_at 14 = .ok (.aload_n 0, 1) := by decide +kernel
theorem dX6_at_15 : decode cX6_at 15 = .ok (.iload_n 1, 1) := by decide +kernel
theorem dX6_at_16 : decode cX6_at 16 = .ok (.iaload, 1) := by decide +kernel
theorem dX6_at_17 : decode cX6_at 17 = .ok (.goto 4, 3) := by decide +kernel
theorem dX6_at_20 : decode cX6_at 20 = .ok (.iconst 0, 1) := by decide +kernel
theorem dX6_at_21 : decode cX6_at 21 = .ok (.ireturn, 1) := by decide +kernel
theorem dX6_put_0 : decode cX6_put 0 = .ok (.aload_n 0, 1) := by decide +kernel
theorem dX6_put_1 : decode cX6_put 1 = .ok (.ifnull 17, 3) := by decide +kernel
theorem dX6_put_4 : decode cX6_put 4 = .ok (.iload_n 1, 1) := by decide +kernel
theorem dX6_put_5 : decode cX6_put 5 = .ok (.ifCond .lt 13, 3) := by decide +kernel
theorem dX6_put_8 : decode cX6_put 8 = .ok (.iload_n 1, 1) := by decide +kernel
theorem dX6_put_9 : decode cX6_put 9 = .ok (.aload_n 0, 1) := by decide +kernel
theorem dX6_put_10 : decode cX6_put 10 = .ok (.arraylength, 1) := by decide +kernel
theorem dX6_put_11 : decode cX6_put 11 = .ok (.if_icmp .ge 7, 3) := by decide +kernel
theorem dX6_put_14 : decode cX6_put 14 = .ok (.aload_n 0, 1) := by decide +kernel
theorem dX6_put_15 : decode cX6_put 15 = .ok (.iload_n 1, 1) := by decide +kernel
theorem dX6_put_16 : decode cX6_put 16 = .ok (.iload_n 2, 1) := by decide +kernel
theorem dX6_put_17 : decode cX6_put 17 = .ok (.iastore, 1) := by decide +kernel
theorem dX6_put_18 : decode cX6_put 18 = .ok (.return_, 1) := by decide +kernel
theorem dX6_copyRow_0 : decode cX6_copyRow 0 = .ok (.aload_n 0, 1) := by decide +kernel
theorem dX6_copyRow_1 : decode cX6_copyRow 1 = .ok (.ifnull 21, 3) := by decide +kernel
theorem dX6_copyRow_4 : decode cX6_copyRow 4 = .ok (.aload_n 1, 1) := by decide +kernel
theorem dX6_copyRow_5 : decode cX6_copyRow 5 = .ok (.ifnull 17, 3) := by decide +kernel
theorem dX6_copyRow_8 : decode cX6_copyRow 8 = .ok (.aload_n 0, 1) := by decide +kernel
theorem dX6_copyRow_9 : decode cX6_copyRow 9 = .ok (.iconst 0, 1) := by decide +kernel
theorem dX6_copyRow_10 : decode cX6_copyRow 10 = .ok (.aload_n 1, 1) := by decide +kernel
theorem dX6_copyRow_11 : decode cX6_copyRow 11 = .ok (.iconst 0, 1) := by decide +kernel
theorem dX6_copyRow_12 : decode cX6_copyRow 12 = .ok (.aload_n 0, 1) := by decide +kernel
theorem dX6_copyRow_13 : decode cX6_copyRow 13 = .ok (.arraylength, 1) := by decide +kernel
theorem dX6_copyRow_14 : decode cX6_copyRow 14 = .ok (.aload_n 1, 1) := by decide +kernel
theorem dX6_copyRow_15 : decode cX6_copyRow 15 = .ok (.arraylength, 1) := by decide +kernel
theorem dX6_copyRow_16 : decode cX6_copyRow 16 = .ok (.invokestatic 281, 3) := by decide +kernel
theorem dX6_copyRow_19 : decode cX6_copyRow 19 = .ok (.invokestatic 286, 3) := by decide +kernel
theorem dX6_copyRow_22 : decode cX6_copyRow 22 = .ok (.return_, 1) := by decide +kernel
theorem dX6_hasBit_0 : decode cX6_hasBit 0 = .ok (.iload_n 0, 1) := by decide +kernel
theorem dX6_hasBit_1 : decode cX6_hasBit 1 = .ok (.iload_n 1, 1) := by decide +kernel
theorem dX6_hasBit_2 : decode cX6_hasBit 2 = .ok (.ishr, 1) := by decide +kernel
theorem dX6_hasBit_3 : decode cX6_hasBit 3 = .ok (.iconst 1, 1) := by decide +kernel
theorem dX6_hasBit_4 : decode cX6_hasBit 4 = .ok (.iand, 1) := by decide +kernel
theorem dX6_hasBit_5 : decode cX6_hasBit 5 = .ok (.ifCond .eq 7, 3) := by decide +kernel
theorem dX6_hasBit_8 : decode cX6_hasBit 8 = .ok (.iconst 1, 1) := by decide +kernel
theorem dX6_hasBit_9 : decode cX6_hasBit 9 = .ok (.goto 4, 3) := by decide +kernel
theorem dX6_hasBit_12 : decode cX6_hasBit 12 = .ok (.iconst 0, 1) := by decide +kernel
theorem dX6_hasBit_13 : decode cX6_hasBit 13 = .ok (.ireturn, 1) := by decide +kernel
theorem dX6_kindOf_0 : decode cX6_kindOf 0 = .ok (.iload_n 0, 1) := by decide +kernel
theorem dX6_kindOf_1 : decode cX6_kindOf 1 = .ok (.tableswitch 73 100 111 #[67, 73, 73, 63, 73, 73, 73, 65, 71, 73, 73, 69], 63) := by decide +kernel
theorem dX6_kindOf_64 : decode cX6_kindOf 64 = .ok (.iconst 0, 1) := by decide +kernel
theorem dX6_kindOf_65 : decode cX6_kindOf 65 = .ok (.ireturn, 1) := by decide +kernel
theorem dX6_kindOf_66 : decode cX6_kindOf 66 = .ok (.iconst 1, 1) := by decide +kernel
theorem dX6_kindOf_67 : decode cX6_kindOf 67 = .ok (.ireturn, 1) := by decide +kernel
theorem dX6_kindOf_68 : decode cX6_kindOf 68 = .ok (.iconst 2, 1) := by decide +kernel
theorem dX6_kindOf_69 : decode cX6_kindOf 69 = .ok (.ireturn, 1) := by decide +kernel
theorem dX6_kindOf_70 : decode cX6_kindOf 70 = .ok (.iconst 3, 1) := by decide +kernel
theorem dX6_kindOf_71 : decode cX6_kindOf 71 = .ok (.ireturn, 1) := by decide +kernel
theorem dX6_kindOf_72 : decode cX6_kindOf 72 = .ok (.iconst 4, 1) := by decide +kernel
theorem dX6_kindOf_73 : decode cX6_kindOf 73 = .ok (.ireturn, 1) := by decide +kernel
theorem dX6_kindOf_74 : decode cX6_kindOf 74 = .ok (.iconst (-1), 1) := by decide +kernel
theorem dX6_kindOf_75 : decode cX6_kindOf 75 = .ok (.ireturn, 1) := by decide +kernel
theorem dX6_isOfKind_0 : decode cX6_isOfKind 0 = .ok (.iload_n 1, 1) := by decide +kernel
theorem dX6_isOfKind_1 : decode cX6_isOfKind 1 = .ok (.ifCond .eq 18, 3) := by decide +kernel
theorem dX6_isOfKind_4 : decode cX6_isOfKind 4 = .ok (.iload_n 0, 1) := by decide +kernel
theorem dX6_isOfKind_5 : decode cX6_isOfKind 5 = .ok (.iload_n 1, 1) := by decide +kernel
theorem dX6_isOfKind_6 : decode cX6_isOfKind 6 = .ok (.if_icmp .eq 13, 3) := by decide +kernel
theorem dX6_isOfKind_9 : decode cX6_isOfKind 9 = .ok (.iload_n 0, 1) := by decide +kernel
theorem dX6_isOfKind_10 : decode cX6_isOfKind 10 = .ok (.iconst 4, 1) := by decide +kernel
theorem dX6_isOfKind_11 : decode cX6_isOfKind 11 = .ok (.if_icmp .ne 12, 3) := by decide +kernel
theorem dX6_isOfKind_14 : decode cX6_isOfKind 14 = .ok (.iload_n 1, 1) := by decide +kernel
theorem dX6_isOfKind_15 : decode cX6_isOfKind 15 = .ok (.iconst 1, 1) := by decide +kernel
theorem dX6_isOfKind_16 : decode cX6_isOfKind 16 = .ok (.if_icmp .ne 7, 3) := by decide +kernel
theorem dX6_isOfKind_19 : decode cX6_isOfKind 19 = .ok (.iconst 1, 1) := by decide +kernel
theorem dX6_isOfKind_20 : decode cX6_isOfKind 20 = .ok (.goto 4, 3) := by decide +kernel
theorem dX6_isOfKind_23 : decode cX6_isOfKind 23 = .ok (.iconst 0, 1) := by decide +kernel
theorem dX6_isOfKind_24 : decode cX6_isOfKind 24 = .ok (.ireturn, 1) := by decide +kernel
theorem dX6_ageOf_0 : decode cX6_ageOf 0 = .ok (.iload_n 0, 1) := by decide +kernel
theorem dX6_ageOf_1 : decode cX6_ageOf 1 = .ok (.bipush 20, 2) := by decide +kernel
theorem dX6_ageOf_3 : decode cX6_ageOf 3 = .ok (.if_icmp .ge 7, 3) := by decide +kernel
theorem dX6_ageOf_6 : decode cX6_ageOf 6 = .ok (.iload_n 0, 1) := by decide +kernel
theorem dX6_ageOf_7 : decode cX6_ageOf 7 = .ok (.goto 5, 3) := by decide +kernel
theorem dX6_ageOf_10 : decode cX6_ageOf 10 = .ok (.bipush 20, 2) := by decide +kernel
theorem dX6_ageOf_12 : decode cX6_ageOf 12 = .ok (.ireturn, 1) := by decide +kernel
theorem dX6_temperOf_0 : decode cX6_temperOf 0 = .ok (.iload_n 0, 1) := by decide +kernel
theorem dX6_temperOf_1 : decode cX6_temperOf 1 = .ok (.tableswitch 94 1 4 #[31, 69, 81, 48], 31) := by decide +kernel
theorem dX6_temperOf_32 : decode cX6_temperOf 32 = .ok (.iload_n 1, 1) := by decide +kernel
theorem dX6_temperOf_33 : decode cX6_temperOf 33 = .ok (.iload_n 2, 1) := by decide +kernel
theorem dX6_temperOf_34 : decode cX6_temperOf 34 = .ok (.iadd, 1) := by decide +kernel
theorem dX6_temperOf_35 : decode cX6_temperOf 35 = .ok (.bipush 9, 2) := by decide +kernel
theorem dX6_temperOf_37 : decode cX6_temperOf 37 = .ok (.if_icmp .ge 9, 3) := by decide +kernel
theorem dX6_temperOf_40 : decode cX6_temperOf 40 = .ok (.iload_n 1, 1) := by decide +kernel
theorem dX6_temperOf_41 : decode cX6_temperOf 41 = .ok (.iload_n 2, 1) := by decide +kernel
theorem dX6_temperOf_42 : decode cX6_temperOf 42 = .ok (.iadd, 1) := by decide +kernel
theorem dX6_temperOf_43 : decode cX6_temperOf 43 = .ok (.goto 5, 3) := by decide +kernel
theorem dX6_temperOf_46 : decode cX6_temperOf 46 = .ok (.bipush 9, 2) := by decide +kernel
theorem dX6_temperOf_48 : decode cX6_temperOf 48 = .ok (.ireturn, 1) := by decide +kernel
theorem dX6_temperOf_49 : decode cX6_temperOf 49 = .ok (.iload_n 1, 1) := by decide +kernel
theorem dX6_temperOf_50 : decode cX6_temperOf 50 = .ok (.iconst 2, 1) := by decide +kernel
theorem dX6_temperOf_51 : decode cX6_temperOf 51 = .ok (.iload_n 2, 1) := by decide +kernel
