theorem dX7_see_61 : decode cX7_see 61 = .ok (.getfield 125, 3) := by decide +kernel
theorem dX7_see_64 : decode cX7_see 64 = .ok (.iload_n 2, 1) := by decide +kernel
theorem dX7_see_65 : decode cX7_see 65 = .ok (.iastore, 1) := by decide +kernel
theorem dX7_see_66 : decode cX7_see 66 = .ok (.aload_n 0, 1) := by decide +kernel
theorem dX7_see_67 : decode cX7_see 67 = .ok (.getfield 34, 3) := by decide +kernel
theorem dX7_see_70 : decode cX7_see 70 = .ok (.aload_n 0, 1) := by decide +kernel
theorem dX7_see_71 : decode cX7_see 71 = .ok (.getfield 125, 3) := by decide +kernel
theorem dX7_see_74 : decode cX7_see 74 = .ok (.iload_n 3, 1) := by decide +kernel
theorem dX7_see_75 : decode cX7_see 75 = .ok (.iastore, 1) := by decide +kernel
theorem dX7_see_76 : decode cX7_see 76 = .ok (.aload_n 0, 1) := by decide +kernel
theorem dX7_see_77 : decode cX7_see 77 = .ok (.dup, 1) := by decide +kernel
theorem dX7_see_78 : decode cX7_see 78 = .ok (.getfield 125, 3) := by decide +kernel
theorem dX7_see_81 : decode cX7_see 81 = .ok (.iconst 1, 1) := by decide +kernel
theorem dX7_see_82 : decode cX7_see 82 = .ok (.iadd, 1) := by decide +kernel
theorem dX7_see_83 : decode cX7_see 83 = .ok (.putfield 125, 3) := by decide +kernel
theorem dX7_see_86 : decode cX7_see 86 = .ok (.aload_n 0, 1) := by decide +kernel
theorem dX7_see_87 : decode cX7_see 87 = .ok (.getfield 125, 3) := by decide +kernel
theorem dX7_see_90 : decode cX7_see 90 = .ok (.ireturn, 1) := by decide +kernel
theorem dX7_forget_0 : decode cX7_forget 0 = .ok (.aload_n 0, 1) := by decide +kernel
theorem dX7_forget_1 : decode cX7_forget 1 = .ok (.getfield 125, 3) := by decide +kernel
theorem dX7_forget_4 : decode cX7_forget 4 = .ok (.istore_n 1, 1) := by decide +kernel
theorem dX7_forget_5 : decode cX7_forget 5 = .ok (.aload_n 0, 1) := by decide +kernel
theorem dX7_forget_6 : decode cX7_forget 6 = .ok (.iconst 0, 1) := by decide +kernel
theorem dX7_forget_7 : decode cX7_forget 7 = .ok (.putfield 125, 3) := by decide +kernel
theorem dX7_forget_10 : decode cX7_forget 10 = .ok (.iload_n 1, 1) := by decide +kernel
theorem dX7_forget_11 : decode cX7_forget 11 = .ok (.ireturn, 1) := by decide +kernel
theorem dX7_marksOf_0 : decode cX7_marksOf 0 = .ok (.iconst 0, 1) := by decide +kernel
theorem dX7_marksOf_1 : decode cX7_marksOf 1 = .ok (.istore_n 2, 1) := by decide +kernel
theorem dX7_marksOf_2 : decode cX7_marksOf 2 = .ok (.iconst 0, 1) := by decide +kernel
theorem dX7_marksOf_3 : decode cX7_marksOf 3 = .ok (.istore_n 3, 1) := by decide +kernel
theorem dX7_marksOf_4 : decode cX7_marksOf 4 = .ok (.iload_n 3, 1) := by decide +kernel
theorem dX7_marksOf_5 : decode cX7_marksOf 5 = .ok (.bipush 9, 2) := by decide +kernel
theorem dX7_marksOf_7 : decode cX7_marksOf 7 = .ok (.if_icmp .gt 96, 3) := by decide +kernel
theorem dX7_marksOf_10 : decode cX7_marksOf 10 = .ok (.iconst 1, 1) := by decide +kernel
theorem dX7_marksOf_11 : decode cX7_marksOf 11 = .ok (.istore 4, 2) := by decide +kernel
theorem dX7_marksOf_13 : decode cX7_marksOf 13 = .ok (.iconst 0, 1) := by decide +kernel
theorem dX7_marksOf_14 : decode cX7_marksOf 14 = .ok (.istore 5, 2) := by decide +kernel
theorem dX7_marksOf_16 : decode cX7_marksOf 16 = .ok (.iload 5, 2) := by decide +kernel
theorem dX7_marksOf_18 : decode cX7_marksOf 18 = .ok (.aload_n 0, 1) := by decide +kernel
theorem dX7_marksOf_19 : decode cX7_marksOf 19 = .ok (.getfield 125, 3) := by decide +kernel
theorem dX7_marksOf_22 : decode cX7_marksOf 22 = .ok (.if_icmp .ge 60, 3) := by decide +kernel
theorem dX7_marksOf_25 : decode cX7_marksOf 25 = .ok (.iload 4, 2) := by decide +kernel
theorem dX7_marksOf_27 : decode cX7_marksOf 27 = .ok (.ifCond .eq 46, 3) := by decide +kernel
theorem dX7_marksOf_30 : decode cX7_marksOf 30 = .ok (.aload_n 0, 1) := by decide +kernel
theorem dX7_marksOf_31 : decode cX7_marksOf 31 = .ok (.getfield 28, 3) := by decide +kernel
theorem dX7_marksOf_34 : decode cX7_marksOf 34 = .ok (.iload 5, 2) := by decide +kernel
theorem dX7_marksOf_36 : decode cX7_marksOf 36 = .ok (.iaload, 1) := by decide +kernel
theorem dX7_marksOf_37 : decode cX7_marksOf 37 = .ok (.iload_n 1, 1) := by decide +kernel
theorem dX7_marksOf_38 : decode cX7_marksOf 38 = .ok (.if_icmp .ne 31, 3) := by decide +kernel
theorem dX7_marksOf_41 : decode cX7_marksOf 41 = .ok (.aload_n 0, 1) := by decide +kernel
theorem dX7_marksOf_42 : decode cX7_marksOf 42 = .ok (.iload_n 1, 1) := by decide +kernel
theorem dX7_marksOf_43 : decode cX7_marksOf 43 = .ok (.iload_n 3, 1) := by decide +kernel
theorem dX7_marksOf_44 : decode cX7_marksOf 44 = .ok (.aload_n 0, 1) := by decide +kernel
theorem dX7_marksOf_45 : decode cX7_marksOf 45 = .ok (.iload_n 1, 1) := by decide +kernel
theorem dX7_marksOf_46 : decode cX7_marksOf 46 = .ok (.aload_n 0, 1) := by decide +kernel
theorem dX7_marksOf_47 : decode cX7_marksOf 47 = .ok (.getfield 31, 3) := by decide +kernel
theorem dX7_marksOf_50 : decode cX7_marksOf 50 = .ok (.iload 5, 2) := by decide +kernel
theorem dX7_marksOf_52 : decode cX7_marksOf 52 = .ok (.iaload, 1) := by decide +kernel
theorem dX7_marksOf_53 : decode cX7_marksOf 53 = .ok (.invokevirtual 128, 3) := by decide +kernel
theorem dX7_marksOf_56 : decode cX7_marksOf 56 = .ok (.invokevirtual 132, 3) := by decide +kernel
theorem dX7_marksOf_59 : decode cX7_marksOf 59 = .ok (.aload_n 0, 1) := by decide +kernel
theorem dX7_marksOf_60 : decode cX7_marksOf 60 = .ok (.getfield 34, 3) := by decide +kernel
theorem dX7_marksOf_63 : decode cX7_marksOf 63 = .ok (.iload 5, 2) := by decide +kernel
theorem dX7_marksOf_65 : decode cX7_marksOf 65 = .ok (.iaload, 1) := by decide +kernel
theorem dX7_marksOf_66 : decode cX7_marksOf 66 = .ok (.if_icmp .ne 7, 3) := by decide +kernel
theorem dX7_marksOf_69 : decode cX7_marksOf 69 = .ok (.iconst 1, 1) := by decide +kernel
theorem dX7_marksOf_70 : decode cX7_marksOf 70 = .ok (.goto 4, 3) := by decide +kernel
theorem dX7_marksOf_73 : decode cX7_marksOf 73 = .ok (.iconst 0, 1) := by decide +kernel
theorem dX7_marksOf_74 : decode cX7_marksOf 74 = .ok (.istore 4, 2) := by decide +kernel
theorem dX7_marksOf_76 : decode cX7_marksOf 76 = .ok (.iinc 5 1, 3) := by decide +kernel
theorem dX7_marksOf_79 : decode cX7_marksOf 79 = .ok (.goto (-63), 3) := by decide +kernel
theorem dX7_marksOf_82 : decode cX7_marksOf 82 = .ok (.iload_n 2, 1) := by decide +kernel
theorem dX7_marksOf_83 : decode cX7_marksOf 83 = .ok (.iload 4, 2) := by decide +kernel
theorem dX7_marksOf_85 : decode cX7_marksOf 85 = .ok (.ifCond .eq 9, 3) := by decide +kernel
theorem dX7_marksOf_88 : decode cX7_marksOf 88 = .ok (.iconst 1, 1) := by decide +kernel
theorem dX7_marksOf_89 : decode cX7_marksOf 89 = .ok (.iload_n 3, 1) := by decide +kernel
theorem dX7_marksOf_90 : decode cX7_marksOf 90 = .ok (.ishl, 1) := by decide +kernel
theorem dX7_marksOf_91 : decode cX7_marksOf 91 = .ok (.goto 4, 3) := by decide +kernel
theorem dX7_marksOf_94 : decode cX7_marksOf 94 = .ok (.iconst 0, 1) := by decide +kernel
theorem dX7_marksOf_95 : decode cX7_marksOf 95 = .ok (.ior, 1) := by decide +kernel
theorem dX7_marksOf_96 : decode cX7_marksOf 96 = .ok (.istore_n 2, 1) := by decide +kernel
theorem dX7_marksOf_97 : decode cX7_marksOf 97 = .ok (.iinc 3 1, 3) := by decide +kernel
theorem dX7_marksOf_100 : decode cX7_marksOf 100 = .ok (.goto (-96), 3) := by decide +kernel
theorem dX7_marksOf_103 : decode cX7_marksOf 103 = .ok (.iload_n 2, 1) := by decide +kernel
theorem dX7_marksOf_104 : decode cX7_marksOf 104 = .ok (.ireturn, 1) := by decide +kernel
theorem dX7_worstBy_0 : decode cX7_worstBy 0 = .ok (.iconst 0, 1) := by decide +kernel
theorem dX7_worstBy_1 : decode cX7_worstBy 1 = .ok (.istore 4, 2) := by decide +kernel
theorem dX7_worstBy_3 : decode cX7_worstBy 3 = .ok (.iconst 0, 1) := by decide +kernel
theorem dX7_worstBy_4 : decode cX7_worstBy 4 = .ok (.istore 5, 2) := by decide +kernel
theorem dX7_worstBy_6 : decode cX7_worstBy 6 = .ok (.iload 5, 2) := by decide +kernel
theorem dX7_worstBy_8 : decode cX7_worstBy 8 = .ok (.bipush 9, 2) := by decide +kernel
theorem dX7_worstBy_10 : decode cX7_worstBy 10 = .ok (.if_icmp .gt 101, 3) := by decide +kernel
theorem dX7_worstBy_13 : decode cX7_worstBy 13 = .ok (.iconst 0, 1) := by decide +kernel
theorem dX7_worstBy_14 : decode cX7_worstBy 14 = .ok (.istore 6, 2) := by decide +kernel
theorem dX7_worstBy_16 : decode cX7_worstBy 16 = .ok (.iconst 0, 1) := by decide +kernel
theorem dX7_worstBy_17 : decode cX7_worstBy 17 = .ok (.istore 7, 2) := by decide +kernel
theorem dX7_worstBy_19 : decode cX7_worstBy 19 = .ok (.iload 7, 2) := by decide +kernel
theorem dX7_worstBy_21 : decode cX7_worstBy 21 = .ok (.bipush 9, 2) := by decide +kernel
theorem dX7_worstBy_23 : decode cX7_worstBy 23 = .ok (.if_icmp .gt 66, 3) := by decide +kernel
theorem dX7_worstBy_26 : decode cX7_worstBy 26 = .ok (.iload 6, 2) := by decide +kernel
theorem dX7_worstBy_28 : decode cX7_worstBy 28 = .ok (.iload_n 2, 1) := by decide +kernel
theorem dX7_worstBy_29 : decode cX7_worstBy 29 = .ok (.iload 5, 2) := by decide +kernel
theorem dX7_worstBy_31 : decode cX7_worstBy 31 = .ok (.invokestatic 139, 3) := by decide +kernel
theorem dX7_worstBy_34 : decode cX7_worstBy 34 = .ok (.ifCond .eq 45, 3) := by decide +kernel
theorem dX7_worstBy_37 : decode cX7_worstBy 37 = .ok (.iload_n 2, 1) := by decide +kernel
theorem dX7_worstBy_38 : decode cX7_worstBy 38 = .ok (.iload 7, 2) := by decide +kernel
theorem dX7_worstBy_40 : decode cX7_worstBy 40 = .ok (.invokestatic 139, 3) := by decide +kernel
theorem dX7_worstBy_43 : decode cX7_worstBy 43 = .ok (.ifCond .eq 36, 3) := by decide +kernel
theorem dX7_worstBy_46 : decode cX7_worstBy 46 = .ok (.aload_n 0, 1) := by decide +kernel
theorem dX7_worstBy_47 : decode cX7_worstBy 47 = .ok (.iload_n 1, 1) := by decide +kernel
theorem dX7_worstBy_48 : decode cX7_worstBy 48 = .ok (.iload 5, 2) := by decide +kernel
theorem dX7_worstBy_50 : decode cX7_worstBy 50 = .ok (.aload_n 0, 1) := by decide +kernel
theorem dX7_worstBy_51 : decode cX7_worstBy 51 = .ok (.iload_n 1, 1) := by decide +kernel
theorem dX7_worstBy_52 : decode cX7_worstBy 52 = .ok (.iload_n 3, 1) := by decide +kernel
theorem dX7_worstBy_53 : decode cX7_worstBy 53 = .ok (.invokevirtual 128, 3) := by decide +kernel
theorem dX7_worstBy_56 : decode cX7_worstBy 56 = .ok (.invokevirtual 132, 3) := by decide +kernel
theorem dX7_worstBy_59 : decode cX7_worstBy 59 = .ok (.aload_n 0, 1) := by decide +kernel
theorem dX7_worstBy_60 : decode cX7_worstBy 60 = .ok (.iload_n 1, 1) := by decide +kernel
theorem dX7_worstBy_61 : decode cX7_worstBy 61 = .ok (.iload 7, 2) := by decide +kernel
theorem dX7_worstBy_63 : decode cX7_worstBy 63 = .ok (.aload_n 0, 1) := by decide +kernel
theorem dX7_worstBy_64 : decode cX7_worstBy 64 = .ok (.iload_n 1, 1) := by decide +kernel
theorem dX7_worstBy_65 : decode cX7_worstBy 65 = .ok (.iload_n 3, 1) := by decide +kernel
theorem dX7_worstBy_66 : decode cX7_worstBy 66 = .ok (.invokevirtual 128, 3) := by decide +kernel
theorem dX7_worstBy_69 : decode cX7_worstBy 69 = .ok (.invokevirtual 132, 3) := by decide +kernel
theorem dX7_worstBy_72 : decode cX7_worstBy 72 = .ok (.if_icmp .ne 7, 3) := by decide +kernel
theorem dX7_worstBy_75 : decode cX7_worstBy 75 = .ok (.iconst 1, 1) := by decide +kernel
theorem dX7_worstBy_76 : decode cX7_worstBy 76 = .ok (.goto 4, 3) := by decide +kernel
theorem dX7_worstBy_79 : decode cX7_worstBy 79 = .ok (.iconst 0, 1) := by decide +kernel
theorem dX7_worstBy_80 : decode cX7_worstBy 80 = .ok (.iadd, 1) := by decide +kernel
theorem dX7_worstBy_81 : decode cX7_worstBy 81 = .ok (.istore 6, 2) := by decide +kernel
theorem dX7_worstBy_83 : decode cX7_worstBy 83 = .ok (.iinc 7 1, 3) := by decide +kernel
theorem dX7_worstBy_86 : decode cX7_worstBy 86 = .ok (.goto (-67), 3) := by decide +kernel
theorem dX7_worstBy_89 : decode cX7_worstBy 89 = .ok (.iload 6, 2) := by decide +kernel
theorem dX7_worstBy_91 : decode cX7_worstBy 91 = .ok (.iload 4, 2) := by decide +kernel
theorem dX7_worstBy_93 : decode cX7_worstBy 93 = .ok (.if_icmp .le 8, 3) := by decide +kernel
theorem dX7_worstBy_96 : decode cX7_worstBy 96 = .ok (.iload 6, 2) := by decide +kernel
theorem dX7_worstBy_98 : decode cX7_worstBy 98 = .ok (.goto 5, 3) := by decide +kernel
theorem dX7_worstBy_101 : decode cX7_worstBy 101 = .ok (.iload 4, 2) := by decide +kernel
theorem dX7_worstBy_103 : decode cX7_worstBy 103 = .ok (.istore 4, 2) := by decide +kernel
theorem dX7_worstBy_105 : decode cX7_worstBy 105 = .ok (.iinc 5 1, 3) := by decide +kernel
theorem dX7_worstBy_108 : decode cX7_worstBy 108 = .ok (.goto (-102), 3) := by decide +kernel
theorem dX7_worstBy_111 : decode cX7_worstBy 111 = .ok (.iload 4, 2) := by decide +kernel
theorem dX7_worstBy_113 : decode cX7_worstBy 113 = .ok (.ireturn, 1) := by decide +kernel
theorem dX7_feelFor_0 : decode cX7_feelFor 0 = .ok (.aload_n 0, 1) := by decide +kernel
theorem dX7_feelFor_1 : decode cX7_feelFor 1 = .ok (.iload_n 1, 1) := by decide +kernel
theorem dX7_feelFor_2 : decode cX7_feelFor 2 = .ok (.invokevirtual 158, 3) := by decide +kernel
theorem dX7_feelFor_5 : decode cX7_feelFor 5 = .ok (.istore_n 2, 1) := by decide +kernel
theorem dX7_feelFor_6 : decode cX7_feelFor 6 = .ok (.iconst (-1), 1) := by decide +kernel
theorem dX7_feelFor_7 : decode cX7_feelFor 7 = .ok (.istore_n 3, 1) := by decide +kernel
theorem dX7_feelFor_8 : decode cX7_feelFor 8 = .ok (.ldc 200, 2) := by decide +kernel
theorem dX7_feelFor_10 : decode cX7_feelFor 10 = .ok (.istore 4, 2) := by decide +kernel
theorem dX7_feelFor_12 : decode cX7_feelFor 12 = .ok (.iconst 0, 1) := by decide +kernel
theorem dX7_feelFor_13 : decode cX7_feelFor 13 = .ok (.istore 5, 2) := by decide +kernel
theorem dX7_feelFor_15 : decode cX7_feelFor 15 = .ok (.iload 5, 2) := by decide +kernel
theorem dX7_feelFor_17 : decode cX7_feelFor 17 = .ok (.bipush 9, 2) := by decide +kernel
theorem dX7_feelFor_19 : decode cX7_feelFor 19 = .ok (.if_icmp .gt 53, 3) := by decide +kernel
theorem dX7_feelFor_22 : decode cX7_feelFor 22 = .ok (.iload_n 2, 1) := by decide +kernel
theorem dX7_feelFor_23 : decode cX7_feelFor 23 = .ok (.ifCond .eq 49, 3) := by decide +kernel
theorem dX7_feelFor_26 : decode cX7_feelFor 26 = .ok (.aload_n 0, 1) := by decide +kernel
theorem dX7_feelFor_27 : decode cX7_feelFor 27 = .ok (.iload_n 1, 1) := by decide +kernel
theorem dX7_feelFor_28 : decode cX7_feelFor 28 = .ok (.iload_n 2, 1) := by decide +kernel
theorem dX7_feelFor_29 : decode cX7_feelFor 29 = .ok (.iload 5, 2) := by decide +kernel
theorem dX7_feelFor_31 : decode cX7_feelFor 31 = .ok (.invokevirtual 240, 3) := by decide +kernel
theorem dX7_feelFor_34 : decode cX7_feelFor 34 = .ok (.istore 6, 2) := by decide +kernel
theorem dX7_feelFor_36 : decode cX7_feelFor 36 = .ok (.iload 6, 2) := by decide +kernel
theorem dX7_feelFor_38 : decode cX7_feelFor 38 = .ok (.iload 4, 2) := by decide +kernel
theorem dX7_feelFor_40 : decode cX7_feelFor 40 = .ok (.if_icmp .ge 8, 3) := by decide +kernel
theorem dX7_feelFor_43 : decode cX7_feelFor 43 = .ok (.iload 5, 2) := by decide +kernel
theorem dX7_feelFor_45 : decode cX7_feelFor 45 = .ok (.goto 4, 3) := by decide +kernel
theorem dX7_feelFor_48 : decode cX7_feelFor 48 = .ok (.iload_n 3, 1) := by decide +kernel
theorem dX7_feelFor_49 : decode cX7_feelFor 49 = .ok (.istore_n 3, 1) := by decide +kernel
theorem dX7_feelFor_50 : decode cX7_feelFor 50 = .ok (.iload 6, 2) := by decide +kernel
theorem dX7_feelFor_52 : decode cX7_feelFor 52 = .ok (.iload 4, 2) := by decide +kernel
theorem dX7_feelFor_54 : decode cX7_feelFor 54 = .ok (.if_icmp .ge 8, 3) := by decide +kernel
theorem dX7_feelFor_57 : decode cX7_feelFor 57 = .ok (.iload 6, 2) := by decide +kernel
theorem dX7_feelFor_59 : decode cX7_feelFor 59 = .ok (.goto 5, 3) := by decide +kernel
theorem dX7_feelFor_62 : decode cX7_feelFor 62 = .ok (.iload 4, 2) := by decide +kernel
theorem dX7_feelFor_64 : decode cX7_feelFor 64 = .ok (.istore 4, 2) := by decide +kernel
theorem dX7_feelFor_66 : decode cX7_feelFor 66 = .ok (.iinc 5 1, 3) := by decide +kernel
theorem dX7_feelFor_69 : decode cX7_feelFor 69 = .ok (.goto (-54), 3) := by decide +kernel
theorem dX7_feelFor_72 : decode cX7_feelFor 72 = .ok (.iload_n 3, 1) := by decide +kernel
theorem dX7_feelFor_73 : decode cX7_feelFor 73 = .ok (.ireturn, 1) := by decide +kernel
theorem dX7_draw_0 : decode cX7_draw 0 = .ok (.aload_n 0, 1) := by decide +kernel
theorem dX7_draw_1 : decode cX7_draw 1 = .ok (.ldc2_w 243, 3) := by decide +kernel
theorem dX7_draw_4 : decode cX7_draw 4 = .ok (.aload_n 0, 1) := by decide +kernel
theorem dX7_draw_5 : decode cX7_draw 5 = .ok (.getfield 245, 3) := by decide +kernel
theorem dX7_draw_8 : decode cX7_draw 8 = .ok (.lmul, 1) := by decide +kernel
theorem dX7_draw_9 : decode cX7_draw 9 = .ok (.ldc2_w 249, 3) := by decide +kernel
theorem dX7_draw_12 : decode cX7_draw 12 = .ok (.ladd, 1) := by decide +kernel
theorem dX7_draw_13 : decode cX7_draw 13 = .ok (.ldc2_w 251, 3) := by decide +kernel
theorem dX7_draw_16 : decode cX7_draw 16 = .ok (.land, 1) := by decide +kernel
theorem dX7_draw_17 : decode cX7_draw 17 = .ok (.putfield 245, 3) := by decide +kernel
theorem dX7_draw_20 : decode cX7_draw 20 = .ok (.aload_n 0, 1) := by decide +kernel
theorem dX7_draw_21 : decode cX7_draw 21 = .ok (.getfield 245, 3) := by decide +kernel
theorem dX7_draw_24 : decode cX7_draw 24 = .ok (.ldc2_w 253, 3) := by decide +kernel
theorem dX7_draw_27 : decode cX7_draw 27 = .ok (.ldiv, 1) := by decide +kernel
theorem dX7_draw_28 : decode cX7_draw 28 = .ok (.iload_n 1, 1) := by decide +kernel
theorem dX7_draw_29 : decode cX7_draw 29 = .ok (.i2l, 1) := by decide +kernel
theorem dX7_draw_30 : decode cX7_draw 30 = .ok (.lrem, 1) := by decide +kernel
theorem dX7_draw_31 : decode cX7_draw 31 = .ok (.l2i, 1) := by decide +kernel
theorem dX7_draw_32 : decode cX7_draw 32 = .ok (.ireturn, 1) := by decide +kernel
theorem dX7_butting_0 : decode cX7_butting 0 = .ok (.iconst 0, 1) := by decide +kernel
theorem dX7_butting_1 : decode cX7_butting 1 = .ok (.istore_n 1, 1) := by decide +kernel
theorem dX7_butting_2 : decode cX7_butting 2 = .ok (.iconst 0, 1) := by decide +kernel
theorem dX7_butting_3 : decode cX7_butting 3 = .ok (.istore_n 2, 1) := by decide +kernel
theorem dX7_butting_4 : decode cX7_butting 4 = .ok (.iload_n 2, 1) := by decide +kernel
theorem dX7_butting_5 : decode cX7_butting 5 = .ok (.aload_n 0, 1) := by decide +kernel
theorem dX7_butting_6 : decode cX7_butting 6 = .ok (.getfield 116, 3) := by decide +kernel
theorem dX7_butting_9 : decode cX7_butting 9 = .ok (.if_icmp .ge 29, 3) := by decide +kernel
theorem dX7_butting_12 : decode cX7_butting 12 = .ok (.iload_n 1, 1) := by decide +kernel
theorem dX7_butting_13 : decode cX7_butting 13 = .ok (.aload_n 0, 1) := by decide +kernel
theorem dX7_butting_14 : decode cX7_butting 14 = .ok (.iload_n 2, 1) := by decide +kernel
theorem dX7_butting_15 : decode cX7_butting 15 = .ok (.invokevirtual 170, 3) := by decide +kernel
theorem dX7_butting_18 : decode cX7_butting 18 = .ok (.invokestatic 152, 3) := by decide +kernel
theorem dX7_butting_21 : decode cX7_butting 21 = .ok (.iconst 1, 1) := by decide +kernel
theorem dX7_butting_22 : decode cX7_butting 22 = .ok (.if_icmp .ne 7, 3) := by decide +kernel
theorem dX7_butting_25 : decode cX7_butting 25 = .ok (.iconst 1, 1) := by decide +kernel
theorem dX7_butting_26 : decode cX7_butting 26 = .ok (.goto 4, 3) := by decide +kernel
theorem dX7_butting_29 : decode cX7_butting 29 = .ok (.iconst 0, 1) := by decide +kernel
theorem dX7_butting_30 : decode cX7_butting 30 = .ok (.iadd, 1) := by decide +kernel
theorem dX7_butting_31 : decode cX7_butting 31 = .ok (.istore_n 1, 1) := by decide +kernel
theorem dX7_butting_32 : decode cX7_butting 32 = .ok (.iinc 2 1, 3) := by decide +kernel
theorem dX7_butting_35 : decode cX7_butting 35 = .ok (.goto (-31), 3) := by decide +kernel
theorem dX7_butting_38 : decode cX7_butting 38 = .ok (.iload_n 1, 1) := by decide +kernel
theorem dX7_butting_39 : decode cX7_butting 39 = .ok (.ireturn, 1) := by decide +kernel
theorem dX7_onHands_0 : decode cX7_onHands 0 = .ok (.iconst 0, 1) := by decide +kernel
theorem dX7_onHands_1 : decode cX7_onHands 1 = .ok (.istore_n 1, 1) := by decide +kernel
theorem dX7_onHands_2 : decode cX7_onHands 2 = .ok (.iconst 0, 1) := by decide +kernel
theorem dX7_onHands_3 : decode cX7_onHands 3 = .ok (.istore_n 2, 1) := by decide +kernel
theorem dX7_onHands_4 : decode cX7_onHands 4 = .ok (.iload_n 2, 1) := by decide +kernel
theorem dX7_onHands_5 : decode cX7_onHands 5 = .ok (.aload_n 0, 1) := by decide +kernel
theorem dX7_onHands_6 : decode cX7_onHands 6 = .ok (.getfield 113, 3) := by decide +kernel
theorem dX7_onHands_9 : decode cX7_onHands 9 = .ok (.if_icmp .ge 27, 3) := by decide +kernel
theorem dX7_onHands_12 : decode cX7_onHands 12 = .ok (.iload_n 1, 1) := by decide +kernel
theorem dX7_onHands_13 : decode cX7_onHands 13 = .ok (.aload_n 0, 1) := by decide +kernel
theorem dX7_onHands_14 : decode cX7_onHands 14 = .ok (.getfield 19, 3) := by decide +kernel
theorem dX7_onHands_17 : decode cX7_onHands 17 = .ok (.iload_n 2, 1) := by decide +kernel
theorem dX7_onHands_18 : decode cX7_onHands 18 = .ok (.iaload, 1) := by decide +kernel
theorem dX7_onHands_19 : decode cX7_onHands 19 = .ok (.iconst (-1), 1) := by decide +kernel
theorem dX7_onHands_20 : decode cX7_onHands 20 = .ok (.if_icmp .ne 7, 3) := by decide +kernel
theorem dX7_onHands_23 : decode cX7_onHands 23 = .ok (.iconst 0, 1) := by decide +kernel
theorem dX7_onHands_24 : decode cX7_onHands 24 = .ok (.goto 4, 3) := by decide +kernel
theorem dX7_onHands_27 : decode cX7_onHands 27 = .ok (.iconst 1, 1) := by decide +kernel
theorem dX7_onHands_28 : decode cX7_onHands 28 = .ok (.iadd, 1) := by decide +kernel
theorem dX7_onHands_29 : decode cX7_onHands 29 = .ok (.istore_n 1, 1) := by decide +kernel
theorem dX7_onHands_30 : decode cX7_onHands 30 = .ok (.iinc 2 1, 3) := by decide +kernel
theorem dX7_onHands_33 : decode cX7_onHands 33 = .ok (.goto (-29), 3) := by decide +kernel
theorem dX7_onHands_36 : decode cX7_onHands 36 = .ok (.iload_n 1, 1) := by decide +kernel
theorem dX7_onHands_37 : decode cX7_onHands 37 = .ok (.ireturn, 1) := by decide +kernel
theorem dX7_takeTea_0 : decode cX7_takeTea 0 = .ok (.aload_n 0, 1) := by decide +kernel
theorem dX7_takeTea_1 : decode cX7_takeTea 1 = .ok (.aload_n 0, 1) := by decide +kernel
theorem dX7_takeTea_2 : decode cX7_takeTea 2 = .ok (.getfield 113, 3) := by decide +kernel
theorem dX7_takeTea_5 : decode cX7_takeTea 5 = .ok (.invokevirtual 255, 3) := by decide +kernel
theorem dX7_takeTea_8 : decode cX7_takeTea 8 = .ok (.istore_n 1, 1) := by decide +kernel
theorem dX7_takeTea_9 : decode cX7_takeTea 9 = .ok (.aload_n 0, 1) := by decide +kernel
theorem dX7_takeTea_10 : decode cX7_takeTea 10 = .ok (.getfield 19, 3) := by decide +kernel
theorem dX7_takeTea_13 : decode cX7_takeTea 13 = .ok (.iload_n 1, 1) := by decide +kernel
theorem dX7_takeTea_14 : decode cX7_takeTea 14 = .ok (.iaload, 1) := by decide +kernel
theorem dX7_takeTea_15 : decode cX7_takeTea 15 = .ok (.iconst (-1), 1) := by decide +kernel
theorem dX7_takeTea_16 : decode cX7_takeTea 16 = .ok (.if_icmp .eq 13, 3) := by decide +kernel
theorem dX7_takeTea_19 : decode cX7_takeTea 19 = .ok (.aload_n 0, 1) := by decide +kernel
theorem dX7_takeTea_20 : decode cX7_takeTea 20 = .ok (.getfield 19, 3) := by decide +kernel
theorem dX7_takeTea_23 : decode cX7_takeTea 23 = .ok (.iload_n 1, 1) := by decide +kernel
theorem dX7_takeTea_24 : decode cX7_takeTea 24 = .ok (.iconst (-1), 1) := by decide +kernel
theorem dX7_takeTea_25 : decode cX7_takeTea 25 = .ok (.iastore, 1) := by decide +kernel
theorem dX7_takeTea_26 : decode cX7_takeTea 26 = .ok (.goto 42, 3) := by decide +kernel
theorem dX7_takeTea_29 : decode cX7_takeTea 29 = .ok (.iconst 2, 1) := by decide +kernel
theorem dX7_takeTea_30 : decode cX7_takeTea 30 = .ok (.aload_n 0, 1) := by decide +kernel
theorem dX7_takeTea_31 : decode cX7_takeTea 31 = .ok (.aload_n 0, 1) := by decide +kernel
theorem dX7_takeTea_32 : decode cX7_takeTea 32 = .ok (.getfield 116, 3) := by decide +kernel
theorem dX7_takeTea_35 : decode cX7_takeTea 35 = .ok (.invokevirtual 255, 3) := by decide +kernel
theorem dX7_takeTea_38 : decode cX7_takeTea 38 = .ok (.imul, 1) := by decide +kernel
theorem dX7_takeTea_39 : decode cX7_takeTea 39 = .ok (.istore_n 2, 1) := by decide +kernel
theorem dX7_takeTea_40 : decode cX7_takeTea 40 = .ok (.iload_n 2, 1) := by decide +kernel
theorem dX7_takeTea_41 : decode cX7_takeTea 41 = .ok (.aload_n 0, 1) := by decide +kernel
theorem dX7_takeTea_42 : decode cX7_takeTea 42 = .ok (.iconst 2, 1) := by decide +kernel
theorem dX7_takeTea_43 : decode cX7_takeTea 43 = .ok (.invokevirtual 255, 3) := by decide +kernel
theorem dX7_takeTea_46 : decode cX7_takeTea 46 = .ok (.iadd, 1) := by decide +kernel
theorem dX7_takeTea_47 : decode cX7_takeTea 47 = .ok (.istore_n 2, 1) := by decide +kernel
theorem dX7_takeTea_48 : decode cX7_takeTea 48 = .ok (.aload_n 0, 1) := by decide +kernel
theorem dX7_takeTea_49 : decode cX7_takeTea 49 = .ok (.getfield 19, 3) := by decide +kernel
theorem dX7_takeTea_52 : decode cX7_takeTea 52 = .ok (.iload_n 1, 1) := by decide +kernel
theorem dX7_takeTea_53 : decode cX7_takeTea 53 = .ok (.aload_n 0, 1) := by decide +kernel
theorem dX7_takeTea_54 : decode cX7_takeTea 54 = .ok (.iload_n 2, 1) := by decide +kernel
theorem dX7_takeTea_55 : decode cX7_takeTea 55 = .ok (.invokevirtual 173, 3) := by decide +kernel
theorem dX7_takeTea_58 : decode cX7_takeTea 58 = .ok (.iconst (-1), 1) := by decide +kernel
theorem dX7_takeTea_59 : decode cX7_takeTea 59 = .ok (.if_icmp .ne 7, 3) := by decide +kernel
theorem dX7_takeTea_62 : decode cX7_takeTea 62 = .ok (.iload_n 2, 1) := by decide +kernel
theorem dX7_takeTea_63 : decode cX7_takeTea 63 = .ok (.goto 4, 3) := by decide +kernel
theorem dX7_takeTea_66 : decode cX7_takeTea 66 = .ok (.iconst (-1), 1) := by decide +kernel
theorem dX7_takeTea_67 : decode cX7_takeTea 67 = .ok (.iastore, 1) := by decide +kernel
theorem dX7_takeTea_68 : decode cX7_takeTea 68 = .ok (.aload_n 0, 1) := by decide +kernel
theorem dX7_takeTea_69 : decode cX7_takeTea 69 = .ok (.invokevirtual 188, 3) := by decide +kernel
theorem dX7_takeTea_72 : decode cX7_takeTea 72 = .ok (.return_, 1) := by decide +kernel
theorem dX7_teasNow_0 : decode cX7_teasNow 0 = .ok (.iconst 0, 1) := by decide +kernel
theorem dX7_teasNow_1 : decode cX7_teasNow 1 = .ok (.istore 4, 2) := by decide +kernel
theorem dX7_teasNow_3 : decode cX7_teasNow 3 = .ok (.iload 4, 2) := by decide +kernel
theorem dX7_teasNow_5 : decode cX7_teasNow 5 = .ok (.bipush 6, 2) := by decide +kernel
theorem dX7_teasNow_7 : decode cX7_teasNow 7 = .ok (.if_icmp .ge 37, 3) := by decide +kernel
theorem dX7_teasNow_10 : decode cX7_teasNow 10 = .ok (.aload_n 0, 1) := by decide +kernel
theorem dX7_teasNow_11 : decode cX7_teasNow 11 = .ok (.getfield 47, 3) := by decide +kernel
theorem dX7_teasNow_14 : decode cX7_teasNow 14 = .ok (.iload 4, 2) := by decide +kernel
theorem dX7_teasNow_16 : decode cX7_teasNow 16 = .ok (.aload_n 0, 1) := by decide +kernel
theorem dX7_teasNow_17 : decode cX7_teasNow 17 = .ok (.getfield 16, 3) := by decide +kernel
theorem dX7_teasNow_20 : decode cX7_teasNow 20 = .ok (.iload 4, 2) := by decide +kernel
theorem dX7_teasNow_22 : decode cX7_teasNow 22 = .ok (.iaload, 1) := by decide +kernel
theorem dX7_teasNow_23 : decode cX7_teasNow 23 = .ok (.iastore, 1) := by decide +kernel
theorem dX7_teasNow_24 : decode cX7_teasNow 24 = .ok (.aload_n 0, 1) := by decide +kernel
theorem dX7_teasNow_25 : decode cX7_teasNow 25 = .ok (.getfield 50, 3) := by decide +kernel
theorem dX7_teasNow_28 : decode cX7_teasNow 28 = .ok (.iload 4, 2) := by decide +kernel
theorem dX7_teasNow_30 : decode cX7_teasNow 30 = .ok (.aload_n 0, 1) := by decide +kernel
theorem dX7_teasNow_31 : decode cX7_teasNow 31 = .ok (.getfield 19, 3) := by decide +kernel
theorem dX7_teasNow_34 : decode cX7_teasNow 34 = .ok (.iload 4, 2) := by decide +kernel
theorem dX7_teasNow_36 : decode cX7_teasNow 36 = .ok (.iaload, 1) := by decide +kernel
theorem dX7_teasNow_37 : decode cX7_teasNow 37 = .ok (.iastore, 1) := by decide +kernel
theorem dX7_teasNow_38 : decode cX7_teasNow 38 = .ok (.iinc 4 1, 3) := by decide +kernel
theorem dX7_teasNow_41 : decode cX7_teasNow 41 = .ok (.goto (-38), 3) := by decide +kernel
theorem dX7_teasNow_44 : decode cX7_teasNow 44 = .ok (.aload_n 0, 1) := by decide +kernel
theorem dX7_teasNow_45 : decode cX7_teasNow 45 = .ok (.iload_n 2, 1) := by decide +kernel
theorem dX7_teasNow_46 : decode cX7_teasNow 46 = .ok (.i2l, 1) := by decide +kernel
theorem dX7_teasNow_47 : decode cX7_teasNow 47 = .ok (.putfield 245, 3) := by decide +kernel
theorem dX7_teasNow_50 : decode cX7_teasNow 50 = .ok (.iconst 0, 1) := by decide +kernel
theorem dX7_teasNow_51 : decode cX7_teasNow 51 = .ok (.istore 4, 2) := by decide +kernel
theorem dX7_teasNow_53 : decode cX7_teasNow 53 = .ok (.iconst 0, 1) := by decide +kernel
theorem dX7_teasNow_54 : decode cX7_teasNow 54 = .ok (.istore 5, 2) := by decide +kernel
theorem dX7_teasNow_56 : decode cX7_teasNow 56 = .ok (.iload 5, 2) := by decide +kernel
theorem dX7_teasNow_58 : decode cX7_teasNow 58 = .ok (.iload_n 1, 1) := by decide +kernel
theorem dX7_teasNow_59 : decode cX7_teasNow 59 = .ok (.if_icmp .ge 22, 3) := by decide +kernel
theorem dX7_teasNow_62 : decode cX7_teasNow 62 = .ok (.aload_n 0, 1) := by decide +kernel
theorem dX7_teasNow_63 : decode cX7_teasNow 63 = .ok (.invokevirtual 258, 3) := by decide +kernel
theorem dX7_teasNow_66 : decode cX7_teasNow 66 = .ok (.iload 4, 2) := by decide +kernel
theorem dX7_teasNow_68 : decode cX7_teasNow 68 = .ok (.aload_n 0, 1) := by decide +kernel
theorem dX7_teasNow_69 : decode cX7_teasNow 69 = .ok (.invokevirtual 261, 3) := by decide +kernel
theorem dX7_teasNow_72 : decode cX7_teasNow 72 = .ok (.iadd, 1) := by decide +kernel
theorem dX7_teasNow_73 : decode cX7_teasNow 73 = .ok (.istore 4, 2) := by decide +kernel
theorem dX7_teasNow_75 : decode cX7_teasNow 75 = .ok (.iinc 5 1, 3) := by decide +kernel
theorem dX7_teasNow_78 : decode cX7_teasNow 78 = .ok (.goto (-22), 3) := by decide +kernel
theorem dX7_teasNow_81 : decode cX7_teasNow 81 = .ok (.aload_n 0, 1) := by decide +kernel
theorem dX7_teasNow_82 : decode cX7_teasNow 82 = .ok (.invokevirtual 264, 3) := by decide +kernel
theorem dX7_teasNow_85 : decode cX7_teasNow 85 = .ok (.istore 5, 2) := by decide +kernel
theorem dX7_teasNow_87 : decode cX7_teasNow 87 = .ok (.iconst 0, 1) := by decide +kernel
theorem dX7_teasNow_88 : decode cX7_teasNow 88 = .ok (.istore 6, 2) := by decide +kernel
theorem dX7_teasNow_90 : decode cX7_teasNow 90 = .ok (.iload 6, 2) := by decide +kernel
theorem dX7_teasNow_92 : decode cX7_teasNow 92 = .ok (.bipush 6, 2) := by decide +kernel
theorem dX7_teasNow_94 : decode cX7_teasNow 94 = .ok (.if_icmp .ge 37, 3) := by decide +kernel
theorem dX7_teasNow_97 : decode cX7_teasNow 97 = .ok (.aload_n 0, 1) := by decide +kernel
theorem dX7_teasNow_98 : decode cX7_teasNow 98 = .ok (.getfield 16, 3) := by decide +kernel
theorem dX7_teasNow_101 : decode cX7_teasNow 101 = .ok (.iload 6, 2) := by decide +kernel
theorem dX7_teasNow_103 : decode cX7_teasNow 103 = .ok (.aload_n 0, 1) := by decide +kernel
theorem dX7_teasNow_104 : decode cX7_teasNow 104 = .ok (.getfield 47, 3) := by decide +kernel
theorem dX7_teasNow_107 : decode cX7_teasNow 107 = .ok (.iload 6, 2) := by decide +kernel
theorem dX7_teasNow_109 : decode cX7_teasNow 109 = .ok (.iaload, 1) := by decide +kernel
theorem dX7_teasNow_110 : decode cX7_teasNow 110 = .ok (.iastore, 1) := by decide +kernel
theorem dX7_teasNow_111 : decode cX7_teasNow 111 = .ok (.aload_n 0, 1) := by decide +kernel
theorem dX7_teasNow_112 : decode cX7_teasNow 112 = .ok (.getfield 19, 3) := by decide +kernel
theorem dX7_teasNow_115 : decode cX7_teasNow 115 = .ok (.iload 6, 2) := by decide +kernel
theorem dX7_teasNow_117 : decode cX7_teasNow 117 = .ok (.aload_n 0, 1) := by decide +kernel
theorem dX7_teasNow_118 : decode cX7_teasNow 118 = .ok (.getfield 50, 3) := by decide +kernel
theorem dX7_teasNow_121 : decode cX7_teasNow 121 = .ok (.iload 6, 2) := by decide +kernel
theorem dX7_teasNow_123 : decode cX7_teasNow 123 = .ok (.iaload, 1) := by decide +kernel
theorem dX7_teasNow_124 : decode cX7_teasNow 124 = .ok (.iastore, 1) := by decide +kernel
theorem dX7_teasNow_125 : decode cX7_teasNow 125 = .ok (.iinc 6 1, 3) := by decide +kernel
theorem dX7_teasNow_128 : decode cX7_teasNow 128 = .ok (.goto (-38), 3) := by decide +kernel
theorem dX7_teasNow_131 : decode cX7_teasNow 131 = .ok (.iload_n 3, 1) := by decide +kernel
theorem dX7_teasNow_132 : decode cX7_teasNow 132 = .ok (.ifCond .ne 8, 3) := by decide +kernel
theorem dX7_teasNow_135 : decode cX7_teasNow 135 = .ok (.iload 4, 2) := by decide +kernel
theorem dX7_teasNow_137 : decode cX7_teasNow 137 = .ok (.goto 18, 3) := by decide +kernel
theorem dX7_teasNow_140 : decode cX7_teasNow 140 = .ok (.iload_n 3, 1) := by decide +kernel
theorem dX7_teasNow_141 : decode cX7_teasNow 141 = .ok (.iconst 1, 1) := by decide +kernel
theorem dX7_teasNow_142 : decode cX7_teasNow 142 = .ok (.if_icmp .ne 8, 3) := by decide +kernel
theorem dX7_teasNow_145 : decode cX7_teasNow 145 = .ok (.iload 5, 2) := by decide +kernel
theorem dX7_teasNow_147 : decode cX7_teasNow 147 = .ok (.goto 8, 3) := by decide +kernel
theorem dX7_teasNow_150 : decode cX7_teasNow 150 = .ok (.aload_n 0, 1) := by decide +kernel
theorem dX7_teasNow_151 : decode cX7_teasNow 151 = .ok (.getfield 245, 3) := by decide +kernel
theorem dX7_teasNow_154 : decode cX7_teasNow 154 = .ok (.l2i, 1) := by decide +kernel
theorem dX7_teasNow_155 : decode cX7_teasNow 155 = .ok (.ireturn, 1) := by decide +kernel
theorem dX7_teas_0 : decode cX7_teas 0 = .ok (.iload_n 1, 1) := by decide +kernel
theorem dX7_teas_1 : decode cX7_teas 1 = .ok (.iconst 1, 1) := by decide +kernel
theorem dX7_teas_2 : decode cX7_teas 2 = .ok (.bipush 60, 2) := by decide +kernel
theorem dX7_teas_4 : decode cX7_teas 4 = .ok (.invokestatic 77, 3) := by decide +kernel
theorem dX7_teas_7 : decode cX7_teas 7 = .ok (.ifCond .eq 16, 3) := by decide +kernel
theorem dX7_teas_10 : decode cX7_teas 10 = .ok (.iload_n 2, 1) := by decide +kernel
theorem dX7_teas_11 : decode cX7_teas 11 = .ok (.ifCond .lt 12, 3) := by decide +kernel
theorem dX7_teas_14 : decode cX7_teas 14 = .ok (.iload_n 3, 1) := by decide +kernel
theorem dX7_teas_15 : decode cX7_teas 15 = .ok (.iconst 0, 1) := by decide +kernel
theorem dX7_teas_16 : decode cX7_teas 16 = .ok (.iconst 2, 1) := by decide +kernel
theorem dX7_teas_17 : decode cX7_teas 17 = .ok (.invokestatic 77, 3) := by decide +kernel
theorem dX7_teas_20 : decode cX7_teas 20 = .ok (.ifCond .ne 6, 3) := by decide +kernel
theorem dX7_teas_23 : decode cX7_teas 23 = .ok (.bipush (-102), 2) := by decide +kernel
theorem dX7_teas_25 : decode cX7_teas 25 = .ok (.ireturn, 1) := by decide +kernel
theorem dX7_teas_26 : decode cX7_teas 26 = .ok (.aload_n 0, 1) := by decide +kernel
theorem dX7_teas_27 : decode cX7_teas 27 = .ok (.getfield 113, 3) := by decide +kernel
theorem dX7_teas_30 : decode cX7_teas 30 = .ok (.ifCond .ne 8, 3) := by decide +kernel
theorem dX7_teas_33 : decode cX7_teas 33 = .ok (.bipush (-103), 2) := by decide +kernel
theorem dX7_teas_35 : decode cX7_teas 35 = .ok (.goto 10, 3) := by decide +kernel
theorem dX7_teas_38 : decode cX7_teas 38 = .ok (.aload_n 0, 1) := by decide +kernel
theorem dX7_teas_39 : decode cX7_teas 39 = .ok (.iload_n 1, 1) := by decide +kernel
theorem dX7_teas_40 : decode cX7_teas 40 = .ok (.iload_n 2, 1) := by decide +kernel
theorem dX7_teas_41 : decode cX7_teas 41 = .ok (.iload_n 3, 1) := by decide +kernel
theorem dX7_teas_42 : decode cX7_teas 42 = .ok (.invokevirtual 267, 3) := by decide +kernel
theorem dX7_teas_45 : decode cX7_teas 45 = .ok (.ireturn, 1) := by decide +kernel
theorem dX7_image_0 : decode cX7_image 0 = .ok (.aload_n 0, 1) := by decide +kernel
theorem dX7_image_1 : decode cX7_image 1 = .ok (.getfield 113, 3) := by decide +kernel
theorem dX7_image_4 : decode cX7_image 4 = .ok (.ifCond .ne 6, 3) := by decide +kernel
theorem dX7_image_7 : decode cX7_image 7 = .ok (.bipush (-103), 2) := by decide +kernel
theorem dX7_image_9 : decode cX7_image 9 = .ok (.ireturn, 1) := by decide +kernel
theorem dX7_image_10 : decode cX7_image 10 = .ok (.aload_n 0, 1) := by decide +kernel
theorem dX7_image_11 : decode cX7_image 11 = .ok (.iconst 1, 1) := by decide +kernel
theorem dX7_image_12 : decode cX7_image 12 = .ok (.putfield 270, 3) := by decide +kernel
theorem dX7_image_15 : decode cX7_image 15 = .ok (.aload_n 0, 1) := by decide +kernel
theorem dX7_image_16 : decode cX7_image 16 = .ok (.aload_n 0, 1) := by decide +kernel
theorem dX7_image_17 : decode cX7_image 17 = .ok (.getfield 122, 3) := by decide +kernel
theorem dX7_image_20 : decode cX7_image 20 = .ok (.putfield 273, 3) := by decide +kernel
theorem dX7_image_23 : decode cX7_image 23 = .ok (.aload_n 0, 1) := by decide +kernel
theorem dX7_image_24 : decode cX7_image 24 = .ok (.aload_n 0, 1) := by decide +kernel
theorem dX7_image_25 : decode cX7_image 25 = .ok (.getfield 119, 3) := by decide +kernel
theorem dX7_image_28 : decode cX7_image 28 = .ok (.putfield 276, 3) := by decide +kernel
theorem dX7_image_31 : decode cX7_image 31 = .ok (.aload_n 0, 1) := by decide +kernel
theorem dX7_image_32 : decode cX7_image 32 = .ok (.aload_n 0, 1) := by decide +kernel
theorem dX7_image_33 : decode cX7_image 33 = .ok (.getfield 125, 3) := by decide +kernel
theorem dX7_image_36 : decode cX7_image 36 = .ok (.putfield 279, 3) := by decide +kernel
theorem dX7_image_39 : decode cX7_image 39 = .ok (.iconst 0, 1) := by decide +kernel
theorem dX7_image_40 : decode cX7_image 40 = .ok (.istore_n 1, 1) := by decide +kernel
theorem dX7_image_41 : decode cX7_image 41 = .ok (.iload_n 1, 1) := by decide +kernel
theorem dX7_image_42 : decode cX7_image 42 = .ok (.bipush 6, 2) := by decide +kernel
theorem dX7_image_44 : decode cX7_image 44 = .ok (.if_icmp .ge 45, 3) := by decide +kernel
theorem dX7_image_47 : decode cX7_image 47 = .ok (.aload_n 0, 1) := by decide +kernel
theorem dX7_image_48 : decode cX7_image 48 = .ok (.getfield 53, 3) := by decide +kernel
theorem dX7_image_51 : decode cX7_image 51 = .ok (.iload_n 1, 1) := by decide +kernel
theorem dX7_image_52 : decode cX7_image 52 = .ok (.aload_n 0, 1) := by decide +kernel
theorem dX7_image_53 : decode cX7_image 53 = .ok (.getfield 13, 3) := by decide +kernel
theorem dX7_image_56 : decode cX7_image 56 = .ok (.iload_n 1, 1) := by decide +kernel
theorem dX7_image_57 : decode cX7_image 57 = .ok (.iaload, 1) := by decide +kernel
theorem dX7_image_58 : decode cX7_image 58 = .ok (.iastore, 1) := by decide +kernel
theorem dX7_image_59 : decode cX7_image 59 = .ok (.aload_n 0, 1) := by decide +kernel
theorem dX7_image_60 : decode cX7_image 60 = .ok (.getfield 56, 3) := by decide +kernel
theorem dX7_image_63 : decode cX7_image 63 = .ok (.iload_n 1, 1) := by decide +kernel
theorem dX7_image_64 : decode cX7_image 64 = .ok (.aload_n 0, 1) := by decide +kernel
theorem dX7_image_65 : decode cX7_image 65 = .ok (.getfield 16, 3) := by decide +kernel
theorem dX7_image_68 : decode cX7_image 68 = .ok (.iload_n 1, 1) := by decide +kernel
theorem dX7_image_69 : decode cX7_image 69 = .ok (.iaload, 1) := by decide +kernel
theorem dX7_image_70 : decode cX7_image 70 = .ok (.iastore, 1) := by decide +kernel
theorem dX7_image_71 : decode cX7_image 71 = .ok (.aload_n 0, 1) := by decide +kernel
theorem dX7_image_72 : decode cX7_image 72 = .ok (.getfield 59, 3) := by decide +kernel
theorem dX7_image_75 : decode cX7_image 75 = .ok (.iload_n 1, 1) := by decide +kernel
theorem dX7_image_76 : decode cX7_image 76 = .ok (.aload_n 0, 1) := by decide +kernel
theorem dX7_image_77 : decode cX7_image 77 = .ok (.getfield 19, 3) := by decide +kernel
theorem dX7_image_80 : decode cX7_image 80 = .ok (.iload_n 1, 1) := by decide +kernel
theorem dX7_image_81 : decode cX7_image 81 = .ok (.iaload, 1) := by decide +kernel
theorem dX7_image_82 : decode cX7_image 82 = .ok (.iastore, 1) := by decide +kernel
theorem dX7_image_83 : decode cX7_image 83 = .ok (.iinc 1 1, 3) := by decide +kernel
theorem dX7_image_86 : decode cX7_image 86 = .ok (.goto (-45), 3) := by decide +kernel
theorem dX7_image_89 : decode cX7_image 89 = .ok (.iconst 0, 1) := by decide +kernel
theorem dX7_image_90 : decode cX7_image 90 = .ok (.istore_n 1, 1) := by decide +kernel
theorem dX7_image_91 : decode cX7_image 91 = .ok (.iload_n 1, 1) := by decide +kernel
theorem dX7_image_92 : decode cX7_image 92 = .ok (.iconst 3, 1) := by decide +kernel
theorem dX7_image_93 : decode cX7_image 93 = .ok (.if_icmp .ge 33, 3) := by decide +kernel
theorem dX7_image_96 : decode cX7_image 96 = .ok (.aload_n 0, 1) := by decide +kernel
theorem dX7_image_97 : decode cX7_image 97 = .ok (.getfield 62, 3) := by decide +kernel
theorem dX7_image_100 : decode cX7_image 100 = .ok (.iload_n 1, 1) := by decide +kernel
theorem dX7_image_101 : decode cX7_image 101 = .ok (.aload_n 0, 1) := by decide +kernel
theorem dX7_image_102 : decode cX7_image 102 = .ok (.getfield 22, 3) := by decide +kernel
theorem dX7_image_105 : decode cX7_image 105 = .ok (.iload_n 1, 1) := by decide +kernel
theorem dX7_image_106 : decode cX7_image 106 = .ok (.iaload, 1) := by decide +kernel
theorem dX7_image_107 : decode cX7_image 107 = .ok (.iastore, 1) := by decide +kernel
theorem dX7_image_108 : decode cX7_image 108 = .ok (.aload_n 0, 1) := by decide +kernel
theorem dX7_image_109 : decode cX7_image 109 = .ok (.getfield 65, 3) := by decide +kernel
theorem dX7_image_112 : decode cX7_image 112 = .ok (.iload_n 1, 1) := by decide +kernel
theorem dX7_image_113 : decode cX7_image 113 = .ok (.aload_n 0, 1) := by decide +kernel
theorem dX7_image_114 : decode cX7_image 114 = .ok (.getfield 25, 3) := by decide +kernel
theorem dX7_image_117 : decode cX7_image 117 = .ok (.iload_n 1, 1) := by decide +kernel
theorem dX7_image_118 : decode cX7_image 118 = .ok (.iaload, 1) := by decide +kernel
theorem dX7_image_119 : decode cX7_image 119 = .ok (.iastore, 1) := by decide +kernel
theorem dX7_image_120 : decode cX7_image 120 = .ok (.iinc 1 1, 3) := by decide +kernel
theorem dX7_image_123 : decode cX7_image 123 = .ok (.goto (-32), 3) := by decide +kernel
theorem dX7_image_126 : decode cX7_image 126 = .ok (.iconst 0, 1) := by decide +kernel
theorem dX7_image_127 : decode cX7_image 127 = .ok (.istore_n 1, 1) := by decide +kernel
theorem dX7_image_128 : decode cX7_image 128 = .ok (.iload_n 1, 1) := by decide +kernel
theorem dX7_image_129 : decode cX7_image 129 = .ok (.bipush 8, 2) := by decide +kernel
theorem dX7_image_131 : decode cX7_image 131 = .ok (.if_icmp .ge 45, 3) := by decide +kernel
theorem dX7_image_134 : decode cX7_image 134 = .ok (.aload_n 0, 1) := by decide +kernel
theorem dX7_image_135 : decode cX7_image 135 = .ok (.getfield 68, 3) := by decide +kernel
theorem dX7_image_138 : decode cX7_image 138 = .ok (.iload_n 1, 1) := by decide +kernel
theorem dX7_image_139 : decode cX7_image 139 = .ok (.aload_n 0, 1) := by decide +kernel
theorem dX7_image_140 : decode cX7_image 140 = .ok (.getfield 28, 3) := by decide +kernel
theorem dX7_image_143 : decode cX7_image 143 = .ok (.iload_n 1, 1) := by decide +kernel
theorem dX7_image_144 : decode cX7_image 144 = .ok (.iaload, 1) := by decide +kernel
theorem dX7_image_145 : decode cX7_image 145 = .ok (.iastore, 1) := by decide +kernel
theorem dX7_image_146 : decode cX7_image 146 = .ok (.aload_n 0, 1) := by decide +kernel
theorem dX7_image_147 : decode cX7_image 147 = .ok (.getfield 71, 3) := by decide +kernel
theorem dX7_image_150 : decode cX7_image 150 = .ok (.iload_n 1, 1) := by decide +kernel
theorem dX7_image_151 : decode cX7_image 151 = .ok (.aload_n 0, 1) := by decide +kernel
theorem dX7_image_152 : decode cX7_image 152 = .ok (.getfield 31, 3) := by decide +kernel
theorem dX7_image_155 : decode cX7_image 155 = .ok (.iload_n 1, 1) := by decide +kernel
theorem dX7_image_156 : decode cX7_image 156 = .ok (.iaload, 1) := by decide +kernel
theorem dX7_image_157 : decode cX7_image 157 = .ok (.iastore, 1) := by decide +kernel
theorem dX7_image_158 : decode cX7_image 158 = .ok (.aload_n 0, 1) := by decide +kernel
theorem dX7_image_159 : decode cX7_image 159 = .ok (.getfield 74, 3) := by decide +kernel
theorem dX7_image_162 : decode cX7_image 162 = .ok (.iload_n 1, 1) := by decide +kernel
theorem dX7_image_163 : decode cX7_image 163 = .ok (.aload_n 0, 1) := by decide +kernel
theorem dX7_image_164 : decode cX7_image 164 = .ok (.getfield 34, 3) := by decide +kernel
theorem dX7_image_167 : decode cX7_image 167 = .ok (.iload_n 1, 1) := by decide +kernel
theorem dX7_image_168 : decode cX7_image 168 = .ok (.iaload, 1) := by decide +kernel
theorem dX7_image_169 : decode cX7_image 169 = .ok (.iastore, 1) := by decide +kernel
theorem dX7_image_170 : decode cX7_image 170 = .ok (.iinc 1 1, 3) := by decide +kernel
theorem dX7_image_173 : decode cX7_image 173 = .ok (.goto (-45), 3) := by decide +kernel
theorem dX7_image_176 : decode cX7_image 176 = .ok (.aload_n 0, 1) := by decide +kernel
theorem dX7_image_177 : decode cX7_image 177 = .ok (.getfield 119, 3) := by decide +kernel
theorem dX7_image_180 : decode cX7_image 180 = .ok (.ireturn, 1) := by decide +kernel
theorem dX7_restore_0 : decode cX7_restore 0 = .ok (.aload_n 0, 1) := by decide +kernel
theorem dX7_restore_1 : decode cX7_restore 1 = .ok (.getfield 270, 3) := by decide +kernel
theorem dX7_restore_4 : decode cX7_restore 4 = .ok (.ifCond .eq 14, 3) := by decide +kernel
theorem dX7_restore_7 : decode cX7_restore 7 = .ok (.aload_n 0, 1) := by decide +kernel
theorem dX7_restore_8 : decode cX7_restore 8 = .ok (.getfield 273, 3) := by decide +kernel
theorem dX7_restore_11 : decode cX7_restore 11 = .ok (.aload_n 0, 1) := by decide +kernel
theorem dX7_restore_12 : decode cX7_restore 12 = .ok (.getfield 122, 3) := by decide +kernel
theorem dX7_restore_15 : decode cX7_restore 15 = .ok (.if_icmp .eq 6, 3) := by decide +kernel
theorem dX7_restore_18 : decode cX7_restore 18 = .ok (.bipush (-103), 2) := by decide +kernel
theorem dX7_restore_20 : decode cX7_restore 20 = .ok (.ireturn, 1) := by decide +kernel
theorem dX7_restore_21 : decode cX7_restore 21 = .ok (.aload_n 0, 1) := by decide +kernel
theorem dX7_restore_22 : decode cX7_restore 22 = .ok (.aload_n 0, 1) := by decide +kernel
theorem dX7_restore_23 : decode cX7_restore 23 = .ok (.getfield 276, 3) := by decide +kernel
theorem dX7_restore_26 : decode cX7_restore 26 = .ok (.putfield 119, 3) := by decide +kernel
theorem dX7_restore_29 : decode cX7_restore 29 = .ok (.aload_n 0, 1) := by decide +kernel
theorem dX7_restore_30 : decode cX7_restore 30 = .ok (.aload_n 0, 1) := by decide +kernel
theorem dX7_restore_31 : decode cX7_restore 31 = .ok (.getfield 279, 3) := by decide +kernel
theorem dX7_restore_34 : decode cX7_restore 34 = .ok (.putfield 125, 3) := by decide +kernel
theorem dX7_restore_37 : decode cX7_restore 37 = .ok (.iconst 0, 1) := by decide +kernel
theorem dX7_restore_38 : decode cX7_restore 38 = .ok (.istore_n 1, 1) := by decide +kernel
theorem dX7_restore_39 : decode cX7_restore 39 = .ok (.iload_n 1, 1) := by decide +kernel
theorem dX7_restore_40 : decode cX7_restore 40 = .ok (.bipush 6, 2) := by decide +kernel
theorem dX7_restore_42 : decode cX7_restore 42 = .ok (.if_icmp .ge 45, 3) := by decide +kernel
theorem dX7_restore_45 : decode cX7_restore 45 = .ok (.aload_n 0, 1) := by decide +kernel
theorem dX7_restore_46 : decode cX7_restore 46 = .ok (.getfield 13, 3) := by decide +kernel
theorem dX7_restore_49 : decode cX7_restore 49 = .ok (.iload_n 1, 1) := by decide +kernel
theorem dX7_restore_50 : decode cX7_restore 50 = .ok (.aload_n 0, 1) := by decide +kernel
theorem dX7_restore_51 : decode cX7_restore 51 = .ok (.getfield 53, 3) := by decide +kernel
theorem dX7_restore_54 : decode cX7_restore 54 = .ok (.iload_n 1, 1) := by decide +kernel
theorem dX7_restore_55 : decode cX7_restore 55 = .ok (.iaload, 1) := by decide +kernel
theorem dX7_restore_56 : decode cX7_restore 56 = .ok (.iastore, 1) := by decide +kernel
theorem dX7_restore_57 : decode cX7_restore 57 = .ok (.aload_n 0, 1) := by decide +kernel
theorem dX7_restore_58 : decode cX7_restore 58 = .ok (.getfield 16, 3) := by decide +kernel
theorem dX7_restore_61 : decode cX7_restore 61 = .ok (.iload_n 1, 1) := by decide +kernel
theorem dX7_restore_62 : decode cX7_restore 62 = .ok (.aload_n 0, 1) := by decide +kernel
theorem dX7_restore_63 : decode cX7_restore 63 = .ok (.getfield 56, 3) := by decide +kernel
theorem dX7_restore_66 : decode cX7_restore 66 = .ok (.iload_n 1, 1) := by decide +kernel
theorem dX7_restore_67 : decode cX7_restore 67 = .ok (.iaload, 1) := by decide +kernel
theorem dX7_restore_68 : decode cX7_restore 68 = .ok (.iastore, 1) := by decide +kernel
theorem dX7_restore_69 : decode cX7_restore 69 = .ok (.aload_n 0, 1) := by decide +kernel
theorem dX7_restore_70 : decode cX7_restore 70 = .ok (.getfield 19, 3) := by decide +kernel
theorem dX7_restore_73 : decode cX7_restore 73 = .ok (.iload_n 1, 1) := by decide +kernel
theorem dX7_restore_74 : decode cX7_restore 74 = .ok (.aload_n 0, 1) := by decide +kernel
theorem dX7_restore_75 : decode cX7_restore 75 = .ok (.getfield 59, 3) := by decide +kernel
theorem dX7_restore_78 : decode cX7_restore 78 = .ok (.iload_n 1, 1) := by decide +kernel
theorem dX7_restore_79 : decode cX7_restore 79 = .ok (.iaload, 1) := by decide +kernel
theorem dX7_restore_80 : decode cX7_restore 80 = .ok (.iastore, 1) := by decide +kernel
theorem dX7_restore_81 : decode cX7_restore 81 = .ok (.iinc 1 1, 3) := by decide +kernel
theorem dX7_restore_84 : decode cX7_restore 84 = .ok (.goto (-45), 3) := by decide +kernel
theorem dX7_restore_87 : decode cX7_restore 87 = .ok (.iconst 0, 1) := by decide +kernel
theorem dX7_restore_88 : decode cX7_restore 88 = .ok (.istore_n 1, 1) := by decide +kernel
theorem dX7_restore_89 : decode cX7_restore 89 = .ok (.iload_n 1, 1) := by decide +kernel
theorem dX7_restore_90 : decode cX7_restore 90 = .ok (.iconst 3, 1) := by decide +kernel
theorem dX7_restore_91 : decode cX7_restore 91 = .ok (.if_icmp .ge 33, 3) := by decide +kernel
theorem dX7_restore_94 : decode cX7_restore 94 = .ok (.aload_n 0, 1) := by decide +kernel
theorem dX7_restore_95 : decode cX7_restore 95 = .ok (.getfield 22, 3) := by decide +kernel
theorem dX7_restore_98 : decode cX7_restore 98 = .ok (.iload_n 1, 1) := by decide +kernel
theorem dX7_restore_99 : decode cX7_restore 99 = .ok (.aload_n 0, 1) := by decide +kernel
theorem dX7_restore_100 : decode cX7_restore 100 = .ok (.getfield 62, 3) := by decide +kernel
theorem dX7_restore_103 : decode cX7_restore 103 = .ok (.iload_n 1, 1) := by decide +kernel
theorem dX7_restore_104 : decode cX7_restore 104 = .ok (.iaload, 1) := by decide +kernel
theorem dX7_restore_105 : decode cX7_restore 105 = .ok (.iastore, 1) := by decide +kernel
theorem dX7_restore_106 : decode cX7_restore 106 = .ok (.aload_n 0, 1) := by decide +kernel
theorem dX7_restore_107 : decode cX7_restore 107 = .ok (.getfield 25, 3) := by decide +kernel
theorem dX7_restore_110 : decode cX7_restore 110 = .ok (.iload_n 1, 1) := by decide +kernel
theorem dX7_restore_111 : decode cX7_restore 111 = .ok (.aload_n 0, 1) := by decide +kernel
theorem dX7_restore_112 : decode cX7_restore 112 = .ok (.getfield 65, 3) := by decide +kernel
theorem dX7_restore_115 : decode cX7_restore 115 = .ok (.iload_n 1, 1) := by decide +kernel
theorem dX7_restore_116 : decode cX7_restore 116 = .ok (.iaload, 1) := by decide +kernel
theorem dX7_restore_117 : decode cX7_restore 117 = .ok (.iastore, 1) := by decide +kernel
theorem dX7_restore_118 : decode cX7_restore 118 = .ok (.iinc 1 1, 3) := by decide +kernel
theorem dX7_restore_121 : decode cX7_restore 121 = .ok (.goto (-32), 3) := by decide +kernel
theorem dX7_restore_124 : decode cX7_restore 124 = .ok (.iconst 0, 1) := by decide +kernel
theorem dX7_restore_125 : decode cX7_restore 125 = .ok (.istore_n 1, 1) := by decide +kernel
theorem dX7_restore_126 : decode cX7_restore 126 = .ok (.iload_n 1, 1) := by decide +kernel
theorem dX7_restore_127 : decode cX7_restore 127 = .ok (.bipush 8, 2) := by decide +kernel
theorem dX7_restore_129 : decode cX7_restore 129 = .ok (.if_icmp .ge 45, 3) := by decide +kernel
theorem dX7_restore_132 : decode cX7_restore 132 = .ok (.aload_n 0, 1) := by decide +kernel
theorem dX7_restore_133 : decode cX7_restore 133 = .ok (.getfield 28, 3) := by decide +kernel
theorem dX7_restore_136 : decode cX7_restore 136 = .ok (.iload_n 1, 1) := by decide +kernel
theorem dX7_restore_137 : decode cX7_restore 137 = .ok (.aload_n 0, 1) := by decide +kernel
theorem dX7_restore_138 : decode cX7_restore 138 = .ok (.getfield 68, 3) := by decide +kernel
theorem dX7_restore_141 : decode cX7_restore 141 = .ok (.iload_n 1, 1) := by decide +kernel
theorem dX7_restore_142 : decode cX7_restore 142 = .ok (.iaload, 1) := by decide +kernel
theorem dX7_restore_143 : decode cX7_restore 143 = .ok (.iastore, 1) := by decide +kernel
theorem dX7_restore_144 : decode cX7_restore 144 = .ok (.aload_n 0, 1) := by decide +kernel
theorem dX7_restore_145 : decode cX7_restore 145 = .ok (.getfield 31, 3) := by decide +kernel
theorem dX7_restore_148 : decode cX7_restore 148 = .ok (.iload_n 1, 1) := by decide +kernel
theorem dX7_restore_149 : decode cX7_restore 149 = .ok (.aload_n 0, 1) := by decide +kernel
theorem dX7_restore_150 : decode cX7_restore 150 = .ok (.getfield 71, 3) := by decide +kernel
theorem dX7_restore_153 : decode cX7_restore 153 = .ok (.iload_n 1, 1) := by decide +kernel
theorem dX7_restore_154 : decode cX7_restore 154 = .ok (.iaload, 1) := by decide +kernel
theorem dX7_restore_155 : decode cX7_restore 155 = .ok (.iastore, 1) := by decide +kernel
theorem dX7_restore_156 : decode cX7_restore 156 = .ok (.aload_n 0, 1) := by decide +kernel
theorem dX7_restore_157 : decode cX7_restore 157 = .ok (.getfield 34, 3) := by decide +kernel
theorem dX7_restore_160 : decode cX7_restore 160 = .ok (.iload_n 1, 1) := by decide +kernel
theorem dX7_restore_161 : decode cX7_restore 161 = .ok (.aload_n 0, 1) := by decide +kernel
theorem dX7_restore_162 : decode cX7_restore 162 = .ok (.getfield 74, 3) := by decide +kernel
theorem dX7_restore_165 : decode cX7_restore 165 = .ok (.iload_n 1, 1) := by decide +kernel
theorem dX7_restore_166 : decode cX7_restore 166 = .ok (.iaload, 1) := by decide +kernel
theorem dX7_restore_167 : decode cX7_restore 167 = .ok (.iastore, 1) := by decide +kernel
theorem dX7_restore_168 : decode cX7_restore 168 = .ok (.iinc 1 1, 3) := by decide +kernel
theorem dX7_restore_171 : decode cX7_restore 171 = .ok (.goto (-45), 3) := by decide +kernel
theorem dX7_restore_174 : decode cX7_restore 174 = .ok (.aload_n 0, 1) := by decide +kernel
theorem dX7_restore_175 : decode cX7_restore 175 = .ok (.getfield 119, 3) := by decide +kernel
theorem dX7_restore_178 : decode cX7_restore 178 = .ok (.ireturn, 1) := by decide +kernel
theorem dX7_ofWearers_0 : decode cX7_ofWearers 0 = .ok (.iconst 0, 1) := by decide +kernel
theorem dX7_ofWearers_1 : decode cX7_ofWearers 1 = .ok (.istore_n 2, 1) := by decide +kernel
theorem dX7_ofWearers_2 : decode cX7_ofWearers 2 = .ok (.iconst 0, 1) := by decide +kernel
theorem dX7_ofWearers_3 : decode cX7_ofWearers 3 = .ok (.istore_n 3, 1) := by decide +kernel
theorem dX7_ofWearers_4 : decode cX7_ofWearers 4 = .ok (.iload_n 3, 1) := by decide +kernel
theorem dX7_ofWearers_5 : decode cX7_ofWearers 5 = .ok (.aload_n 0, 1) := by decide +kernel
theorem dX7_ofWearers_6 : decode cX7_ofWearers 6 = .ok (.getfield 116, 3) := by decide +kernel
theorem dX7_ofWearers_9 : decode cX7_ofWearers 9 = .ok (.if_icmp .ge 62, 3) := by decide +kernel
theorem dX7_ofWearers_12 : decode cX7_ofWearers 12 = .ok (.iload_n 1, 1) := by decide +kernel
theorem dX7_ofWearers_13 : decode cX7_ofWearers 13 = .ok (.bipush 6, 2) := by decide +kernel
theorem dX7_ofWearers_15 : decode cX7_ofWearers 15 = .ok (.if_icmp .ne 16, 3) := by decide +kernel
theorem dX7_ofWearers_18 : decode cX7_ofWearers 18 = .ok (.aload_n 0, 1) := by decide +kernel
theorem dX7_ofWearers_19 : decode cX7_ofWearers 19 = .ok (.iload_n 3, 1) := by decide +kernel
theorem dX7_ofWearers_20 : decode cX7_ofWearers 20 = .ok (.aload_n 0, 1) := by decide +kernel
theorem dX7_ofWearers_21 : decode cX7_ofWearers 21 = .ok (.iload_n 3, 1) := by decide +kernel
theorem dX7_ofWearers_22 : decode cX7_ofWearers 22 = .ok (.invokevirtual 170, 3) := by decide +kernel
theorem dX7_ofWearers_25 : decode cX7_ofWearers 25 = .ok (.invokevirtual 176, 3) := by decide +kernel
theorem dX7_ofWearers_28 : decode cX7_ofWearers 28 = .ok (.goto 22, 3) := by decide +kernel
theorem dX7_ofWearers_31 : decode cX7_ofWearers 31 = .ok (.aload_n 0, 1) := by decide +kernel
theorem dX7_ofWearers_32 : decode cX7_ofWearers 32 = .ok (.iload_n 3, 1) := by decide +kernel
theorem dX7_ofWearers_33 : decode cX7_ofWearers 33 = .ok (.invokevirtual 170, 3) := by decide +kernel
theorem dX7_ofWearers_36 : decode cX7_ofWearers 36 = .ok (.invokestatic 152, 3) := by decide +kernel
theorem dX7_ofWearers_39 : decode cX7_ofWearers 39 = .ok (.iconst 5, 1) := by decide +kernel
theorem dX7_ofWearers_40 : decode cX7_ofWearers 40 = .ok (.iload_n 1, 1) := by decide +kernel
theorem dX7_ofWearers_41 : decode cX7_ofWearers 41 = .ok (.isub, 1) := by decide +kernel
theorem dX7_ofWearers_42 : decode cX7_ofWearers 42 = .ok (.if_icmp .ne 7, 3) := by decide +kernel
theorem dX7_ofWearers_45 : decode cX7_ofWearers 45 = .ok (.iconst 1, 1) := by decide +kernel
theorem dX7_ofWearers_46 : decode cX7_ofWearers 46 = .ok (.goto 4, 3) := by decide +kernel
theorem dX7_ofWearers_49 : decode cX7_ofWearers 49 = .ok (.iconst 0, 1) := by decide +kernel
theorem dX7_ofWearers_50 : decode cX7_ofWearers 50 = .ok (.istore 4, 2) := by decide +kernel
theorem dX7_ofWearers_52 : decode cX7_ofWearers 52 = .ok (.iload_n 2, 1) := by decide +kernel
theorem dX7_ofWearers_53 : decode cX7_ofWearers 53 = .ok (.iload 4, 2) := by decide +kernel
theorem dX7_ofWearers_55 : decode cX7_ofWearers 55 = .ok (.ifCond .eq 7, 3) := by decide +kernel
theorem dX7_ofWearers_58 : decode cX7_ofWearers 58 = .ok (.iconst 1, 1) := by decide +kernel
theorem dX7_ofWearers_59 : decode cX7_ofWearers 59 = .ok (.goto 4, 3) := by decide +kernel
theorem dX7_ofWearers_62 : decode cX7_ofWearers 62 = .ok (.iconst 0, 1) := by decide +kernel
theorem dX7_ofWearers_63 : decode cX7_ofWearers 63 = .ok (.iadd, 1) := by decide +kernel
theorem dX7_ofWearers_64 : decode cX7_ofWearers 64 = .ok (.istore_n 2, 1) := by decide +kernel
theorem dX7_ofWearers_65 : decode cX7_ofWearers 65 = .ok (.iinc 3 1, 3) := by decide +kernel
theorem dX7_ofWearers_68 : decode cX7_ofWearers 68 = .ok (.goto (-64), 3) := by decide +kernel
theorem dX7_ofWearers_71 : decode cX7_ofWearers 71 = .ok (.iload_n 2, 1) := by decide +kernel
theorem dX7_ofWearers_72 : decode cX7_ofWearers 72 = .ok (.ireturn, 1) := by decide +kernel
theorem dX7_ofGloves_0 : decode cX7_ofGloves 0 = .ok (.iconst 0, 1) := by decide +kernel
theorem dX7_ofGloves_1 : decode cX7_ofGloves 1 = .ok (.istore_n 2, 1) := by decide +kernel
theorem dX7_ofGloves_2 : decode cX7_ofGloves 2 = .ok (.iconst 0, 1) := by decide +kernel
theorem dX7_ofGloves_3 : decode cX7_ofGloves 3 = .ok (.istore_n 3, 1) := by decide +kernel
theorem dX7_ofGloves_4 : decode cX7_ofGloves 4 = .ok (.iload_n 3, 1) := by decide +kernel
theorem dX7_ofGloves_5 : decode cX7_ofGloves 5 = .ok (.aload_n 0, 1) := by decide +kernel
theorem dX7_ofGloves_6 : decode cX7_ofGloves 6 = .ok (.getfield 113, 3) := by decide +kernel
theorem dX7_ofGloves_9 : decode cX7_ofGloves 9 = .ok (.if_icmp .ge 33, 3) := by decide +kernel
theorem dX7_ofGloves_12 : decode cX7_ofGloves 12 = .ok (.iload_n 2, 1) := by decide +kernel
theorem dX7_ofGloves_13 : decode cX7_ofGloves 13 = .ok (.iload_n 1, 1) := by decide +kernel
theorem dX7_ofGloves_14 : decode cX7_ofGloves 14 = .ok (.ifCond .eq 12, 3) := by decide +kernel
theorem dX7_ofGloves_17 : decode cX7_ofGloves 17 = .ok (.aload_n 0, 1) := by decide +kernel
theorem dX7_ofGloves_18 : decode cX7_ofGloves 18 = .ok (.iload_n 3, 1) := by decide +kernel
theorem dX7_ofGloves_19 : decode cX7_ofGloves 19 = .ok (.iconst 0, 1) := by decide +kernel
theorem dX7_ofGloves_20 : decode cX7_ofGloves 20 = .ok (.invokevirtual 136, 3) := by decide +kernel
theorem dX7_ofGloves_23 : decode cX7_ofGloves 23 = .ok (.goto 11, 3) := by decide +kernel
theorem dX7_ofGloves_26 : decode cX7_ofGloves 26 = .ok (.aload_n 0, 1) := by decide +kernel
theorem dX7_ofGloves_27 : decode cX7_ofGloves 27 = .ok (.iload_n 3, 1) := by decide +kernel
theorem dX7_ofGloves_28 : decode cX7_ofGloves 28 = .ok (.invokevirtual 155, 3) := by decide +kernel
theorem dX7_ofGloves_31 : decode cX7_ofGloves 31 = .ok (.invokestatic 194, 3) := by decide +kernel
theorem dX7_ofGloves_34 : decode cX7_ofGloves 34 = .ok (.iadd, 1) := by decide +kernel
theorem dX7_ofGloves_35 : decode cX7_ofGloves 35 = .ok (.istore_n 2, 1) := by decide +kernel
theorem dX7_ofGloves_36 : decode cX7_ofGloves 36 = .ok (.iinc 3 1, 3) := by decide +kernel
theorem dX7_ofGloves_39 : decode cX7_ofGloves 39 = .ok (.goto (-35), 3) := by decide +kernel
theorem dX7_ofGloves_42 : decode cX7_ofGloves 42 = .ok (.iload_n 1, 1) := by decide +kernel
theorem dX7_ofGloves_43 : decode cX7_ofGloves 43 = .ok (.ifCond .eq 7, 3) := by decide +kernel
theorem dX7_ofGloves_46 : decode cX7_ofGloves 46 = .ok (.iload_n 2, 1) := by decide +kernel
theorem dX7_ofGloves_47 : decode cX7_ofGloves 47 = .ok (.goto 6, 3) := by decide +kernel
theorem dX7_ofGloves_50 : decode cX7_ofGloves 50 = .ok (.iload_n 2, 1) := by decide +kernel
theorem dX7_ofGloves_51 : decode cX7_ofGloves 51 = .ok (.iconst 2, 1) := by decide +kernel
theorem dX7_ofGloves_52 : decode cX7_ofGloves 52 = .ok (.idiv, 1) := by decide +kernel
theorem dX7_ofGloves_53 : decode cX7_ofGloves 53 = .ok (.ireturn, 1) := by decide +kernel
theorem dX7_howMany_0 : decode cX7_howMany 0 = .ok (.iload_n 1, 1) := by decide +kernel
theorem dX7_howMany_1 : decode cX7_howMany 1 = .ok (.tableswitch 125 0 12 #[67, 72, 77, 82, 87, 87, 87, 93, 99, 105, 110, 115, 120], 67) := by decide +kernel
theorem dX7_howMany_68 : decode cX7_howMany 68 = .ok (.aload_n 0, 1) := by decide +kernel
theorem dX7_howMany_69 : decode cX7_howMany 69 = .ok (.getfield 113, 3) := by decide +kernel
theorem dX7_howMany_72 : decode cX7_howMany 72 = .ok (.ireturn, 1) := by decide +kernel
theorem dX7_howMany_73 : decode cX7_howMany 73 = .ok (.aload_n 0, 1) := by decide +kernel
theorem dX7_howMany_74 : decode cX7_howMany 74 = .ok (.getfield 116, 3) := by decide +kernel
theorem dX7_howMany_77 : decode cX7_howMany 77 = .ok (.ireturn, 1) := by decide +kernel
theorem dX7_howMany_78 : decode cX7_howMany 78 = .ok (.aload_n 0, 1) := by decide +kernel
theorem dX7_howMany_79 : decode cX7_howMany 79 = .ok (.invokevirtual 264, 3) := by decide +kernel
theorem dX7_howMany_82 : decode cX7_howMany 82 = .ok (.ireturn, 1) := by decide +kernel
theorem dX7_howMany_83 : decode cX7_howMany 83 = .ok (.aload_n 0, 1) := by decide +kernel
theorem dX7_howMany_84 : decode cX7_howMany 84 = .ok (.getfield 119, 3) := by decide +kernel
theorem dX7_howMany_87 : decode cX7_howMany 87 = .ok (.ireturn, 1) := by decide +kernel
theorem dX7_howMany_88 : decode cX7_howMany 88 = .ok (.aload_n 0, 1) := by decide +kernel
theorem dX7_howMany_89 : decode cX7_howMany 89 = .ok (.iload_n 1, 1) := by decide +kernel
theorem dX7_howMany_90 : decode cX7_howMany 90 = .ok (.invokevirtual 282, 3) := by decide +kernel
theorem dX7_howMany_93 : decode cX7_howMany 93 = .ok (.ireturn, 1) := by decide +kernel
theorem dX7_howMany_94 : decode cX7_howMany 94 = .ok (.aload_n 0, 1) := by decide +kernel
theorem dX7_howMany_95 : decode cX7_howMany 95 = .ok (.iconst 0, 1) := by decide +kernel
theorem dX7_howMany_96 : decode cX7_howMany 96 = .ok (.invokevirtual 285, 3) := by decide +kernel
theorem dX7_howMany_99 : decode cX7_howMany 99 = .ok (.ireturn, 1) := by decide +kernel
theorem dX7_howMany_100 : decode cX7_howMany 100 = .ok (.aload_n 0, 1) := by decide +kernel
theorem dX7_howMany_101 : decode cX7_howMany 101 = .ok (.iconst 1, 1) := by decide +kernel
theorem dX7_howMany_102 : decode cX7_howMany 102 = .ok (.invokevirtual 285, 3) := by decide +kernel
theorem dX7_howMany_105 : decode cX7_howMany 105 = .ok (.ireturn, 1) := by decide +kernel
theorem dX7_howMany_106 : decode cX7_howMany 106 = .ok (.aload_n 0, 1) := by decide +kernel
theorem dX7_howMany_107 : decode cX7_howMany 107 = .ok (.getfield 125, 3) := by decide +kernel
theorem dX7_howMany_110 : decode cX7_howMany 110 = .ok (.ireturn, 1) := by decide +kernel
theorem dX7_howMany_111 : decode cX7_howMany 111 = .ok (.aload_n 0, 1) := by decide +kernel
theorem dX7_howMany_112 : decode cX7_howMany 112 = .ok (.getfield 81, 3) := by decide +kernel
theorem dX7_howMany_115 : decode cX7_howMany 115 = .ok (.ireturn, 1) := by decide +kernel
theorem dX7_howMany_116 : decode cX7_howMany 116 = .ok (.aload_n 0, 1) := by decide +kernel
theorem dX7_howMany_117 : decode cX7_howMany 117 = .ok (.getfield 122, 3) := by decide +kernel
theorem dX7_howMany_120 : decode cX7_howMany 120 = .ok (.ireturn, 1) := by decide +kernel
theorem dX7_howMany_121 : decode cX7_howMany 121 = .ok (.aload_n 0, 1) := by decide +kernel
theorem dX7_howMany_122 : decode cX7_howMany 122 = .ok (.getfield 215, 3) := by decide +kernel
theorem dX7_howMany_125 : decode cX7_howMany 125 = .ok (.ireturn, 1) := by decide +kernel
theorem dX7_howMany_126 : decode cX7_howMany 126 = .ok (.bipush (-102), 2) := by decide +kernel
theorem dX7_howMany_128 : decode cX7_howMany 128 = .ok (.ireturn, 1) := by decide +kernel
theorem dX7_count_0 : decode cX7_count 0 = .ok (.aload_n 0, 1) := by decide +kernel
theorem dX7_count_1 : decode cX7_count 1 = .ok (.iload_n 1, 1) := by decide +kernel
theorem dX7_count_2 : decode cX7_count 2 = .ok (.invokevirtual 289, 3) := by decide +kernel
theorem dX7_count_5 : decode cX7_count 5 = .ok (.ireturn, 1) := by decide +kernel
theorem dX7_mix_0 : decode cX7_mix 0 = .ok (.aload_n 0, 1) := by decide +kernel
theorem dX7_mix_1 : decode cX7_mix 1 = .ok (.ldc2_w 292, 3) := by decide +kernel
theorem dX7_mix_4 : decode cX7_mix 4 = .ok (.aload_n 0, 1) := by decide +kernel
theorem dX7_mix_5 : decode cX7_mix 5 = .ok (.getfield 294, 3) := by decide +kernel
theorem dX7_mix_8 : decode cX7_mix 8 = .ok (.lmul, 1) := by decide +kernel
theorem dX7_mix_9 : decode cX7_mix 9 = .ok (.lload_n 1, 1) := by decide +kernel
theorem dX7_mix_10 : decode cX7_mix 10 = .ok (.ladd, 1) := by decide +kernel
theorem dX7_mix_11 : decode cX7_mix 11 = .ok (.putfield 294, 3) := by decide +kernel
theorem dX7_mix_14 : decode cX7_mix 14 = .ok (.return_, 1) := by decide +kernel
theorem dX7_mixWearer_0 : decode cX7_mixWearer 0 = .ok (.iconst 0, 1) := by decide +kernel
theorem dX7_mixWearer_1 : decode cX7_mixWearer 1 = .ok (.istore_n 2, 1) := by decide +kernel
theorem dX7_mixWearer_2 : decode cX7_mixWearer 2 = .ok (.iload_n 2, 1) := by decide +kernel
theorem dX7_mixWearer_3 : decode cX7_mixWearer 3 = .ok (.bipush 9, 2) := by decide +kernel
theorem dX7_mixWearer_5 : decode cX7_mixWearer 5 = .ok (.if_icmp .ge 20, 3) := by decide +kernel
theorem dX7_mixWearer_8 : decode cX7_mixWearer 8 = .ok (.aload_n 0, 1) := by decide +kernel
theorem dX7_mixWearer_9 : decode cX7_mixWearer 9 = .ok (.aload_n 0, 1) := by decide +kernel
theorem dX7_mixWearer_10 : decode cX7_mixWearer 10 = .ok (.iload_n 1, 1) := by decide +kernel
theorem dX7_mixWearer_11 : decode cX7_mixWearer 11 = .ok (.iload_n 2, 1) := by decide +kernel
theorem dX7_mixWearer_12 : decode cX7_mixWearer 12 = .ok (.invokevirtual 185, 3) := by decide +kernel
theorem dX7_mixWearer_15 : decode cX7_mixWearer 15 = .ok (.i2l, 1) := by decide +kernel
theorem dX7_mixWearer_16 : decode cX7_mixWearer 16 = .ok (.invokevirtual 297, 3) := by decide +kernel
theorem dX7_mixWearer_19 : decode cX7_mixWearer 19 = .ok (.iinc 2 1, 3) := by decide +kernel
theorem dX7_mixWearer_22 : decode cX7_mixWearer 22 = .ok (.goto (-20), 3) := by decide +kernel
theorem dX7_mixWearer_25 : decode cX7_mixWearer 25 = .ok (.aload_n 0, 1) := by decide +kernel
theorem dX7_mixWearer_26 : decode cX7_mixWearer 26 = .ok (.aload_n 0, 1) := by decide +kernel
theorem dX7_mixWearer_27 : decode cX7_mixWearer 27 = .ok (.iload_n 1, 1) := by decide +kernel
theorem dX7_mixWearer_28 : decode cX7_mixWearer 28 = .ok (.aload_n 0, 1) := by decide +kernel
theorem dX7_mixWearer_29 : decode cX7_mixWearer 29 = .ok (.iload_n 1, 1) := by decide +kernel
theorem dX7_mixWearer_30 : decode cX7_mixWearer 30 = .ok (.invokevirtual 146, 3) := by decide +kernel
theorem dX7_mixWearer_33 : decode cX7_mixWearer 33 = .ok (.iconst 5, 1) := by decide +kernel
theorem dX7_mixWearer_34 : decode cX7_mixWearer 34 = .ok (.invokevirtual 149, 3) := by decide +kernel
theorem dX7_mixWearer_37 : decode cX7_mixWearer 37 = .ok (.i2l, 1) := by decide +kernel
theorem dX7_mixWearer_38 : decode cX7_mixWearer 38 = .ok (.invokevirtual 297, 3) := by decide +kernel
theorem dX7_mixWearer_41 : decode cX7_mixWearer 41 = .ok (.aload_n 0, 1) := by decide +kernel
theorem dX7_mixWearer_42 : decode cX7_mixWearer 42 = .ok (.aload_n 0, 1) := by decide +kernel
theorem dX7_mixWearer_43 : decode cX7_mixWearer 43 = .ok (.iload_n 1, 1) := by decide +kernel
theorem dX7_mixWearer_44 : decode cX7_mixWearer 44 = .ok (.iconst 4, 1) := by decide +kernel
theorem dX7_mixWearer_45 : decode cX7_mixWearer 45 = .ok (.bipush 6, 2) := by decide +kernel
theorem dX7_mixWearer_47 : decode cX7_mixWearer 47 = .ok (.iconst 0, 1) := by decide +kernel
theorem dX7_mixWearer_48 : decode cX7_mixWearer 48 = .ok (.invokevirtual 236, 3) := by decide +kernel
theorem dX7_mixWearer_51 : decode cX7_mixWearer 51 = .ok (.i2l, 1) := by decide +kernel
theorem dX7_mixWearer_52 : decode cX7_mixWearer 52 = .ok (.invokevirtual 297, 3) := by decide +kernel
theorem dX7_mixWearer_55 : decode cX7_mixWearer 55 = .ok (.aload_n 0, 1) := by decide +kernel
theorem dX7_mixWearer_56 : decode cX7_mixWearer 56 = .ok (.aload_n 0, 1) := by decide +kernel
theorem dX7_mixWearer_57 : decode cX7_mixWearer 57 = .ok (.iload_n 1, 1) := by decide +kernel
theorem dX7_mixWearer_58 : decode cX7_mixWearer 58 = .ok (.iconst 4, 1) := by decide +kernel
theorem dX7_mixWearer_59 : decode cX7_mixWearer 59 = .ok (.bipush 6, 2) := by decide +kernel
theorem dX7_mixWearer_61 : decode cX7_mixWearer 61 = .ok (.iconst 1, 1) := by decide +kernel
theorem dX7_mixWearer_62 : decode cX7_mixWearer 62 = .ok (.invokevirtual 236, 3) := by decide +kernel
theorem dX7_mixWearer_65 : decode cX7_mixWearer 65 = .ok (.i2l, 1) := by decide +kernel
theorem dX7_mixWearer_66 : decode cX7_mixWearer 66 = .ok (.invokevirtual 297, 3) := by decide +kernel
theorem dX7_mixWearer_69 : decode cX7_mixWearer 69 = .ok (.return_, 1) := by decide +kernel
theorem dX7_digest_0 : decode cX7_digest 0 = .ok (.aload_n 0, 1) := by decide +kernel
theorem dX7_digest_1 : decode cX7_digest 1 = .ok (.ldc2_w 301, 3) := by decide +kernel
theorem dX7_digest_4 : decode cX7_digest 4 = .ok (.putfield 294, 3) := by decide +kernel
theorem dX7_digest_7 : decode cX7_digest 7 = .ok (.iconst 0, 1) := by decide +kernel
theorem dX7_digest_8 : decode cX7_digest 8 = .ok (.istore_n 1, 1) := by decide +kernel
theorem dX7_digest_9 : decode cX7_digest 9 = .ok (.iload_n 1, 1) := by decide +kernel
theorem dX7_digest_10 : decode cX7_digest 10 = .ok (.aload_n 0, 1) := by decide +kernel
theorem dX7_digest_11 : decode cX7_digest 11 = .ok (.getfield 113, 3) := by decide +kernel
theorem dX7_digest_14 : decode cX7_digest 14 = .ok (.if_icmp .ge 34, 3) := by decide +kernel
theorem dX7_digest_17 : decode cX7_digest 17 = .ok (.iconst 0, 1) := by decide +kernel
theorem dX7_digest_18 : decode cX7_digest 18 = .ok (.istore_n 2, 1) := by decide +kernel
theorem dX7_digest_19 : decode cX7_digest 19 = .ok (.iload_n 2, 1) := by decide +kernel
theorem dX7_digest_20 : decode cX7_digest 20 = .ok (.bipush 9, 2) := by decide +kernel
theorem dX7_digest_22 : decode cX7_digest 22 = .ok (.if_icmp .ge 20, 3) := by decide +kernel
theorem dX7_digest_25 : decode cX7_digest 25 = .ok (.aload_n 0, 1) := by decide +kernel
theorem dX7_digest_26 : decode cX7_digest 26 = .ok (.aload_n 0, 1) := by decide +kernel
theorem dX7_digest_27 : decode cX7_digest 27 = .ok (.iload_n 1, 1) := by decide +kernel
theorem dX7_digest_28 : decode cX7_digest 28 = .ok (.iload_n 2, 1) := by decide +kernel
theorem dX7_digest_29 : decode cX7_digest 29 = .ok (.invokevirtual 167, 3) := by decide +kernel
theorem dX7_digest_32 : decode cX7_digest 32 = .ok (.i2l, 1) := by decide +kernel
theorem dX7_digest_33 : decode cX7_digest 33 = .ok (.invokevirtual 297, 3) := by decide +kernel
theorem dX7_digest_36 : decode cX7_digest 36 = .ok (.iinc 2 1, 3) := by decide +kernel
theorem dX7_digest_39 : decode cX7_digest 39 = .ok (.goto (-20), 3) := by decide +kernel
theorem dX7_digest_42 : decode cX7_digest 42 = .ok (.iinc 1 1, 3) := by decide +kernel
theorem dX7_digest_45 : decode cX7_digest 45 = .ok (.goto (-36), 3) := by decide +kernel
theorem dX7_digest_48 : decode cX7_digest 48 = .ok (.iconst 0, 1) := by decide +kernel
theorem dX7_digest_49 : decode cX7_digest 49 = .ok (.istore_n 1, 1) := by decide +kernel
theorem dX7_digest_50 : decode cX7_digest 50 = .ok (.iload_n 1, 1) := by decide +kernel
theorem dX7_digest_51 : decode cX7_digest 51 = .ok (.aload_n 0, 1) := by decide +kernel
theorem dX7_digest_52 : decode cX7_digest 52 = .ok (.getfield 116, 3) := by decide +kernel
theorem dX7_digest_55 : decode cX7_digest 55 = .ok (.if_icmp .ge 14, 3) := by decide +kernel
theorem dX7_digest_58 : decode cX7_digest 58 = .ok (.aload_n 0, 1) := by decide +kernel
theorem dX7_digest_59 : decode cX7_digest 59 = .ok (.iload_n 1, 1) := by decide +kernel
theorem dX7_digest_60 : decode cX7_digest 60 = .ok (.invokevirtual 303, 3) := by decide +kernel
theorem dX7_digest_63 : decode cX7_digest 63 = .ok (.iinc 1 1, 3) := by decide +kernel
theorem dX7_digest_66 : decode cX7_digest 66 = .ok (.goto (-16), 3) := by decide +kernel
theorem dX7_digest_69 : decode cX7_digest 69 = .ok (.aload_n 0, 1) := by decide +kernel
theorem dX7_digest_70 : decode cX7_digest 70 = .ok (.getfield 113, 3) := by decide +kernel
theorem dX7_digest_73 : decode cX7_digest 73 = .ok (.ifCond .le 38, 3) := by decide +kernel
theorem dX7_digest_76 : decode cX7_digest 76 = .ok (.aload_n 0, 1) := by decide +kernel
theorem dX7_digest_77 : decode cX7_digest 77 = .ok (.aload_n 0, 1) := by decide +kernel
theorem dX7_digest_78 : decode cX7_digest 78 = .ok (.iconst 0, 1) := by decide +kernel
theorem dX7_digest_79 : decode cX7_digest 79 = .ok (.invokevirtual 230, 3) := by decide +kernel
theorem dX7_digest_82 : decode cX7_digest 82 = .ok (.i2l, 1) := by decide +kernel
theorem dX7_digest_83 : decode cX7_digest 83 = .ok (.invokevirtual 297, 3) := by decide +kernel
theorem dX7_digest_86 : decode cX7_digest 86 = .ok (.bipush 10, 2) := by decide +kernel
theorem dX7_digest_88 : decode cX7_digest 88 = .ok (.istore_n 1, 1) := by decide +kernel
theorem dX7_digest_89 : decode cX7_digest 89 = .ok (.iload_n 1, 1) := by decide +kernel
theorem dX7_digest_90 : decode cX7_digest 90 = .ok (.bipush 16, 2) := by decide +kernel
theorem dX7_digest_92 : decode cX7_digest 92 = .ok (.if_icmp .ge 19, 3) := by decide +kernel
theorem dX7_digest_95 : decode cX7_digest 95 = .ok (.aload_n 0, 1) := by decide +kernel
theorem dX7_digest_96 : decode cX7_digest 96 = .ok (.aload_n 0, 1) := by decide +kernel
theorem dX7_digest_97 : decode cX7_digest 97 = .ok (.iload_n 1, 1) := by decide +kernel
theorem dX7_digest_98 : decode cX7_digest 98 = .ok (.invokevirtual 230, 3) := by decide +kernel
theorem dX7_digest_101 : decode cX7_digest 101 = .ok (.i2l, 1) := by decide +kernel
theorem dX7_digest_102 : decode cX7_digest 102 = .ok (.invokevirtual 297, 3) := by decide +kernel
theorem dX7_digest_105 : decode cX7_digest 105 = .ok (.iinc 1 1, 3) := by decide +kernel
theorem dX7_digest_108 : decode cX7_digest 108 = .ok (.goto (-19), 3) := by decide +kernel
theorem dX7_digest_111 : decode cX7_digest 111 = .ok (.iconst 0, 1) := by decide +kernel
theorem dX7_digest_112 : decode cX7_digest 112 = .ok (.istore_n 1, 1) := by decide +kernel
theorem dX7_digest_113 : decode cX7_digest 113 = .ok (.iload_n 1, 1) := by decide +kernel
theorem dX7_digest_114 : decode cX7_digest 114 = .ok (.aload_n 0, 1) := by decide +kernel
theorem dX7_digest_115 : decode cX7_digest 115 = .ok (.getfield 81, 3) := by decide +kernel
theorem dX7_digest_118 : decode cX7_digest 118 = .ok (.if_icmp .ge 20, 3) := by decide +kernel
theorem dX7_digest_121 : decode cX7_digest 121 = .ok (.aload_n 0, 1) := by decide +kernel
theorem dX7_digest_122 : decode cX7_digest 122 = .ok (.aload_n 0, 1) := by decide +kernel
theorem dX7_digest_123 : decode cX7_digest 123 = .ok (.getfield 37, 3) := by decide +kernel
theorem dX7_digest_126 : decode cX7_digest 126 = .ok (.iload_n 1, 1) := by decide +kernel
theorem dX7_digest_127 : decode cX7_digest 127 = .ok (.baload, 1) := by decide +kernel
theorem dX7_digest_128 : decode cX7_digest 128 = .ok (.i2l, 1) := by decide +kernel
theorem dX7_digest_129 : decode cX7_digest 129 = .ok (.invokevirtual 297, 3) := by decide +kernel
theorem dX7_digest_132 : decode cX7_digest 132 = .ok (.iinc 1 1, 3) := by decide +kernel
theorem dX7_digest_135 : decode cX7_digest 135 = .ok (.goto (-22), 3) := by decide +kernel
theorem dX7_digest_138 : decode cX7_digest 138 = .ok (.iconst 0, 1) := by decide +kernel
theorem dX7_digest_139 : decode cX7_digest 139 = .ok (.istore_n 1, 1) := by decide +kernel
theorem dX7_digest_140 : decode cX7_digest 140 = .ok (.iload_n 1, 1) := by decide +kernel
theorem dX7_digest_141 : decode cX7_digest 141 = .ok (.bipush 13, 2) := by decide +kernel
theorem dX7_digest_143 : decode cX7_digest 143 = .ok (.if_icmp .ge 19, 3) := by decide +kernel
theorem dX7_digest_146 : decode cX7_digest 146 = .ok (.aload_n 0, 1) := by decide +kernel
theorem dX7_digest_147 : decode cX7_digest 147 = .ok (.aload_n 0, 1) := by decide +kernel
theorem dX7_digest_148 : decode cX7_digest 148 = .ok (.iload_n 1, 1) := by decide +kernel
theorem dX7_digest_149 : decode cX7_digest 149 = .ok (.invokevirtual 289, 3) := by decide +kernel
theorem dX7_digest_152 : decode cX7_digest 152 = .ok (.i2l, 1) := by decide +kernel
theorem dX7_digest_153 : decode cX7_digest 153 = .ok (.invokevirtual 297, 3) := by decide +kernel
theorem dX7_digest_156 : decode cX7_digest 156 = .ok (.iinc 1 1, 3) := by decide +kernel
theorem dX7_digest_159 : decode cX7_digest 159 = .ok (.goto (-19), 3) := by decide +kernel
theorem dX7_digest_162 : decode cX7_digest 162 = .ok (.aload_n 0, 1) := by decide +kernel
theorem dX7_digest_163 : decode cX7_digest 163 = .ok (.getfield 294, 3) := by decide +kernel
theorem dX7_digest_166 : decode cX7_digest 166 = .ok (.lreturn, 1) := by decide +kernel
theorem dJ6_bitCount_0f7a4_0 : decode cJ6_bitCount_0f7a4 0 = .ok (.iload_n 0, 1) := by decide +kernel
theorem dJ6_bitCount_0f7a4_1 : decode cJ6_bitCount_0f7a4 1 = .ok (.iload_n 0, 1) := by decide +kernel
theorem dJ6_bitCount_0f7a4_2 : decode cJ6_bitCount_0f7a4 2 = .ok (.iconst 1, 1) := by decide +kernel
theorem dJ6_bitCount_0f7a4_3 : decode cJ6_bitCount_0f7a4 3 = .ok (.iushr, 1) := by decide +kernel
theorem dJ6_bitCount_0f7a4_4 : decode cJ6_bitCount_0f7a4 4 = .ok (.ldc_w 265, 3) := by decide +kernel
theorem dJ6_bitCount_0f7a4_7 : decode cJ6_bitCount_0f7a4 7 = .ok (.iand, 1) := by decide +kernel
theorem dJ6_bitCount_0f7a4_8 : decode cJ6_bitCount_0f7a4 8 = .ok (.isub, 1) := by decide +kernel
theorem dJ6_bitCount_0f7a4_9 : decode cJ6_bitCount_0f7a4 9 = .ok (.istore_n 0, 1) := by decide +kernel
theorem dJ6_bitCount_0f7a4_10 : decode cJ6_bitCount_0f7a4 10 = .ok (.iload_n 0, 1) := by decide +kernel
theorem dJ6_bitCount_0f7a4_11 : decode cJ6_bitCount_0f7a4 11 = .ok (.ldc_w 266, 3) := by decide +kernel
theorem dJ6_bitCount_0f7a4_14 : decode cJ6_bitCount_0f7a4 14 = .ok (.iand, 1) := by decide +kernel
theorem dJ6_bitCount_0f7a4_15 : decode cJ6_bitCount_0f7a4 15 = .ok (.iload_n 0, 1) := by decide +kernel
theorem dJ6_bitCount_0f7a4_16 : decode cJ6_bitCount_0f7a4 16 = .ok (.iconst 2, 1) := by decide +kernel
theorem dJ6_bitCount_0f7a4_17 : decode cJ6_bitCount_0f7a4 17 = .ok (.iushr, 1) := by decide +kernel
theorem dJ6_bitCount_0f7a4_18 : decode cJ6_bitCount_0f7a4 18 = .ok (.ldc_w 266, 3) := by decide +kernel
theorem dJ6_bitCount_0f7a4_21 : decode cJ6_bitCount_0f7a4 21 = .ok (.iand, 1) := by decide +kernel
theorem dJ6_bitCount_0f7a4_22 : decode cJ6_bitCount_0f7a4 22 = .ok (.iadd, 1) := by decide +kernel
theorem dJ6_bitCount_0f7a4_23 : decode cJ6_bitCount_0f7a4 23 = .ok (.istore_n 0, 1) := by decide +kernel
theorem dJ6_bitCount_0f7a4_24 : decode cJ6_bitCount_0f7a4 24 = .ok (.iload_n 0, 1) := by decide +kernel
theorem dJ6_bitCount_0f7a4_25 : decode cJ6_bitCount_0f7a4 25 = .ok (.iload_n 0, 1) := by decide +kernel
theorem dJ6_bitCount_0f7a4_26 : decode cJ6_bitCount_0f7a4 26 = .ok (.iconst 4, 1) := by decide +kernel
theorem dJ6_bitCount_0f7a4_27 : decode cJ6_bitCount_0f7a4 27 = .ok (.iushr, 1) := by decide +kernel
theorem dJ6_bitCount_0f7a4_28 : decode cJ6_bitCount_0f7a4 28 = .ok (.iadd, 1) := by decide +kernel
theorem dJ6_bitCount_0f7a4_29 : decode cJ6_bitCount_0f7a4 29 = .ok (.ldc_w 267, 3) := by decide +kernel
theorem dJ6_bitCount_0f7a4_32 : decode cJ6_bitCount_0f7a4 32 = .ok (.iand, 1) := by decide +kernel
theorem dJ6_bitCount_0f7a4_33 : decode cJ6_bitCount_0f7a4 33 = .ok (.istore_n 0, 1) := by decide +kernel
theorem dJ6_bitCount_0f7a4_34 : decode cJ6_bitCount_0f7a4 34 = .ok (.iload_n 0, 1) := by decide +kernel
theorem dJ6_bitCount_0f7a4_35 : decode cJ6_bitCount_0f7a4 35 = .ok (.iload_n 0, 1) := by decide +kernel
theorem dJ6_bitCount_0f7a4_36 : decode cJ6_bitCount_0f7a4 36 = .ok (.bipush 8, 2) := by decide +kernel
theorem dJ6_bitCount_0f7a4_38 : decode cJ6_bitCount_0f7a4 38 = .ok (.iushr, 1) := by decide +kernel
theorem dJ6_bitCount_0f7a4_39 : decode cJ6_bitCount_0f7a4 39 = .ok (.iadd, 1) := by decide +kernel
theorem dJ6_bitCount_0f7a4_40 : decode cJ6_bitCount_0f7a4 40 = .ok (.istore_n 0, 1) := by decide +kernel
theorem dJ6_bitCount_0f7a4_41 : decode cJ6_bitCount_0f7a4 41 = .ok (.iload_n 0, 1) := by decide +kernel
theorem dJ6_bitCount_0f7a4_42 : decode cJ6_bitCount_0f7a4 42 = .ok (.iload_n 0, 1) := by decide +kernel
theorem dJ6_bitCount_0f7a4_43 : decode cJ6_bitCount_0f7a4 43 = .ok (.bipush 16, 2) := by decide +kernel
theorem dJ6_bitCount_0f7a4_45 : decode cJ6_bitCount_0f7a4 45 = .ok (.iushr, 1) := by decide +kernel
theorem dJ6_bitCount_0f7a4_46 : decode cJ6_bitCount_0f7a4 46 = .ok (.iadd, 1) := by decide +kernel
theorem dJ6_bitCount_0f7a4_47 : decode cJ6_bitCount_0f7a4 47 = .ok (.istore_n 0, 1) := by decide +kernel
theorem dJ6_bitCount_0f7a4_48 : decode cJ6_bitCount_0f7a4 48 = .ok (.iload_n 0, 1) := by decide +kernel
theorem dJ6_bitCount_0f7a4_49 : decode cJ6_bitCount_0f7a4 49 = .ok (.bipush 63, 2) := by decide +kernel
theorem dJ6_bitCount_0f7a4_51 : decode cJ6_bitCount_0f7a4 51 = .ok (.iand, 1) := by decide +kernel
theorem dJ6_bitCount_0f7a4_52 : decode cJ6_bitCount_0f7a4 52 = .ok (.ireturn, 1) := by decide +kernel
theorem dJ9_abs_0f7a4_0 : decode cJ9_abs_0f7a4 0 = .ok (.iload_n 0, 1) := by decide +kernel
theorem dJ9_abs_0f7a4_1 : decode cJ9_abs_0f7a4 1 = .ok (.ifCond .ge 8, 3) := by decide +kernel
theorem dJ9_abs_0f7a4_4 : decode cJ9_abs_0f7a4 4 = .ok (.iload_n 0, 1) := by decide +kernel
theorem dJ9_abs_0f7a4_5 : decode cJ9_abs_0f7a4 5 = .ok (.ineg, 1) := by decide +kernel
theorem dJ9_abs_0f7a4_6 : decode cJ9_abs_0f7a4 6 = .ok (.goto 4, 3) := by decide +kernel
theorem dJ9_abs_0f7a4_9 : decode cJ9_abs_0f7a4 9 = .ok (.iload_n 0, 1) := by decide +kernel
theorem dJ9_abs_0f7a4_10 : decode cJ9_abs_0f7a4 10 = .ok (.ireturn, 1) := by decide +kernel
theorem dJ9_max_7cf53_0 : decode cJ9_max_7cf53 0 = .ok (.iload_n 0, 1) := by decide +kernel
theorem dJ9_max_7cf53_1 : decode cJ9_max_7cf53 1 = .ok (.iload_n 1, 1) := by decide +kernel
theorem dJ9_max_7cf53_2 : decode cJ9_max_7cf53 2 = .ok (.if_icmp .lt 7, 3) := by decide +kernel
theorem dJ9_max_7cf53_5 : decode cJ9_max_7cf53 5 = .ok (.iload_n 0, 1) := by decide +kernel
theorem dJ9_max_7cf53_6 : decode cJ9_max_7cf53 6 = .ok (.goto 4, 3) := by decide +kernel
theorem dJ9_max_7cf53_9 : decode cJ9_max_7cf53 9 = .ok (.iload_n 1, 1) := by decide +kernel
theorem dJ9_max_7cf53_10 : decode cJ9_max_7cf53 10 = .ok (.ireturn, 1) := by decide +kernel
theorem dJ9_min_7cf53_0 : decode cJ9_min_7cf53 0 = .ok (.iload_n 0, 1) := by decide +kernel
theorem dJ9_min_7cf53_1 : decode cJ9_min_7cf53 1 = .ok (.iload_n 1, 1) := by decide +kernel
theorem dJ9_min_7cf53_2 : decode cJ9_min_7cf53 2 = .ok (.if_icmp .gt 7, 3) := by decide +kernel
theorem dJ9_min_7cf53_5 : decode cJ9_min_7cf53 5 = .ok (.iload_n 0, 1) := by decide +kernel
theorem dJ9_min_7cf53_6 : decode cJ9_min_7cf53 6 = .ok (.goto 4, 3) := by decide +kernel
theorem dJ9_min_7cf53_9 : decode cJ9_min_7cf53 9 = .ok (.iload_n 1, 1) := by decide +kernel
theorem dJ9_min_7cf53_10 : decode cJ9_min_7cf53 10 = .ok (.ireturn, 1) := by decide +kernel
theorem dJ7_fill_53178_0 : decode cJ7_fill_53178 0 = .ok (.iconst 0, 1) := by decide +kernel
theorem dJ7_fill_53178_1 : decode cJ7_fill_53178 1 = .ok (.istore_n 2, 1) := by decide +kernel
theorem dJ7_fill_53178_2 : decode cJ7_fill_53178 2 = .ok (.aload_n 0, 1) := by decide +kernel
theorem dJ7_fill_53178_3 : decode cJ7_fill_53178 3 = .ok (.arraylength, 1) := by decide +kernel
theorem dJ7_fill_53178_4 : decode cJ7_fill_53178 4 = .ok (.istore_n 3, 1) := by decide +kernel
theorem dJ7_fill_53178_5 : decode cJ7_fill_53178 5 = .ok (.iload_n 2, 1) := by decide +kernel
theorem dJ7_fill_53178_6 : decode cJ7_fill_53178 6 = .ok (.iload_n 3, 1) := by decide +kernel
theorem dJ7_fill_53178_7 : decode cJ7_fill_53178 7 = .ok (.if_icmp .ge 13, 3) := by decide +kernel
theorem dJ7_fill_53178_10 : decode cJ7_fill_53178 10 = .ok (.aload_n 0, 1) := by decide +kernel
theorem dJ7_fill_53178_11 : decode cJ7_fill_53178 11 = .ok (.iload_n 2, 1) := by decide +kernel
theorem dJ7_fill_53178_12 : decode cJ7_fill_53178 12 = .ok (.iload_n 1, 1) := by decide +kernel
theorem dJ7_fill_53178_13 : decode cJ7_fill_53178 13 = .ok (.iastore, 1) := by decide +kernel
theorem dJ7_fill_53178_14 : decode cJ7_fill_53178 14 = .ok (.iinc 2 1, 3) := by decide +kernel
theorem dJ7_fill_53178_17 : decode cJ7_fill_53178 17 = .ok (.goto (-12), 3) := by decide +kernel
theorem dJ7_fill_53178_20 : decode cJ7_fill_53178 20 = .ok (.return_, 1) := by decide +kernel
theorem dL_law_0 : decode cL_law 0 = .ok (.new 7, 3) := by decide +kernel
theorem dL_law_3 : decode cL_law 3 = .ok (.dup, 1) := by decide +kernel
theorem dL_law_4 : decode cL_law 4 = .ok (.invokespecial 9, 3) := by decide +kernel
theorem dL_law_7 : decode cL_law 7 = .ok (.astore_n 1, 1) := by decide +kernel
theorem dL_law_8 : decode cL_law 8 = .ok (.new 10, 3) := by decide +kernel
theorem dL_law_11 : decode cL_law 11 = .ok (.dup, 1) := by decide +kernel
theorem dL_law_12 : decode cL_law 12 = .ok (.invokespecial 12, 3) := by decide +kernel
theorem dL_law_15 : decode cL_law 15 = .ok (.astore_n 2, 1) := by decide +kernel
theorem dL_law_16 : decode cL_law 16 = .ok (.iconst 0, 1) := by decide +kernel
theorem dL_law_17 : decode cL_law 17 = .ok (.istore_n 3, 1) := by decide +kernel
theorem dL_law_18 : decode cL_law 18 = .ok (.iload_n 3, 1) := by decide +kernel
theorem dL_law_19 : decode cL_law 19 = .ok (.aload_n 0, 1) := by decide +kernel
theorem dL_law_20 : decode cL_law 20 = .ok (.arraylength, 1) := by decide +kernel
theorem dL_law_21 : decode cL_law 21 = .ok (.iconst 5, 1) := by decide +kernel
theorem dL_law_22 : decode cL_law 22 = .ok (.isub, 1) := by decide +kernel
theorem dL_law_23 : decode cL_law 23 = .ok (.if_icmp .gt 733, 3) := by decide +kernel
theorem dL_law_26 : decode cL_law 26 = .ok (.aload_n 0, 1) := by decide +kernel
theorem dL_law_27 : decode cL_law 27 = .ok (.iload_n 3, 1) := by decide +kernel
theorem dL_law_28 : decode cL_law 28 = .ok (.iaload, 1) := by decide +kernel
theorem dL_law_29 : decode cL_law 29 = .ok (.bipush 31, 2) := by decide +kernel
theorem dL_law_31 : decode cL_law 31 = .ok (.iand, 1) := by decide +kernel
theorem dL_law_32 : decode cL_law 32 = .ok (.tableswitch 718 0 22 #[108, 131, 144, 157, 170, 203, 236, 269, 312, 335, 348, 381, 424, 457, 480, 503, 556, 599, 612, 655, 668, 681, 704], 108) := by decide +kernel
theorem dL_law_140 : decode cL_law 140 = .ok (.aload_n 1, 1) := by decide +kernel
theorem dL_law_141 : decode cL_law 141 = .ok (.aload_n 0, 1) := by decide +kernel
theorem dL_law_142 : decode cL_law 142 = .ok (.iload_n 3, 1) := by decide +kernel
theorem dL_law_143 : decode cL_law 143 = .ok (.iconst 1, 1) := by decide +kernel
theorem dL_law_144 : decode cL_law 144 = .ok (.iadd, 1) := by decide +kernel
theorem dL_law_145 : decode cL_law 145 = .ok (.iaload, 1) := by decide +kernel
theorem dL_law_146 : decode cL_law 146 = .ok (.invokevirtual 13, 3) := by decide +kernel
theorem dL_law_149 : decode cL_law 149 = .ok (.aload_n 2, 1) := by decide +kernel
theorem dL_law_150 : decode cL_law 150 = .ok (.aload_n 0, 1) := by decide +kernel
theorem dL_law_151 : decode cL_law 151 = .ok (.iload_n 3, 1) := by decide +kernel
theorem dL_law_152 : decode cL_law 152 = .ok (.iconst 1, 1) := by decide +kernel
theorem dL_law_153 : decode cL_law 153 = .ok (.iadd, 1) := by decide +kernel
theorem dL_law_154 : decode cL_law 154 = .ok (.iaload, 1) := by decide +kernel
theorem dL_law_155 : decode cL_law 155 = .ok (.invokevirtual 17, 3) := by decide +kernel
theorem dL_law_158 : decode cL_law 158 = .ok (.if_icmp .eq 592, 3) := by decide +kernel
theorem dL_law_161 : decode cL_law 161 = .ok (.iconst 0, 1) := by decide +kernel
theorem dL_law_162 : decode cL_law 162 = .ok (.ireturn, 1) := by decide +kernel
theorem dL_law_163 : decode cL_law 163 = .ok (.aload_n 1, 1) := by decide +kernel
theorem dL_law_164 : decode cL_law 164 = .ok (.invokevirtual 18, 3) := by decide +kernel
theorem dL_law_167 : decode cL_law 167 = .ok (.aload_n 2, 1) := by decide +kernel
theorem dL_law_168 : decode cL_law 168 = .ok (.invokevirtual 22, 3) := by decide +kernel
theorem dL_law_171 : decode cL_law 171 = .ok (.if_icmp .eq 579, 3) := by decide +kernel
theorem dL_law_174 : decode cL_law 174 = .ok (.iconst 0, 1) := by decide +kernel
theorem dL_law_175 : decode cL_law 175 = .ok (.ireturn, 1) := by decide +kernel
theorem dL_law_176 : decode cL_law 176 = .ok (.aload_n 1, 1) := by decide +kernel
theorem dL_law_177 : decode cL_law 177 = .ok (.invokevirtual 23, 3) := by decide +kernel
theorem dL_law_180 : decode cL_law 180 = .ok (.aload_n 2, 1) := by decide +kernel
theorem dL_law_181 : decode cL_law 181 = .ok (.invokevirtual 26, 3) := by decide +kernel
theorem dL_law_184 : decode cL_law 184 = .ok (.if_icmp .eq 566, 3) := by decide +kernel
theorem dL_law_187 : decode cL_law 187 = .ok (.iconst 0, 1) := by decide +kernel
theorem dL_law_188 : decode cL_law 188 = .ok (.ireturn, 1) := by decide +kernel
theorem dL_law_189 : decode cL_law 189 = .ok (.aload_n 1, 1) := by decide +kernel
theorem dL_law_190 : decode cL_law 190 = .ok (.invokevirtual 27, 3) := by decide +kernel
theorem dL_law_193 : decode cL_law 193 = .ok (.aload_n 2, 1) := by decide +kernel
theorem dL_law_194 : decode cL_law 194 = .ok (.invokevirtual 30, 3) := by decide +kernel
theorem dL_law_197 : decode cL_law 197 = .ok (.if_icmp .eq 553, 3) := by decide +kernel
theorem dL_law_200 : decode cL_law 200 = .ok (.iconst 0, 1) := by decide +kernel
theorem dL_law_201 : decode cL_law 201 = .ok (.ireturn, 1) := by decide +kernel
theorem dL_law_202 : decode cL_law 202 = .ok (.aload_n 1, 1) := by decide +kernel
theorem dL_law_203 : decode cL_law 203 = .ok (.aload_n 0, 1) := by decide +kernel
theorem dL_law_204 : decode cL_law 204 = .ok (.iload_n 3, 1) := by decide +kernel
theorem dL_law_205 : decode cL_law 205 = .ok (.iconst 1, 1) := by decide +kernel
theorem dL_law_206 : decode cL_law 206 = .ok (.iadd, 1) := by decide +kernel
theorem dL_law_207 : decode cL_law 207 = .ok (.iaload, 1) := by decide +kernel
theorem dL_law_208 : decode cL_law 208 = .ok (.aload_n 0, 1) := by decide +kernel
theorem dL_law_209 : decode cL_law 209 = .ok (.iload_n 3, 1) := by decide +kernel
theorem dL_law_210 : decode cL_law 210 = .ok (.iconst 2, 1) := by decide +kernel
theorem dL_law_211 : decode cL_law 211 = .ok (.iadd, 1) := by decide +kernel
theorem dL_law_212 : decode cL_law 212 = .ok (.iaload, 1) := by decide +kernel
theorem dL_law_213 : decode cL_law 213 = .ok (.invokevirtual 31, 3) := by decide +kernel
theorem dL_law_216 : decode cL_law 216 = .ok (.aload_n 2, 1) := by decide +kernel
theorem dL_law_217 : decode cL_law 217 = .ok (.aload_n 0, 1) := by decide +kernel
theorem dL_law_218 : decode cL_law 218 = .ok (.iload_n 3, 1) := by decide +kernel
theorem dL_law_219 : decode cL_law 219 = .ok (.iconst 1, 1) := by decide +kernel
theorem dL_law_220 : decode cL_law 220 = .ok (.iadd, 1) := by decide +kernel
theorem dL_law_221 : decode cL_law 221 = .ok (.iaload, 1) := by decide +kernel
theorem dL_law_222 : decode cL_law 222 = .ok (.aload_n 0, 1) := by decide +kernel
theorem dL_law_223 : decode cL_law 223 = .ok (.iload_n 3, 1) := by decide +kernel
theorem dL_law_224 : decode cL_law 224 = .ok (.iconst 2, 1) := by decide +kernel
theorem dL_law_225 : decode cL_law 225 = .ok (.iadd, 1) := by decide +kernel
theorem dL_law_226 : decode cL_law 226 = .ok (.iaload, 1) := by decide +kernel
theorem dL_law_227 : decode cL_law 227 = .ok (.invokevirtual 35, 3) := by decide +kernel
theorem dL_law_230 : decode cL_law 230 = .ok (.if_icmp .eq 520, 3) := by decide +kernel
theorem dL_law_233 : decode cL_law 233 = .ok (.iconst 0, 1) := by decide +kernel
theorem dL_law_234 : decode cL_law 234 = .ok (.ireturn, 1) := by decide +kernel
theorem dL_law_235 : decode cL_law 235 = .ok (.aload_n 1, 1) := by decide +kernel
theorem dL_law_236 : decode cL_law 236 = .ok (.aload_n 0, 1) := by decide +kernel
theorem dL_law_237 : decode cL_law 237 = .ok (.iload_n 3, 1) := by decide +kernel
theorem dL_law_238 : decode cL_law 238 = .ok (.iconst 1, 1) := by decide +kernel
theorem dL_law_239 : decode cL_law 239 = .ok (.iadd, 1) := by decide +kernel
theorem dL_law_240 : decode cL_law 240 = .ok (.iaload, 1) := by decide +kernel
theorem dL_law_241 : decode cL_law 241 = .ok (.aload_n 0, 1) := by decide +kernel
theorem dL_law_242 : decode cL_law 242 = .ok (.iload_n 3, 1) := by decide +kernel
theorem dL_law_243 : decode cL_law 243 = .ok (.iconst 2, 1) := by decide +kernel
theorem dL_law_244 : decode cL_law 244 = .ok (.iadd, 1) := by decide +kernel
theorem dL_law_245 : decode cL_law 245 = .ok (.iaload, 1) := by decide +kernel
theorem dL_law_246 : decode cL_law 246 = .ok (.invokevirtual 36, 3) := by decide +kernel
theorem dL_law_249 : decode cL_law 249 = .ok (.aload_n 2, 1) := by decide +kernel
theorem dL_law_250 : decode cL_law 250 = .ok (.aload_n 0, 1) := by decide +kernel
theorem dL_law_251 : decode cL_law 251 = .ok (.iload_n 3, 1) := by decide +kernel
theorem dL_law_252 : decode cL_law 252 = .ok (.iconst 1, 1) := by decide +kernel
theorem dL_law_253 : decode cL_law 253 = .ok (.iadd, 1) := by decide +kernel
theorem dL_law_254 : decode cL_law 254 = .ok (.iaload, 1) := by decide +kernel
theorem dL_law_255 : decode cL_law 255 = .ok (.aload_n 0, 1) := by decide +kernel
theorem dL_law_256 : decode cL_law 256 = .ok (.iload_n 3, 1) := by decide +kernel
theorem dL_law_257 : decode cL_law 257 = .ok (.iconst 2, 1) := by decide +kernel
theorem dL_law_258 : decode cL_law 258 = .ok (.iadd, 1) := by decide +kernel
theorem dL_law_259 : decode cL_law 259 = .ok (.iaload, 1) := by decide +kernel
theorem dL_law_260 : decode cL_law 260 = .ok (.invokevirtual 39, 3) := by decide +kernel
theorem dL_law_263 : decode cL_law 263 = .ok (.if_icmp .eq 487, 3) := by decide +kernel
theorem dL_law_266 : decode cL_law 266 = .ok (.iconst 0, 1) := by decide +kernel
theorem dL_law_267 : decode cL_law 267 = .ok (.ireturn, 1) := by decide +kernel
theorem dL_law_268 : decode cL_law 268 = .ok (.aload_n 1, 1) := by decide +kernel
theorem dL_law_269 : decode cL_law 269 = .ok (.aload_n 0, 1) := by decide +kernel
theorem dL_law_270 : decode cL_law 270 = .ok (.iload_n 3, 1) := by decide +kernel
theorem dL_law_271 : decode cL_law 271 = .ok (.iconst 1, 1) := by decide +kernel
theorem dL_law_272 : decode cL_law 272 = .ok (.iadd, 1) := by decide +kernel
theorem dL_law_273 : decode cL_law 273 = .ok (.iaload, 1) := by decide +kernel
theorem dL_law_274 : decode cL_law 274 = .ok (.aload_n 0, 1) := by decide +kernel
theorem dL_law_275 : decode cL_law 275 = .ok (.iload_n 3, 1) := by decide +kernel
theorem dL_law_276 : decode cL_law 276 = .ok (.iconst 2, 1) := by decide +kernel
theorem dL_law_277 : decode cL_law 277 = .ok (.iadd, 1) := by decide +kernel
theorem dL_law_278 : decode cL_law 278 = .ok (.iaload, 1) := by decide +kernel
theorem dL_law_279 : decode cL_law 279 = .ok (.invokevirtual 40, 3) := by decide +kernel
theorem dL_law_282 : decode cL_law 282 = .ok (.aload_n 2, 1) := by decide +kernel
theorem dL_law_283 : decode cL_law 283 = .ok (.aload_n 0, 1) := by decide +kernel
theorem dL_law_284 : decode cL_law 284 = .ok (.iload_n 3, 1) := by decide +kernel
theorem dL_law_285 : decode cL_law 285 = .ok (.iconst 1, 1) := by decide +kernel
theorem dL_law_286 : decode cL_law 286 = .ok (.iadd, 1) := by decide +kernel
theorem dL_law_287 : decode cL_law 287 = .ok (.iaload, 1) := by decide +kernel
theorem dL_law_288 : decode cL_law 288 = .ok (.aload_n 0, 1) := by decide +kernel
theorem dL_law_289 : decode cL_law 289 = .ok (.iload_n 3, 1) := by decide +kernel
theorem dL_law_290 : decode cL_law 290 = .ok (.iconst 2, 1) := by decide +kernel
theorem dL_law_291 : decode cL_law 291 = .ok (.iadd, 1) := by decide +kernel
theorem dL_law_292 : decode cL_law 292 = .ok (.iaload, 1) := by decide +kernel
theorem dL_law_293 : decode cL_law 293 = .ok (.invokevirtual 43, 3) := by decide +kernel
theorem dL_law_296 : decode cL_law 296 = .ok (.if_icmp .eq 454, 3) := by decide +kernel
theorem dL_law_299 : decode cL_law 299 = .ok (.iconst 0, 1) := by decide +kernel
theorem dL_law_300 : decode cL_law 300 = .ok (.ireturn, 1) := by decide +kernel
theorem dL_law_301 : decode cL_law 301 = .ok (.aload_n 1, 1) := by decide +kernel
theorem dL_law_302 : decode cL_law 302 = .ok (.aload_n 0, 1) := by decide +kernel
theorem dL_law_303 : decode cL_law 303 = .ok (.iload_n 3, 1) := by decide +kernel
theorem dL_law_304 : decode cL_law 304 = .ok (.iconst 1, 1) := by decide +kernel
theorem dL_law_305 : decode cL_law 305 = .ok (.iadd, 1) := by decide +kernel
theorem dL_law_306 : decode cL_law 306 = .ok (.iaload, 1) := by decide +kernel
theorem dL_law_307 : decode cL_law 307 = .ok (.aload_n 0, 1) := by decide +kernel
theorem dL_law_308 : decode cL_law 308 = .ok (.iload_n 3, 1) := by decide +kernel
theorem dL_law_309 : decode cL_law 309 = .ok (.iconst 2, 1) := by decide +kernel
theorem dL_law_310 : decode cL_law 310 = .ok (.iadd, 1) := by decide +kernel
theorem dL_law_311 : decode cL_law 311 = .ok (.iaload, 1) := by decide +kernel
theorem dL_law_312 : decode cL_law 312 = .ok (.aload_n 0, 1) := by decide +kernel
theorem dL_law_313 : decode cL_law 313 = .ok (.iload_n 3, 1) := by decide +kernel
theorem dL_law_314 : decode cL_law 314 = .ok (.iconst 3, 1) := by decide +kernel
theorem dL_law_315 : decode cL_law 315 = .ok (.iadd, 1) := by decide +kernel
theorem dL_law_316 : decode cL_law 316 = .ok (.iaload, 1) := by decide +kernel
theorem dL_law_317 : decode cL_law 317 = .ok (.invokevirtual 44, 3) := by decide +kernel
theorem dL_law_320 : decode cL_law 320 = .ok (.aload_n 2, 1) := by decide +kernel
theorem dL_law_321 : decode cL_law 321 = .ok (.aload_n 0, 1) := by decide +kernel
theorem dL_law_322 : decode cL_law 322 = .ok (.iload_n 3, 1) := by decide +kernel
theorem dL_law_323 : decode cL_law 323 = .ok (.iconst 1, 1) := by decide +kernel
theorem dL_law_324 : decode cL_law 324 = .ok (.iadd, 1) := by decide +kernel
theorem dL_law_325 : decode cL_law 325 = .ok (.iaload, 1) := by decide +kernel
theorem dL_law_326 : decode cL_law 326 = .ok (.aload_n 0, 1) := by decide +kernel
theorem dL_law_327 : decode cL_law 327 = .ok (.iload_n 3, 1) := by decide +kernel
theorem dL_law_328 : decode cL_law 328 = .ok (.iconst 2, 1) := by decide +kernel
theorem dL_law_329 : decode cL_law 329 = .ok (.iadd, 1) := by decide +kernel
theorem dL_law_330 : decode cL_law 330 = .ok (.iaload, 1) := by decide +kernel
theorem dL_law_331 : decode cL_law 331 = .ok (.aload_n 0, 1) := by decide +kernel
theorem dL_law_332 : decode cL_law 332 = .ok (.iload_n 3, 1) := by decide +kernel
theorem dL_law_333 : decode cL_law 333 = .ok (.iconst 3, 1) := by decide +kernel
theorem dL_law_334 : decode cL_law 334 = .ok (.iadd, 1) := by decide +kernel
theorem dL_law_335 : decode cL_law 335 = .ok (.iaload, 1) := by decide +kernel
theorem dL_law_336 : decode cL_law 336 = .ok (.invokevirtual 48, 3) := by decide +kernel
theorem dL_law_339 : decode cL_law 339 = .ok (.if_icmp .eq 411, 3) := by decide +kernel
theorem dL_law_342 : decode cL_law 342 = .ok (.iconst 0, 1) := by decide +kernel
theorem dL_law_343 : decode cL_law 343 = .ok (.ireturn, 1) := by decide +kernel
theorem dL_law_344 : decode cL_law 344 = .ok (.aload_n 1, 1) := by decide +kernel
theorem dL_law_345 : decode cL_law 345 = .ok (.aload_n 0, 1) := by decide +kernel
theorem dL_law_346 : decode cL_law 346 = .ok (.iload_n 3, 1) := by decide +kernel
theorem dL_law_347 : decode cL_law 347 = .ok (.iconst 1, 1) := by decide +kernel
theorem dL_law_348 : decode cL_law 348 = .ok (.iadd, 1) := by decide +kernel
theorem dL_law_349 : decode cL_law 349 = .ok (.iaload, 1) := by decide +kernel
theorem dL_law_350 : decode cL_law 350 = .ok (.invokevirtual 49, 3) := by decide +kernel
theorem dL_law_353 : decode cL_law 353 = .ok (.aload_n 2, 1) := by decide +kernel
theorem dL_law_354 : decode cL_law 354 = .ok (.aload_n 0, 1) := by decide +kernel
theorem dL_law_355 : decode cL_law 355 = .ok (.iload_n 3, 1) := by decide +kernel
theorem dL_law_356 : decode cL_law 356 = .ok (.iconst 1, 1) := by decide +kernel
theorem dL_law_357 : decode cL_law 357 = .ok (.iadd, 1) := by decide +kernel
theorem dL_law_358 : decode cL_law 358 = .ok (.iaload, 1) := by decide +kernel
theorem dL_law_359 : decode cL_law 359 = .ok (.invokevirtual 52, 3) := by decide +kernel
theorem dL_law_362 : decode cL_law 362 = .ok (.if_icmp .eq 388, 3) := by decide +kernel
theorem dL_law_365 : decode cL_law 365 = .ok (.iconst 0, 1) := by decide +kernel
theorem dL_law_366 : decode cL_law 366 = .ok (.ireturn, 1) := by decide +kernel
theorem dL_law_367 : decode cL_law 367 = .ok (.aload_n 1, 1) := by decide +kernel
theorem dL_law_368 : decode cL_law 368 = .ok (.invokevirtual 53, 3) := by decide +kernel
theorem dL_law_371 : decode cL_law 371 = .ok (.aload_n 2, 1) := by decide +kernel
theorem dL_law_372 : decode cL_law 372 = .ok (.invokevirtual 56, 3) := by decide +kernel
theorem dL_law_375 : decode cL_law 375 = .ok (.if_icmp .eq 375, 3) := by decide +kernel
theorem dL_law_378 : decode cL_law 378 = .ok (.iconst 0, 1) := by decide +kernel
theorem dL_law_379 : decode cL_law 379 = .ok (.ireturn, 1) := by decide +kernel
theorem dL_law_380 : decode cL_law 380 = .ok (.aload_n 1, 1) := by decide +kernel
theorem dL_law_381 : decode cL_law 381 = .ok (.aload_n 0, 1) := by decide +kernel
theorem dL_law_382 : decode cL_law 382 = .ok (.iload_n 3, 1) := by decide +kernel
theorem dL_law_383 : decode cL_law 383 = .ok (.iconst 1, 1) := by decide +kernel
theorem dL_law_384 : decode cL_law 384 = .ok (.iadd, 1) := by decide +kernel
theorem dL_law_385 : decode cL_law 385 = .ok (.iaload, 1) := by decide +kernel
theorem dL_law_386 : decode cL_law 386 = .ok (.aload_n 0, 1) := by decide +kernel
theorem dL_law_387 : decode cL_law 387 = .ok (.iload_n 3, 1) := by decide +kernel
theorem dL_law_388 : decode cL_law 388 = .ok (.iconst 2, 1) := by decide +kernel
theorem dL_law_389 : decode cL_law 389 = .ok (.iadd, 1) := by decide +kernel
theorem dL_law_390 : decode cL_law 390 = .ok (.iaload, 1) := by decide +kernel
theorem dL_law_391 : decode cL_law 391 = .ok (.invokevirtual 57, 3) := by decide +kernel
theorem dL_law_394 : decode cL_law 394 = .ok (.aload_n 2, 1) := by decide +kernel
theorem dL_law_395 : decode cL_law 395 = .ok (.aload_n 0, 1) := by decide +kernel
theorem dL_law_396 : decode cL_law 396 = .ok (.iload_n 3, 1) := by decide +kernel
theorem dL_law_397 : decode cL_law 397 = .ok (.iconst 1, 1) := by decide +kernel
theorem dL_law_398 : decode cL_law 398 = .ok (.iadd, 1) := by decide +kernel
theorem dL_law_399 : decode cL_law 399 = .ok (.iaload, 1) := by decide +kernel
theorem dL_law_400 : decode cL_law 400 = .ok (.aload_n 0, 1) := by decide +kernel
theorem dL_law_401 : decode cL_law 401 = .ok (.iload_n 3, 1) := by decide +kernel
theorem dL_law_402 : decode cL_law 402 = .ok (.iconst 2, 1) := by decide +kernel
theorem dL_law_403 : decode cL_law 403 = .ok (.iadd, 1) := by decide +kernel
theorem dL_law_404 : decode cL_law 404 = .ok (.iaload, 1) := by decide +kernel
theorem dL_law_405 : decode cL_law 405 = .ok (.invokevirtual 60, 3) := by decide +kernel
theorem dL_law_408 : decode cL_law 408 = .ok (.if_icmp .eq 342, 3) := by decide +kernel
theorem dL_law_411 : decode cL_law 411 = .ok (.iconst 0, 1) := by decide +kernel
theorem dL_law_412 : decode cL_law 412 = .ok (.ireturn, 1) := by decide +kernel
theorem dL_law_413 : decode cL_law 413 = .ok (.aload_n 1, 1) := by decide +kernel
theorem dL_law_414 : decode cL_law 414 = .ok (.aload_n 0, 1) := by decide +kernel
theorem dL_law_415 : decode cL_law 415 = .ok (.iload_n 3, 1) := by decide +kernel
theorem dL_law_416 : decode cL_law 416 = .ok (.iconst 1, 1) := by decide +kernel
theorem dL_law_417 : decode cL_law 417 = .ok (.iadd, 1) := by decide +kernel
theorem dL_law_418 : decode cL_law 418 = .ok (.iaload, 1) := by decide +kernel
theorem dL_law_419 : decode cL_law 419 = .ok (.aload_n 0, 1) := by decide +kernel
theorem dL_law_420 : decode cL_law 420 = .ok (.iload_n 3, 1) := by decide +kernel
theorem dL_law_421 : decode cL_law 421 = .ok (.iconst 2, 1) := by decide +kernel
theorem dL_law_422 : decode cL_law 422 = .ok (.iadd, 1) := by decide +kernel
theorem dL_law_423 : decode cL_law 423 = .ok (.iaload, 1) := by decide +kernel
theorem dL_law_424 : decode cL_law 424 = .ok (.aload_n 0, 1) := by decide +kernel
theorem dL_law_425 : decode cL_law 425 = .ok (.iload_n 3, 1) := by decide +kernel
theorem dL_law_426 : decode cL_law 426 = .ok (.iconst 3, 1) := by decide +kernel
theorem dL_law_427 : decode cL_law 427 = .ok (.iadd, 1) := by decide +kernel
theorem dL_law_428 : decode cL_law 428 = .ok (.iaload, 1) := by decide +kernel
theorem dL_law_429 : decode cL_law 429 = .ok (.invokevirtual 61, 3) := by decide +kernel
theorem dL_law_432 : decode cL_law 432 = .ok (.aload_n 2, 1) := by decide +kernel
theorem dL_law_433 : decode cL_law 433 = .ok (.aload_n 0, 1) := by decide +kernel
theorem dL_law_434 : decode cL_law 434 = .ok (.iload_n 3, 1) := by decide +kernel
theorem dL_law_435 : decode cL_law 435 = .ok (.iconst 1, 1) := by decide +kernel
theorem dL_law_436 : decode cL_law 436 = .ok (.iadd, 1) := by decide +kernel
theorem dL_law_437 : decode cL_law 437 = .ok (.iaload, 1) := by decide +kernel
theorem dL_law_438 : decode cL_law 438 = .ok (.aload_n 0, 1) := by decide +kernel
theorem dL_law_439 : decode cL_law 439 = .ok (.iload_n 3, 1) := by decide +kernel
theorem dL_law_440 : decode cL_law 440 = .ok (.iconst 2, 1) := by decide +kernel
theorem dL_law_441 : decode cL_law 441 = .ok (.iadd, 1) := by decide +kernel
theorem dL_law_442 : decode cL_law 442 = .ok (.iaload, 1) := by decide +kernel
theorem dL_law_443 : decode cL_law 443 = .ok (.aload_n 0, 1) := by decide +kernel
theorem dL_law_444 : decode cL_law 444 = .ok (.iload_n 3, 1) := by decide +kernel
theorem dL_law_445 : decode cL_law 445 = .ok (.iconst 3, 1) := by decide +kernel
theorem dL_law_446 : decode cL_law 446 = .ok (.iadd, 1) := by decide +kernel
theorem dL_law_447 : decode cL_law 447 = .ok (.iaload, 1) := by decide +kernel
theorem dL_law_448 : decode cL_law 448 = .ok (.invokevirtual 64, 3) := by decide +kernel
theorem dL_law_451 : decode cL_law 451 = .ok (.if_icmp .eq 299, 3) := by decide +kernel
theorem dL_law_454 : decode cL_law 454 = .ok (.iconst 0, 1) := by decide +kernel
theorem dL_law_455 : decode cL_law 455 = .ok (.ireturn, 1) := by decide +kernel
theorem dL_law_456 : decode cL_law 456 = .ok (.aload_n 1, 1) := by decide +kernel
theorem dL_law_457 : decode cL_law 457 = .ok (.aload_n 0, 1) := by decide +kernel
theorem dL_law_458 : decode cL_law 458 = .ok (.iload_n 3, 1) := by decide +kernel
theorem dL_law_459 : decode cL_law 459 = .ok (.iconst 1, 1) := by decide +kernel
theorem dL_law_460 : decode cL_law 460 = .ok (.iadd, 1) := by decide +kernel
theorem dL_law_461 : decode cL_law 461 = .ok (.iaload, 1) := by decide +kernel
theorem dL_law_462 : decode cL_law 462 = .ok (.aload_n 0, 1) := by decide +kernel
theorem dL_law_463 : decode cL_law 463 = .ok (.iload_n 3, 1) := by decide +kernel
theorem dL_law_464 : decode cL_law 464 = .ok (.iconst 2, 1) := by decide +kernel
theorem dL_law_465 : decode cL_law 465 = .ok (.iadd, 1) := by decide +kernel
theorem dL_law_466 : decode cL_law 466 = .ok (.iaload, 1) := by decide +kernel
theorem dL_law_467 : decode cL_law 467 = .ok (.invokevirtual 65, 3) := by decide +kernel
theorem dL_law_470 : decode cL_law 470 = .ok (.aload_n 2, 1) := by decide +kernel
theorem dL_law_471 : decode cL_law 471 = .ok (.aload_n 0, 1) := by decide +kernel
theorem dL_law_472 : decode cL_law 472 = .ok (.iload_n 3, 1) := by decide +kernel
theorem dL_law_473 : decode cL_law 473 = .ok (.iconst 1, 1) := by decide +kernel
theorem dL_law_474 : decode cL_law 474 = .ok (.iadd, 1) := by decide +kernel
theorem dL_law_475 : decode cL_law 475 = .ok (.iaload, 1) := by decide +kernel
theorem dL_law_476 : decode cL_law 476 = .ok (.aload_n 0, 1) := by decide +kernel
theorem dL_law_477 : decode cL_law 477 = .ok (.iload_n 3, 1) := by decide +kernel
theorem dL_law_478 : decode cL_law 478 = .ok (.iconst 2, 1) := by decide +kernel
theorem dL_law_479 : decode cL_law 479 = .ok (.iadd, 1) := by decide +kernel
theorem dL_law_480 : decode cL_law 480 = .ok (.iaload, 1) := by decide +kernel
theorem dL_law_481 : decode cL_law 481 = .ok (.invokevirtual 68, 3) := by decide +kernel
theorem dL_law_484 : decode cL_law 484 = .ok (.if_icmp .eq 266, 3) := by decide +kernel
theorem dL_law_487 : decode cL_law 487 = .ok (.iconst 0, 1) := by decide +kernel
theorem dL_law_488 : decode cL_law 488 = .ok (.ireturn, 1) := by decide +kernel
theorem dL_law_489 : decode cL_law 489 = .ok (.aload_n 1, 1) := by decide +kernel
theorem dL_law_490 : decode cL_law 490 = .ok (.aload_n 0, 1) := by decide +kernel
theorem dL_law_491 : decode cL_law 491 = .ok (.iload_n 3, 1) := by decide +kernel
theorem dL_law_492 : decode cL_law 492 = .ok (.iconst 1, 1) := by decide +kernel
theorem dL_law_493 : decode cL_law 493 = .ok (.iadd, 1) := by decide +kernel
theorem dL_law_494 : decode cL_law 494 = .ok (.iaload, 1) := by decide +kernel
theorem dL_law_495 : decode cL_law 495 = .ok (.invokevirtual 69, 3) := by decide +kernel
theorem dL_law_498 : decode cL_law 498 = .ok (.aload_n 2, 1) := by decide +kernel
theorem dL_law_499 : decode cL_law 499 = .ok (.aload_n 0, 1) := by decide +kernel
theorem dL_law_500 : decode cL_law 500 = .ok (.iload_n 3, 1) := by decide +kernel
theorem dL_law_501 : decode cL_law 501 = .ok (.iconst 1, 1) := by decide +kernel
theorem dL_law_502 : decode cL_law 502 = .ok (.iadd, 1) := by decide +kernel
theorem dL_law_503 : decode cL_law 503 = .ok (.iaload, 1) := by decide +kernel
theorem dL_law_504 : decode cL_law 504 = .ok (.invokevirtual 72, 3) := by decide +kernel
theorem dL_law_507 : decode cL_law 507 = .ok (.if_icmp .eq 243, 3) := by decide +kernel
theorem dL_law_510 : decode cL_law 510 = .ok (.iconst 0, 1) := by decide +kernel
theorem dL_law_511 : decode cL_law 511 = .ok (.ireturn, 1) := by decide +kernel
theorem dL_law_512 : decode cL_law 512 = .ok (.aload_n 1, 1) := by decide +kernel
theorem dL_law_513 : decode cL_law 513 = .ok (.aload_n 0, 1) := by decide +kernel
theorem dL_law_514 : decode cL_law 514 = .ok (.iload_n 3, 1) := by decide +kernel
theorem dL_law_515 : decode cL_law 515 = .ok (.iconst 1, 1) := by decide +kernel
theorem dL_law_516 : decode cL_law 516 = .ok (.iadd, 1) := by decide +kernel
theorem dL_law_517 : decode cL_law 517 = .ok (.iaload, 1) := by decide +kernel
theorem dL_law_518 : decode cL_law 518 = .ok (.invokevirtual 73, 3) := by decide +kernel
theorem dL_law_521 : decode cL_law 521 = .ok (.aload_n 2, 1) := by decide +kernel
theorem dL_law_522 : decode cL_law 522 = .ok (.aload_n 0, 1) := by decide +kernel
theorem dL_law_523 : decode cL_law 523 = .ok (.iload_n 3, 1) := by decide +kernel
theorem dL_law_524 : decode cL_law 524 = .ok (.iconst 1, 1) := by decide +kernel
theorem dL_law_525 : decode cL_law 525 = .ok (.iadd, 1) := by decide +kernel
theorem dL_law_526 : decode cL_law 526 = .ok (.iaload, 1) := by decide +kernel
theorem dL_law_527 : decode cL_law 527 = .ok (.invokevirtual 76, 3) := by decide +kernel
theorem dL_law_530 : decode cL_law 530 = .ok (.if_icmp .eq 220, 3) := by decide +kernel
theorem dL_law_533 : decode cL_law 533 = .ok (.iconst 0, 1) := by decide +kernel
theorem dL_law_534 : decode cL_law 534 = .ok (.ireturn, 1) := by decide +kernel
theorem dL_law_535 : decode cL_law 535 = .ok (.aload_n 1, 1) := by decide +kernel
theorem dL_law_536 : decode cL_law 536 = .ok (.aload_n 0, 1) := by decide +kernel
theorem dL_law_537 : decode cL_law 537 = .ok (.iload_n 3, 1) := by decide +kernel
theorem dL_law_538 : decode cL_law 538 = .ok (.iconst 1, 1) := by decide +kernel
theorem dL_law_539 : decode cL_law 539 = .ok (.iadd, 1) := by decide +kernel
theorem dL_law_540 : decode cL_law 540 = .ok (.iaload, 1) := by decide +kernel
theorem dL_law_541 : decode cL_law 541 = .ok (.aload_n 0, 1) := by decide +kernel
theorem dL_law_542 : decode cL_law 542 = .ok (.iload_n 3, 1) := by decide +kernel
theorem dL_law_543 : decode cL_law 543 = .ok (.iconst 2, 1) := by decide +kernel
theorem dL_law_544 : decode cL_law 544 = .ok (.iadd, 1) := by decide +kernel
theorem dL_law_545 : decode cL_law 545 = .ok (.iaload, 1) := by decide +kernel
theorem dL_law_546 : decode cL_law 546 = .ok (.aload_n 0, 1) := by decide +kernel
theorem dL_law_547 : decode cL_law 547 = .ok (.iload_n 3, 1) := by decide +kernel
theorem dL_law_548 : decode cL_law 548 = .ok (.iconst 3, 1) := by decide +kernel
theorem dL_law_549 : decode cL_law 549 = .ok (.iadd, 1) := by decide +kernel
theorem dL_law_550 : decode cL_law 550 = .ok (.iaload, 1) := by decide +kernel
theorem dL_law_551 : decode cL_law 551 = .ok (.aload_n 0, 1) := by decide +kernel
theorem dL_law_552 : decode cL_law 552 = .ok (.iload_n 3, 1) := by decide +kernel
theorem dL_law_553 : decode cL_law 553 = .ok (.iconst 4, 1) := by decide +kernel
theorem dL_law_554 : decode cL_law 554 = .ok (.iadd, 1) := by decide +kernel
theorem dL_law_555 : decode cL_law 555 = .ok (.iaload, 1) := by decide +kernel
theorem dL_law_556 : decode cL_law 556 = .ok (.invokevirtual 77, 3) := by decide +kernel
theorem dL_law_559 : decode cL_law 559 = .ok (.aload_n 2, 1) := by decide +kernel
theorem dL_law_560 : decode cL_law 560 = .ok (.aload_n 0, 1) := by decide +kernel
theorem dL_law_561 : decode cL_law 561 = .ok (.iload_n 3, 1) := by decide +kernel
theorem dL_law_562 : decode cL_law 562 = .ok (.iconst 1, 1) := by decide +kernel
theorem dL_law_563 : decode cL_law 563 = .ok (.iadd, 1) := by decide +kernel
theorem dL_law_564 : decode cL_law 564 = .ok (.iaload, 1) := by decide +kernel
theorem dL_law_565 : decode cL_law 565 = .ok (.aload_n 0, 1) := by decide +kernel
theorem dL_law_566 : decode cL_law 566 = .ok (.iload_n 3, 1) := by decide +kernel
theorem dL_law_567 : decode cL_law 567 = .ok (.iconst 2, 1) := by decide +kernel
theorem dL_law_568 : decode cL_law 568 = .ok (.iadd, 1) := by decide +kernel
theorem dL_law_569 : decode cL_law 569 = .ok (.iaload, 1) := by decide +kernel
theorem dL_law_570 : decode cL_law 570 = .ok (.aload_n 0, 1) := by decide +kernel
theorem dL_law_571 : decode cL_law 571 = .ok (.iload_n 3, 1) := by decide +kernel
theorem dL_law_572 : decode cL_law 572 = .ok (.iconst 3, 1) := by decide +kernel
theorem dL_law_573 : decode cL_law 573 = .ok (.iadd, 1) := by decide +kernel
theorem dL_law_574 : decode cL_law 574 = .ok (.iaload, 1) := by decide +kernel
theorem dL_law_575 : decode cL_law 575 = .ok (.aload_n 0, 1) := by decide +kernel
theorem dL_law_576 : decode cL_law 576 = .ok (.iload_n 3, 1) := by decide +kernel
theorem dL_law_577 : decode cL_law 577 = .ok (.iconst 4, 1) := by decide +kernel
theorem dL_law_578 : decode cL_law 578 = .ok (.iadd, 1) := by decide +kernel
theorem dL_law_579 : decode cL_law 579 = .ok (.iaload, 1) := by decide +kernel
theorem dL_law_580 : decode cL_law 580 = .ok (.invokevirtual 81, 3) := by decide +kernel
theorem dL_law_583 : decode cL_law 583 = .ok (.if_icmp .eq 167, 3) := by decide +kernel
theorem dL_law_586 : decode cL_law 586 = .ok (.iconst 0, 1) := by decide +kernel
theorem dL_law_587 : decode cL_law 587 = .ok (.ireturn, 1) := by decide +kernel
theorem dL_law_588 : decode cL_law 588 = .ok (.aload_n 1, 1) := by decide +kernel
theorem dL_law_589 : decode cL_law 589 = .ok (.aload_n 0, 1) := by decide +kernel
theorem dL_law_590 : decode cL_law 590 = .ok (.iload_n 3, 1) := by decide +kernel
theorem dL_law_591 : decode cL_law 591 = .ok (.iconst 1, 1) := by decide +kernel
theorem dL_law_592 : decode cL_law 592 = .ok (.iadd, 1) := by decide +kernel
theorem dL_law_593 : decode cL_law 593 = .ok (.iaload, 1) := by decide +kernel
theorem dL_law_594 : decode cL_law 594 = .ok (.aload_n 0, 1) := by decide +kernel
theorem dL_law_595 : decode cL_law 595 = .ok (.iload_n 3, 1) := by decide +kernel
theorem dL_law_596 : decode cL_law 596 = .ok (.iconst 2, 1) := by decide +kernel
theorem dL_law_597 : decode cL_law 597 = .ok (.iadd, 1) := by decide +kernel
theorem dL_law_598 : decode cL_law 598 = .ok (.iaload, 1) := by decide +kernel
theorem dL_law_599 : decode cL_law 599 = .ok (.aload_n 0, 1) := by decide +kernel
theorem dL_law_600 : decode cL_law 600 = .ok (.iload_n 3, 1) := by decide +kernel
theorem dL_law_601 : decode cL_law 601 = .ok (.iconst 3, 1) := by decide +kernel
theorem dL_law_602 : decode cL_law 602 = .ok (.iadd, 1) := by decide +kernel
theorem dL_law_603 : decode cL_law 603 = .ok (.iaload, 1) := by decide +kernel
theorem dL_law_604 : decode cL_law 604 = .ok (.invokevirtual 82, 3) := by decide +kernel
theorem dL_law_607 : decode cL_law 607 = .ok (.aload_n 2, 1) := by decide +kernel
theorem dL_law_608 : decode cL_law 608 = .ok (.aload_n 0, 1) := by decide +kernel
theorem dL_law_609 : decode cL_law 609 = .ok (.iload_n 3, 1) := by decide +kernel
theorem dL_law_610 : decode cL_law 610 = .ok (.iconst 1, 1) := by decide +kernel
theorem dL_law_611 : decode cL_law 611 = .ok (.iadd, 1) := by decide +kernel
theorem dL_law_612 : decode cL_law 612 = .ok (.iaload, 1) := by decide +kernel
theorem dL_law_613 : decode cL_law 613 = .ok (.aload_n 0, 1) := by decide +kernel
theorem dL_law_614 : decode cL_law 614 = .ok (.iload_n 3, 1) := by decide +kernel
theorem dL_law_615 : decode cL_law 615 = .ok (.iconst 2, 1) := by decide +kernel
theorem dL_law_616 : decode cL_law 616 = .ok (.iadd, 1) := by decide +kernel
theorem dL_law_617 : decode cL_law 617 = .ok (.iaload, 1) := by decide +kernel
theorem dL_law_618 : decode cL_law 618 = .ok (.aload_n 0, 1) := by decide +kernel
theorem dL_law_619 : decode cL_law 619 = .ok (.iload_n 3, 1) := by decide +kernel
theorem dL_law_620 : decode cL_law 620 = .ok (.iconst 3, 1) := by decide +kernel
theorem dL_law_621 : decode cL_law 621 = .ok (.iadd, 1) := by decide +kernel
theorem dL_law_622 : decode cL_law 622 = .ok (.iaload, 1) := by decide +kernel
theorem dL_law_623 : decode cL_law 623 = .ok (.invokevirtual 85, 3) := by decide +kernel
theorem dL_law_626 : decode cL_law 626 = .ok (.if_icmp .eq 124, 3) := by decide +kernel
theorem dL_law_629 : decode cL_law 629 = .ok (.iconst 0, 1) := by decide +kernel
theorem dL_law_630 : decode cL_law 630 = .ok (.ireturn, 1) := by decide +kernel
theorem dL_law_631 : decode cL_law 631 = .ok (.aload_n 1, 1) := by decide +kernel
theorem dL_law_632 : decode cL_law 632 = .ok (.invokevirtual 86, 3) := by decide +kernel
theorem dL_law_635 : decode cL_law 635 = .ok (.aload_n 2, 1) := by decide +kernel
theorem dL_law_636 : decode cL_law 636 = .ok (.invokevirtual 89, 3) := by decide +kernel
theorem dL_law_639 : decode cL_law 639 = .ok (.if_icmp .eq 111, 3) := by decide +kernel
theorem dL_law_642 : decode cL_law 642 = .ok (.iconst 0, 1) := by decide +kernel
theorem dL_law_643 : decode cL_law 643 = .ok (.ireturn, 1) := by decide +kernel
theorem dL_law_644 : decode cL_law 644 = .ok (.aload_n 1, 1) := by decide +kernel
theorem dL_law_645 : decode cL_law 645 = .ok (.aload_n 0, 1) := by decide +kernel
theorem dL_law_646 : decode cL_law 646 = .ok (.iload_n 3, 1) := by decide +kernel
theorem dL_law_647 : decode cL_law 647 = .ok (.iconst 1, 1) := by decide +kernel
theorem dL_law_648 : decode cL_law 648 = .ok (.iadd, 1) := by decide +kernel
theorem dL_law_649 : decode cL_law 649 = .ok (.iaload, 1) := by decide +kernel
theorem dL_law_650 : decode cL_law 650 = .ok (.aload_n 0, 1) := by decide +kernel
theorem dL_law_651 : decode cL_law 651 = .ok (.iload_n 3, 1) := by decide +kernel
theorem dL_law_652 : decode cL_law 652 = .ok (.iconst 2, 1) := by decide +kernel
theorem dL_law_653 : decode cL_law 653 = .ok (.iadd, 1) := by decide +kernel
theorem dL_law_654 : decode cL_law 654 = .ok (.iaload, 1) := by decide +kernel
theorem dL_law_655 : decode cL_law 655 = .ok (.aload_n 0, 1) := by decide +kernel
theorem dL_law_656 : decode cL_law 656 = .ok (.iload_n 3, 1) := by decide +kernel
theorem dL_law_657 : decode cL_law 657 = .ok (.iconst 3, 1) := by decide +kernel
theorem dL_law_658 : decode cL_law 658 = .ok (.iadd, 1) := by decide +kernel
theorem dL_law_659 : decode cL_law 659 = .ok (.iaload, 1) := by decide +kernel
theorem dL_law_660 : decode cL_law 660 = .ok (.invokevirtual 90, 3) := by decide +kernel
theorem dL_law_663 : decode cL_law 663 = .ok (.aload_n 2, 1) := by decide +kernel
theorem dL_law_664 : decode cL_law 664 = .ok (.aload_n 0, 1) := by decide +kernel
theorem dL_law_665 : decode cL_law 665 = .ok (.iload_n 3, 1) := by decide +kernel
theorem dL_law_666 : decode cL_law 666 = .ok (.iconst 1, 1) := by decide +kernel
theorem dL_law_667 : decode cL_law 667 = .ok (.iadd, 1) := by decide +kernel
theorem dL_law_668 : decode cL_law 668 = .ok (.iaload, 1) := by decide +kernel
theorem dL_law_669 : decode cL_law 669 = .ok (.aload_n 0, 1) := by decide +kernel
theorem dL_law_670 : decode cL_law 670 = .ok (.iload_n 3, 1) := by decide +kernel
theorem dL_law_671 : decode cL_law 671 = .ok (.iconst 2, 1) := by decide +kernel
theorem dL_law_672 : decode cL_law 672 = .ok (.iadd, 1) := by decide +kernel
theorem dL_law_673 : decode cL_law 673 = .ok (.iaload, 1) := by decide +kernel
theorem dL_law_674 : decode cL_law 674 = .ok (.aload_n 0, 1) := by decide +kernel
theorem dL_law_675 : decode cL_law 675 = .ok (.iload_n 3, 1) := by decide +kernel
theorem dL_law_676 : decode cL_law 676 = .ok (.iconst 3, 1) := by decide +kernel
theorem dL_law_677 : decode cL_law 677 = .ok (.iadd, 1) := by decide +kernel
theorem dL_law_678 : decode cL_law 678 = .ok (.iaload, 1) := by decide +kernel
theorem dL_law_679 : decode cL_law 679 = .ok (.invokevirtual 93, 3) := by decide +kernel
theorem dL_law_682 : decode cL_law 682 = .ok (.if_icmp .eq 68, 3) := by decide +kernel
theorem dL_law_685 : decode cL_law 685 = .ok (.iconst 0, 1) := by decide +kernel
theorem dL_law_686 : decode cL_law 686 = .ok (.ireturn, 1) := by decide +kernel
theorem dL_law_687 : decode cL_law 687 = .ok (.aload_n 1, 1) := by decide +kernel
theorem dL_law_688 : decode cL_law 688 = .ok (.invokevirtual 94, 3) := by decide +kernel
theorem dL_law_691 : decode cL_law 691 = .ok (.aload_n 2, 1) := by decide +kernel
theorem dL_law_692 : decode cL_law 692 = .ok (.invokevirtual 97, 3) := by decide +kernel
theorem dL_law_695 : decode cL_law 695 = .ok (.if_icmp .eq 55, 3) := by decide +kernel
theorem dL_law_698 : decode cL_law 698 = .ok (.iconst 0, 1) := by decide +kernel
theorem dL_law_699 : decode cL_law 699 = .ok (.ireturn, 1) := by decide +kernel
theorem dL_law_700 : decode cL_law 700 = .ok (.aload_n 1, 1) := by decide +kernel
theorem dL_law_701 : decode cL_law 701 = .ok (.invokevirtual 98, 3) := by decide +kernel
theorem dL_law_704 : decode cL_law 704 = .ok (.aload_n 2, 1) := by decide +kernel
theorem dL_law_705 : decode cL_law 705 = .ok (.invokevirtual 101, 3) := by decide +kernel
theorem dL_law_708 : decode cL_law 708 = .ok (.if_icmp .eq 42, 3) := by decide +kernel
theorem dL_law_711 : decode cL_law 711 = .ok (.iconst 0, 1) := by decide +kernel
theorem dL_law_712 : decode cL_law 712 = .ok (.ireturn, 1) := by decide +kernel
theorem dL_law_713 : decode cL_law 713 = .ok (.aload_n 1, 1) := by decide +kernel
theorem dL_law_714 : decode cL_law 714 = .ok (.aload_n 0, 1) := by decide +kernel
theorem dL_law_715 : decode cL_law 715 = .ok (.iload_n 3, 1) := by decide +kernel
theorem dL_law_716 : decode cL_law 716 = .ok (.iconst 1, 1) := by decide +kernel
theorem dL_law_717 : decode cL_law 717 = .ok (.iadd, 1) := by decide +kernel
theorem dL_law_718 : decode cL_law 718 = .ok (.iaload, 1) := by decide +kernel
theorem dL_law_719 : decode cL_law 719 = .ok (.invokevirtual 102, 3) := by decide +kernel
theorem dL_law_722 : decode cL_law 722 = .ok (.aload_n 2, 1) := by decide +kernel
theorem dL_law_723 : decode cL_law 723 = .ok (.aload_n 0, 1) := by decide +kernel
theorem dL_law_724 : decode cL_law 724 = .ok (.iload_n 3, 1) := by decide +kernel
theorem dL_law_725 : decode cL_law 725 = .ok (.iconst 1, 1) := by decide +kernel
theorem dL_law_726 : decode cL_law 726 = .ok (.iadd, 1) := by decide +kernel
theorem dL_law_727 : decode cL_law 727 = .ok (.iaload, 1) := by decide +kernel
theorem dL_law_728 : decode cL_law 728 = .ok (.invokevirtual 105, 3) := by decide +kernel
theorem dL_law_731 : decode cL_law 731 = .ok (.if_icmp .eq 19, 3) := by decide +kernel
theorem dL_law_734 : decode cL_law 734 = .ok (.iconst 0, 1) := by decide +kernel
theorem dL_law_735 : decode cL_law 735 = .ok (.ireturn, 1) := by decide +kernel
theorem dL_law_736 : decode cL_law 736 = .ok (.aload_n 1, 1) := by decide +kernel
theorem dL_law_737 : decode cL_law 737 = .ok (.invokevirtual 106, 3) := by decide +kernel
theorem dL_law_740 : decode cL_law 740 = .ok (.aload_n 2, 1) := by decide +kernel
theorem dL_law_741 : decode cL_law 741 = .ok (.invokevirtual 110, 3) := by decide +kernel
theorem dL_law_744 : decode cL_law 744 = .ok (.lcmp, 1) := by decide +kernel
theorem dL_law_745 : decode cL_law 745 = .ok (.ifCond .eq 5, 3) := by decide +kernel
theorem dL_law_748 : decode cL_law 748 = .ok (.iconst 0, 1) := by decide +kernel
theorem dL_law_749 : decode cL_law 749 = .ok (.ireturn, 1) := by decide +kernel
theorem dL_law_750 : decode cL_law 750 = .ok (.iinc 3 5, 3) := by decide +kernel
theorem dL_law_753 : decode cL_law 753 = .ok (.goto (-735), 3) := by decide +kernel
theorem dL_law_756 : decode cL_law 756 = .ok (.iconst 1, 1) := by decide +kernel
theorem dL_law_757 : decode cL_law 757 = .ok (.ireturn, 1) := by decide +kernel
