theorem dX6_temperOf_52 : decode cX6_temperOf 52 = .ok (.imul, 1) := by decide +kernel
theorem dX6_temperOf_53 : decode cX6_temperOf 53 = .ok (.iadd, 1) := by decide +kernel
theorem dX6_temperOf_54 : decode cX6_temperOf 54 = .ok (.bipush 9, 2) := by decide +kernel
theorem dX6_temperOf_56 : decode cX6_temperOf 56 = .ok (.if_icmp .ge 11, 3) := by decide +kernel
theorem dX6_temperOf_59 : decode cX6_temperOf 59 = .ok (.iload_n 1, 1) := by decide +kernel
theorem dX6_temperOf_60 : decode cX6_temperOf 60 = .ok (.iconst 2, 1) := by decide +kernel
theorem dX6_temperOf_61 : decode cX6_temperOf 61 = .ok (.iload_n 2, 1) := by decide +kernel
theorem dX6_temperOf_62 : decode cX6_temperOf 62 = .ok (.imul, 1) := by decide +kernel
theorem dX6_temperOf_63 : decode cX6_temperOf 63 = .ok (.iadd, 1) := by decide +kernel
theorem dX6_temperOf_64 : decode cX6_temperOf 64 = .ok (.goto 5, 3) := by decide +kernel
theorem dX6_temperOf_67 : decode cX6_temperOf 67 = .ok (.bipush 9, 2) := by decide +kernel
theorem dX6_temperOf_69 : decode cX6_temperOf 69 = .ok (.ireturn, 1) := by decide +kernel
theorem dX6_temperOf_70 : decode cX6_temperOf 70 = .ok (.iload_n 2, 1) := by decide +kernel
theorem dX6_temperOf_71 : decode cX6_temperOf 71 = .ok (.iconst 2, 1) := by decide +kernel
theorem dX6_temperOf_72 : decode cX6_temperOf 72 = .ok (.irem, 1) := by decide +kernel
theorem dX6_temperOf_73 : decode cX6_temperOf 73 = .ok (.ifCond .eq 7, 3) := by decide +kernel
theorem dX6_temperOf_76 : decode cX6_temperOf 76 = .ok (.iload_n 1, 1) := by decide +kernel
theorem dX6_temperOf_77 : decode cX6_temperOf 77 = .ok (.goto 4, 3) := by decide +kernel
theorem dX6_temperOf_80 : decode cX6_temperOf 80 = .ok (.iconst 0, 1) := by decide +kernel
theorem dX6_temperOf_81 : decode cX6_temperOf 81 = .ok (.ireturn, 1) := by decide +kernel
theorem dX6_temperOf_82 : decode cX6_temperOf 82 = .ok (.iload_n 1, 1) := by decide +kernel
theorem dX6_temperOf_83 : decode cX6_temperOf 83 = .ok (.iload_n 2, 1) := by decide +kernel
theorem dX6_temperOf_84 : decode cX6_temperOf 84 = .ok (.if_icmp .le 9, 3) := by decide +kernel
theorem dX6_temperOf_87 : decode cX6_temperOf 87 = .ok (.iload_n 1, 1) := by decide +kernel
theorem dX6_temperOf_88 : decode cX6_temperOf 88 = .ok (.iload_n 2, 1) := by decide +kernel
theorem dX6_temperOf_89 : decode cX6_temperOf 89 = .ok (.isub, 1) := by decide +kernel
theorem dX6_temperOf_90 : decode cX6_temperOf 90 = .ok (.goto 4, 3) := by decide +kernel
theorem dX6_temperOf_93 : decode cX6_temperOf 93 = .ok (.iconst 0, 1) := by decide +kernel
theorem dX6_temperOf_94 : decode cX6_temperOf 94 = .ok (.ireturn, 1) := by decide +kernel
theorem dX6_temperOf_95 : decode cX6_temperOf 95 = .ok (.iload_n 1, 1) := by decide +kernel
theorem dX6_temperOf_96 : decode cX6_temperOf 96 = .ok (.ireturn, 1) := by decide +kernel
theorem dX6_doing_0 : decode cX6_doing 0 = .ok (.iload_n 0, 1) := by decide +kernel
theorem dX6_doing_1 : decode cX6_doing 1 = .ok (.bipush 8, 2) := by decide +kernel
theorem dX6_doing_3 : decode cX6_doing 3 = .ok (.if_icmp .gt 5, 3) := by decide +kernel
theorem dX6_doing_6 : decode cX6_doing 6 = .ok (.iconst 0, 1) := by decide +kernel
theorem dX6_doing_7 : decode cX6_doing 7 = .ok (.ireturn, 1) := by decide +kernel
theorem dX6_doing_8 : decode cX6_doing 8 = .ok (.iload_n 0, 1) := by decide +kernel
theorem dX6_doing_9 : decode cX6_doing 9 = .ok (.bipush 15, 2) := by decide +kernel
theorem dX6_doing_11 : decode cX6_doing 11 = .ok (.if_icmp .lt 7, 3) := by decide +kernel
theorem dX6_doing_14 : decode cX6_doing 14 = .ok (.iconst 1, 1) := by decide +kernel
theorem dX6_doing_15 : decode cX6_doing 15 = .ok (.goto 4, 3) := by decide +kernel
theorem dX6_doing_18 : decode cX6_doing 18 = .ok (.iconst 2, 1) := by decide +kernel
theorem dX6_doing_19 : decode cX6_doing 19 = .ok (.ireturn, 1) := by decide +kernel
theorem dJ6_bitCount_0f7a4_0 : decode cJ6_bitCount_0f7a4 0 = .ok (.iload_n 0, 1) := by decide +kernel
theorem dJ6_bitCount_0f7a4_1 : decode cJ6_bitCount_0f7a4 1 = .ok (.iload_n 0, 1) := by decide +kernel
theorem dJ6_bitCount_0f7a4_2 : decode cJ6_bitCount_0f7a4 2 = .ok (.iconst 1, 1) := by decide +kernel
theorem dJ6_bitCount_0f7a4_3 : decode cJ6_bitCount_0f7a4 3 = .ok (.iushr, 1) := by decide +kernel
theorem dJ6_bitCount_0f7a4_4 : decode cJ6_bitCount_0f7a4 4 = .ok (.ldc_w 265, 3) := by decide +kernel
theorem dJ6_bitCount_0f7a4_7 : decode cJ6_bitCount_0f7a4 7 = .ok (.iand, 1) := by decide +kernel
theorem dJ6_bitCount_0f7a4_8 : decode cJ6_bitCount_0f7a4 8 = .ok (.isub, 1) := by decide +kernel
theorem dJ6_bitCount_0f7a4_9 : decode cJ6_bitCount_0f7a4 9 = .ok (.istore_n 0, 1) := by decide +kernel
theorem dJ6_bitCount_0f7a4_10 : decode cJ6_bitCount_0f7a4 10 = .ok (.iload_n 0, 1) := by decide +kernel
theorem dJ6_bitCount_0f7a4_11 : decode cJ6_bitCount_0f7a4 11 = .ok (.ldc_w 266, 3) := by decide +kernel
theorem dJ6_bitCount_0f7a4_14 : decode cJ6_bitCount_0f7a4 14 = .ok (.iand, 1) := by decide +kernel
theorem dJ6_bitCount_0f7a4_15 : decode cJ6_bitCount_0f7a4 15 = .ok (.iload_n 0, 1) := by decide +kernel
theorem dJ6_bitCount_0f7a4_16 : decode cJ6_bitCount_0f7a4 16 = .ok (.iconst 2, 1) := by decide +kernel
theorem dJ6_bitCount_0f7a4_17 : decode cJ6_bitCount_0f7a4 17 = .ok (.iushr, 1) := by decide +kernel
theorem dJ6_bitCount_0f7a4_18 : decode cJ6_bitCount_0f7a4 18 = .ok (.ldc_w 266, 3) := by decide +kernel
theorem dJ6_bitCount_0f7a4_21 : decode cJ6_bitCount_0f7a4 21 = .ok (.iand, 1) := by decide +kernel
theorem dJ6_bitCount_0f7a4_22 : decode cJ6_bitCount_0f7a4 22 = .ok (.iadd, 1) := by decide +kernel
theorem dJ6_bitCount_0f7a4_23 : decode cJ6_bitCount_0f7a4 23 = .ok (.istore_n 0, 1) := by decide +kernel
theorem dJ6_bitCount_0f7a4_24 : decode cJ6_bitCount_0f7a4 24 = .ok (.iload_n 0, 1) := by decide +kernel
theorem dJ6_bitCount_0f7a4_25 : decode cJ6_bitCount_0f7a4 25 = .ok (.iload_n 0, 1) := by decide +kernel
theorem dJ6_bitCount_0f7a4_26 : decode cJ6_bitCount_0f7a4 26 = .ok (.iconst 4, 1) := by decide +kernel
theorem dJ6_bitCount_0f7a4_27 : decode cJ6_bitCount_0f7a4 27 = .ok (.iushr, 1) := by decide +kernel
theorem dJ6_bitCount_0f7a4_28 : decode cJ6_bitCount_0f7a4 28 = .ok (.iadd, 1) := by decide +kernel
theorem dJ6_bitCount_0f7a4_29 : decode cJ6_bitCount_0f7a4 29 = .ok (.ldc_w 267, 3) := by decide +kernel
theorem dJ6_bitCount_0f7a4_32 : decode cJ6_bitCount_0f7a4 32 = .ok (.iand, 1) := by decide +kernel
theorem dJ6_bitCount_0f7a4_33 : decode cJ6_bitCount_0f7a4 33 = .ok (.istore_n 0, 1) := by decide +kernel
theorem dJ6_bitCount_0f7a4_34 : decode cJ6_bitCount_0f7a4 34 = .ok (.iload_n 0, 1) := by decide +kernel
theorem dJ6_bitCount_0f7a4_35 : decode cJ6_bitCount_0f7a4 35 = .ok (.iload_n 0, 1) := by decide +kernel
theorem dJ6_bitCount_0f7a4_36 : decode cJ6_bitCount_0f7a4 36 = .ok (.bipush 8, 2) := by decide +kernel
theorem dJ6_bitCount_0f7a4_38 : decode cJ6_bitCount_0f7a4 38 = .ok (.iushr, 1) := by decide +kernel
theorem dJ6_bitCount_0f7a4_39 : decode cJ6_bitCount_0f7a4 39 = .ok (.iadd, 1) := by decide +kernel
theorem dJ6_bitCount_0f7a4_40 : decode cJ6_bitCount_0f7a4 40 = .ok (.istore_n 0, 1) := by decide +kernel
theorem dJ6_bitCount_0f7a4_41 : decode cJ6_bitCount_0f7a4 41 = .ok (.iload_n 0, 1) := by decide +kernel
theorem dJ6_bitCount_0f7a4_42 : decode cJ6_bitCount_0f7a4 42 = .ok (.iload_n 0, 1) := by decide +kernel
theorem dJ6_bitCount_0f7a4_43 : decode cJ6_bitCount_0f7a4 43 = .ok (.bipush 16, 2) := by decide +kernel
theorem dJ6_bitCount_0f7a4_45 : decode cJ6_bitCount_0f7a4 45 = .ok (.iushr, 1) := by decide +kernel
theorem dJ6_bitCount_0f7a4_46 : decode cJ6_bitCount_0f7a4 46 = .ok (.iadd, 1) := by decide +kernel
theorem dJ6_bitCount_0f7a4_47 : decode cJ6_bitCount_0f7a4 47 = .ok (.istore_n 0, 1) := by decide +kernel
theorem dJ6_bitCount_0f7a4_48 : decode cJ6_bitCount_0f7a4 48 = .ok (.iload_n 0, 1) := by decide +kernel
theorem dJ6_bitCount_0f7a4_49 : decode cJ6_bitCount_0f7a4 49 = .ok (.bipush 63, 2) := by decide +kernel
theorem dJ6_bitCount_0f7a4_51 : decode cJ6_bitCount_0f7a4 51 = .ok (.iand, 1) := by decide +kernel
theorem dJ6_bitCount_0f7a4_52 : decode cJ6_bitCount_0f7a4 52 = .ok (.ireturn, 1) := by decide +kernel
theorem dJ9_abs_0f7a4_0 : decode cJ9_abs_0f7a4 0 = .ok (.iload_n 0, 1) := by decide +kernel
theorem dJ9_abs_0f7a4_1 : decode cJ9_abs_0f7a4 1 = .ok (.ifCond .ge 8, 3) := by decide +kernel
theorem dJ9_abs_0f7a4_4 : decode cJ9_abs_0f7a4 4 = .ok (.iload_n 0, 1) := by decide +kernel
theorem dJ9_abs_0f7a4_5 : decode cJ9_abs_0f7a4 5 = .ok (.ineg, 1) := by decide +kernel
theorem dJ9_abs_0f7a4_6 : decode cJ9_abs_0f7a4 6 = .ok (.goto 4, 3) := by decide +kernel
theorem dJ9_abs_0f7a4_9 : decode cJ9_abs_0f7a4 9 = .ok (.iload_n 0, 1) := by decide +kernel
theorem dJ9_abs_0f7a4_10 : decode cJ9_abs_0f7a4 10 = .ok (.ireturn, 1) := by decide +kernel
theorem dJ9_max_7cf53_0 : decode cJ9_max_7cf53 0 = .ok (.iload_n 0, 1) := by decide +kernel
theorem dJ9_max_7cf53_1 : decode cJ9_max_7cf53 1 = .ok (.iload_n 1, 1) := by decide +kernel
theorem dJ9_max_7cf53_2 : decode cJ9_max_7cf53 2 = .ok (.if_icmp .lt 7, 3) := by decide +kernel
theorem dJ9_max_7cf53_5 : decode cJ9_max_7cf53 5 = .ok (.iload_n 0, 1) := by decide +kernel
theorem dJ9_max_7cf53_6 : decode cJ9_max_7cf53 6 = .ok (.goto 4, 3) := by decide +kernel
theorem dJ9_max_7cf53_9 : decode cJ9_max_7cf53 9 = .ok (.iload_n 1, 1) := by decide +kernel
theorem dJ9_max_7cf53_10 : decode cJ9_max_7cf53 10 = .ok (.ireturn, 1) := by decide +kernel
theorem dJ9_min_7cf53_0 : decode cJ9_min_7cf53 0 = .ok (.iload_n 0, 1) := by decide +kernel
theorem dJ9_min_7cf53_1 : decode cJ9_min_7cf53 1 = .ok (.iload_n 1, 1) := by decide +kernel
theorem dJ9_min_7cf53_2 : decode cJ9_min_7cf53 2 = .ok (.if_icmp .gt 7, 3) := by decide +kernel
theorem dJ9_min_7cf53_5 : decode cJ9_min_7cf53 5 = .ok (.iload_n 0, 1) := by decide +kernel
theorem dJ9_min_7cf53_6 : decode cJ9_min_7cf53 6 = .ok (.goto 4, 3) := by decide +kernel
theorem dJ9_min_7cf53_9 : decode cJ9_min_7cf53 9 = .ok (.iload_n 1, 1) := by decide +kernel
theorem dJ9_min_7cf53_10 : decode cJ9_min_7cf53 10 = .ok (.ireturn, 1) := by decide +kernel
theorem dJ7_fill_53178_0 : decode cJ7_fill_53178 0 = .ok (.iconst 0, 1) := by decide +kernel
theorem dJ7_fill_53178_1 : decode cJ7_fill_53178 1 = .ok (.istore_n 2, 1) := by decide +kernel
theorem dJ7_fill_53178_2 : decode cJ7_fill_53178 2 = .ok (.aload_n 0, 1) := by decide +kernel
theorem dJ7_fill_53178_3 : decode cJ7_fill_53178 3 = .ok (.arraylength, 1) := by decide +kernel
theorem dJ7_fill_53178_4 : decode cJ7_fill_53178 4 = .ok (.istore_n 3, 1) := by decide +kernel
theorem dJ7_fill_53178_5 : decode cJ7_fill_53178 5 = .ok (.iload_n 2, 1) := by decide +kernel
theorem dJ7_fill_53178_6 : decode cJ7_fill_53178 6 = .ok (.iload_n 3, 1) := by decide +kernel
theorem dJ7_fill_53178_7 : decode cJ7_fill_53178 7 = .ok (.if_icmp .ge 13, 3) := by decide +kernel
theorem dJ7_fill_53178_10 : decode cJ7_fill_53178 10 = .ok (.aload_n 0, 1) := by decide +kernel
theorem dJ7_fill_53178_11 : decode cJ7_fill_53178 11 = .ok (.iload_n 2, 1) := by decide +kernel
theorem dJ7_fill_53178_12 : decode cJ7_fill_53178 12 = .ok (.iload_n 1, 1) := by decide +kernel
theorem dJ7_fill_53178_13 : decode cJ7_fill_53178 13 = .ok (.iastore, 1) := by decide +kernel
theorem dJ7_fill_53178_14 : decode cJ7_fill_53178 14 = .ok (.iinc 2 1, 3) := by decide +kernel
theorem dJ7_fill_53178_17 : decode cJ7_fill_53178 17 = .ok (.goto (-12), 3) := by decide +kernel
theorem dJ7_fill_53178_20 : decode cJ7_fill_53178 20 = .ok (.return_, 1) := by decide +kernel
theorem dL_cell_0 : decode cL_cell 0 = .ok (.iload_n 1, 1) := by decide +kernel
theorem dL_cell_1 : decode cL_cell 1 = .ok (.aload_n 0, 1) := by decide +kernel
theorem dL_cell_2 : decode cL_cell 2 = .ok (.arraylength, 1) := by decide +kernel
theorem dL_cell_3 : decode cL_cell 3 = .ok (.if_icmp .ge 9, 3) := by decide +kernel
theorem dL_cell_6 : decode cL_cell 6 = .ok (.aload_n 0, 1) := by decide +kernel
theorem dL_cell_7 : decode cL_cell 7 = .ok (.iload_n 1, 1) := by decide +kernel
theorem dL_cell_8 : decode cL_cell 8 = .ok (.iaload, 1) := by decide +kernel
theorem dL_cell_9 : decode cL_cell 9 = .ok (.goto 11, 3) := by decide +kernel
theorem dL_cell_12 : decode cL_cell 12 = .ok (.sipush 7919, 3) := by decide +kernel
theorem dL_cell_15 : decode cL_cell 15 = .ok (.iload_n 1, 1) := by decide +kernel
theorem dL_cell_16 : decode cL_cell 16 = .ok (.imul, 1) := by decide +kernel
theorem dL_cell_17 : decode cL_cell 17 = .ok (.bipush 13, 2) := by decide +kernel
theorem dL_cell_19 : decode cL_cell 19 = .ok (.iadd, 1) := by decide +kernel
theorem dL_cell_20 : decode cL_cell 20 = .ok (.ldc 7, 2) := by decide +kernel
theorem dL_cell_22 : decode cL_cell 22 = .ok (.iand, 1) := by decide +kernel
theorem dL_cell_23 : decode cL_cell 23 = .ok (.ireturn, 1) := by decide +kernel
theorem dL_put_0 : decode cL_put 0 = .ok (.aload_n 0, 1) := by decide +kernel
theorem dL_put_1 : decode cL_put 1 = .ok (.iload_n 1, 1) := by decide +kernel
theorem dL_put_2 : decode cL_put 2 = .ok (.invokevirtual 8, 3) := by decide +kernel
theorem dL_put_5 : decode cL_put 5 = .ok (.ifCond .le 7, 3) := by decide +kernel
theorem dL_put_8 : decode cL_put 8 = .ok (.iconst 1, 1) := by decide +kernel
theorem dL_put_9 : decode cL_put 9 = .ok (.goto 4, 3) := by decide +kernel
theorem dL_put_12 : decode cL_put 12 = .ok (.iconst 0, 1) := by decide +kernel
theorem dL_put_13 : decode cL_put 13 = .ok (.ireturn, 1) := by decide +kernel
theorem dL_shop_0 : decode cL_shop 0 = .ok (.iconst 1, 1) := by decide +kernel
theorem dL_shop_1 : decode cL_shop 1 = .ok (.istore 4, 2) := by decide +kernel
theorem dL_shop_3 : decode cL_shop 3 = .ok (.aload_n 3, 1) := by decide +kernel
theorem dL_shop_4 : decode cL_shop 4 = .ok (.iconst 0, 1) := by decide +kernel
theorem dL_shop_5 : decode cL_shop 5 = .ok (.iconst 2, 1) := by decide +kernel
theorem dL_shop_6 : decode cL_shop 6 = .ok (.iload_n 1, 1) := by decide +kernel
theorem dL_shop_7 : decode cL_shop 7 = .ok (.iconst 5, 1) := by decide +kernel
theorem dL_shop_8 : decode cL_shop 8 = .ok (.irem, 1) := by decide +kernel
theorem dL_shop_9 : decode cL_shop 9 = .ok (.iadd, 1) := by decide +kernel
theorem dL_shop_10 : decode cL_shop 10 = .ok (.iastore, 1) := by decide +kernel
theorem dL_shop_11 : decode cL_shop 11 = .ok (.aload_n 3, 1) := by decide +kernel
theorem dL_shop_12 : decode cL_shop 12 = .ok (.iconst 1, 1) := by decide +kernel
theorem dL_shop_13 : decode cL_shop 13 = .ok (.iconst 1, 1) := by decide +kernel
theorem dL_shop_14 : decode cL_shop 14 = .ok (.iload_n 2, 1) := by decide +kernel
theorem dL_shop_15 : decode cL_shop 15 = .ok (.iconst 3, 1) := by decide +kernel
theorem dL_shop_16 : decode cL_shop 16 = .ok (.irem, 1) := by decide +kernel
theorem dL_shop_17 : decode cL_shop 17 = .ok (.iadd, 1) := by decide +kernel
theorem dL_shop_18 : decode cL_shop 18 = .ok (.iastore, 1) := by decide +kernel
theorem dL_shop_19 : decode cL_shop 19 = .ok (.aload_n 3, 1) := by decide +kernel
theorem dL_shop_20 : decode cL_shop 20 = .ok (.iconst 2, 1) := by decide +kernel
theorem dL_shop_21 : decode cL_shop 21 = .ok (.iconst 0, 1) := by decide +kernel
theorem dL_shop_22 : decode cL_shop 22 = .ok (.iastore, 1) := by decide +kernel
theorem dL_shop_23 : decode cL_shop 23 = .ok (.iconst 0, 1) := by decide +kernel
theorem dL_shop_24 : decode cL_shop 24 = .ok (.istore 5, 2) := by decide +kernel
theorem dL_shop_26 : decode cL_shop 26 = .ok (.iload 5, 2) := by decide +kernel
theorem dL_shop_28 : decode cL_shop 28 = .ok (.aload_n 3, 1) := by decide +kernel
theorem dL_shop_29 : decode cL_shop 29 = .ok (.iconst 0, 1) := by decide +kernel
theorem dL_shop_30 : decode cL_shop 30 = .ok (.iaload, 1) := by decide +kernel
theorem dL_shop_31 : decode cL_shop 31 = .ok (.if_icmp .ge 174, 3) := by decide +kernel
theorem dL_shop_34 : decode cL_shop 34 = .ok (.bipush 9, 2) := by decide +kernel
theorem dL_shop_36 : decode cL_shop 36 = .ok (.iconst 5, 1) := by decide +kernel
theorem dL_shop_37 : decode cL_shop 37 = .ok (.iload 5, 2) := by decide +kernel
theorem dL_shop_39 : decode cL_shop 39 = .ok (.imul, 1) := by decide +kernel
theorem dL_shop_40 : decode cL_shop 40 = .ok (.iadd, 1) := by decide +kernel
theorem dL_shop_41 : decode cL_shop 41 = .ok (.istore 6, 2) := by decide +kernel
theorem dL_shop_43 : decode cL_shop 43 = .ok (.iload_n 1, 1) := by decide +kernel
theorem dL_shop_44 : decode cL_shop 44 = .ok (.iconst 3, 1) := by decide +kernel
theorem dL_shop_45 : decode cL_shop 45 = .ok (.iconst 3, 1) := by decide +kernel
theorem dL_shop_46 : decode cL_shop 46 = .ok (.iload 5, 2) := by decide +kernel
theorem dL_shop_48 : decode cL_shop 48 = .ok (.imul, 1) := by decide +kernel
theorem dL_shop_49 : decode cL_shop 49 = .ok (.iadd, 1) := by decide +kernel
theorem dL_shop_50 : decode cL_shop 50 = .ok (.ishr, 1) := by decide +kernel
theorem dL_shop_51 : decode cL_shop 51 = .ok (.bipush 7, 2) := by decide +kernel
theorem dL_shop_53 : decode cL_shop 53 = .ok (.iand, 1) := by decide +kernel
theorem dL_shop_54 : decode cL_shop 54 = .ok (.iconst 5, 1) := by decide +kernel
theorem dL_shop_55 : decode cL_shop 55 = .ok (.irem, 1) := by decide +kernel
theorem dL_shop_56 : decode cL_shop 56 = .ok (.istore 7, 2) := by decide +kernel
theorem dL_shop_58 : decode cL_shop 58 = .ok (.aload_n 3, 1) := by decide +kernel
theorem dL_shop_59 : decode cL_shop 59 = .ok (.iload 6, 2) := by decide +kernel
theorem dL_shop_61 : decode cL_shop 61 = .ok (.iload 7, 2) := by decide +kernel
theorem dL_shop_63 : decode cL_shop 63 = .ok (.iastore, 1) := by decide +kernel
theorem dL_shop_64 : decode cL_shop 64 = .ok (.aload_n 3, 1) := by decide +kernel
theorem dL_shop_65 : decode cL_shop 65 = .ok (.iload 6, 2) := by decide +kernel
theorem dL_shop_67 : decode cL_shop 67 = .ok (.iconst 1, 1) := by decide +kernel
theorem dL_shop_68 : decode cL_shop 68 = .ok (.iadd, 1) := by decide +kernel
theorem dL_shop_69 : decode cL_shop 69 = .ok (.iload_n 2, 1) := by decide +kernel
theorem dL_shop_70 : decode cL_shop 70 = .ok (.iconst 2, 1) := by decide +kernel
theorem dL_shop_71 : decode cL_shop 71 = .ok (.iconst 3, 1) := by decide +kernel
theorem dL_shop_72 : decode cL_shop 72 = .ok (.iload 5, 2) := by decide +kernel
theorem dL_shop_74 : decode cL_shop 74 = .ok (.imul, 1) := by decide +kernel
theorem dL_shop_75 : decode cL_shop 75 = .ok (.iadd, 1) := by decide +kernel
theorem dL_shop_76 : decode cL_shop 76 = .ok (.ishr, 1) := by decide +kernel
theorem dL_shop_77 : decode cL_shop 77 = .ok (.bipush 15, 2) := by decide +kernel
theorem dL_shop_79 : decode cL_shop 79 = .ok (.iand, 1) := by decide +kernel
theorem dL_shop_80 : decode cL_shop 80 = .ok (.bipush 10, 2) := by decide +kernel
theorem dL_shop_82 : decode cL_shop 82 = .ok (.irem, 1) := by decide +kernel
theorem dL_shop_83 : decode cL_shop 83 = .ok (.iastore, 1) := by decide +kernel
theorem dL_shop_84 : decode cL_shop 84 = .ok (.aload_n 3, 1) := by decide +kernel
theorem dL_shop_85 : decode cL_shop 85 = .ok (.iload 6, 2) := by decide +kernel
theorem dL_shop_87 : decode cL_shop 87 = .ok (.iconst 2, 1) := by decide +kernel
theorem dL_shop_88 : decode cL_shop 88 = .ok (.iadd, 1) := by decide +kernel
theorem dL_shop_89 : decode cL_shop 89 = .ok (.iconst 0, 1) := by decide +kernel
theorem dL_shop_90 : decode cL_shop 90 = .ok (.iastore, 1) := by decide +kernel
theorem dL_shop_91 : decode cL_shop 91 = .ok (.aload_n 3, 1) := by decide +kernel
theorem dL_shop_92 : decode cL_shop 92 = .ok (.iload 6, 2) := by decide +kernel
theorem dL_shop_94 : decode cL_shop 94 = .ok (.iconst 3, 1) := by decide +kernel
theorem dL_shop_95 : decode cL_shop 95 = .ok (.iadd, 1) := by decide +kernel
theorem dL_shop_96 : decode cL_shop 96 = .ok (.iconst (-1), 1) := by decide +kernel
theorem dL_shop_97 : decode cL_shop 97 = .ok (.iastore, 1) := by decide +kernel
theorem dL_shop_98 : decode cL_shop 98 = .ok (.aload_n 3, 1) := by decide +kernel
theorem dL_shop_99 : decode cL_shop 99 = .ok (.iload 6, 2) := by decide +kernel
theorem dL_shop_101 : decode cL_shop 101 = .ok (.iconst 4, 1) := by decide +kernel
theorem dL_shop_102 : decode cL_shop 102 = .ok (.iadd, 1) := by decide +kernel
theorem dL_shop_103 : decode cL_shop 103 = .ok (.iconst (-1), 1) := by decide +kernel
theorem dL_shop_104 : decode cL_shop 104 = .ok (.iastore, 1) := by decide +kernel
theorem dL_shop_105 : decode cL_shop 105 = .ok (.iload 4, 2) := by decide +kernel
theorem dL_shop_107 : decode cL_shop 107 = .ok (.ifCond .eq 89, 3) := by decide +kernel
theorem dL_shop_110 : decode cL_shop 110 = .ok (.iload 5, 2) := by decide +kernel
theorem dL_shop_112 : decode cL_shop 112 = .ok (.ifCond .eq 12, 3) := by decide +kernel
theorem dL_shop_115 : decode cL_shop 115 = .ok (.aload_n 0, 1) := by decide +kernel
theorem dL_shop_116 : decode cL_shop 116 = .ok (.bipush 44, 2) := by decide +kernel
theorem dL_shop_118 : decode cL_shop 118 = .ok (.invokestatic 14, 3) := by decide +kernel
theorem dL_shop_121 : decode cL_shop 121 = .ok (.ifCond .eq 75, 3) := by decide +kernel
theorem dL_shop_124 : decode cL_shop 124 = .ok (.aload_n 0, 1) := by decide +kernel
theorem dL_shop_125 : decode cL_shop 125 = .ok (.iload 7, 2) := by decide +kernel
theorem dL_shop_127 : decode cL_shop 127 = .ok (.ifCond .ne 8, 3) := by decide +kernel
theorem dL_shop_130 : decode cL_shop 130 = .ok (.bipush 103, 2) := by decide +kernel
theorem dL_shop_132 : decode cL_shop 132 = .ok (.goto 38, 3) := by decide +kernel
theorem dL_shop_135 : decode cL_shop 135 = .ok (.iload 7, 2) := by decide +kernel
theorem dL_shop_137 : decode cL_shop 137 = .ok (.iconst 1, 1) := by decide +kernel
theorem dL_shop_138 : decode cL_shop 138 = .ok (.if_icmp .ne 8, 3) := by decide +kernel
theorem dL_shop_141 : decode cL_shop 141 = .ok (.bipush 107, 2) := by decide +kernel
theorem dL_shop_143 : decode cL_shop 143 = .ok (.goto 27, 3) := by decide +kernel
theorem dL_shop_146 : decode cL_shop 146 = .ok (.iload 7, 2) := by decide +kernel
theorem dL_shop_148 : decode cL_shop 148 = .ok (.iconst 2, 1) := by decide +kernel
theorem dL_shop_149 : decode cL_shop 149 = .ok (.if_icmp .ne 8, 3) := by decide +kernel
theorem dL_shop_152 : decode cL_shop 152 = .ok (.bipush 100, 2) := by decide +kernel
theorem dL_shop_154 : decode cL_shop 154 = .ok (.goto 16, 3) := by decide +kernel
theorem dL_shop_157 : decode cL_shop 157 = .ok (.iload 7, 2) := by decide +kernel
theorem dL_shop_159 : decode cL_shop 159 = .ok (.iconst 3, 1) := by decide +kernel
theorem dL_shop_160 : decode cL_shop 160 = .ok (.if_icmp .ne 8, 3) := by decide +kernel
theorem dL_shop_163 : decode cL_shop 163 = .ok (.bipush 111, 2) := by decide +kernel
theorem dL_shop_165 : decode cL_shop 165 = .ok (.goto 5, 3) := by decide +kernel
theorem dL_shop_168 : decode cL_shop 168 = .ok (.bipush 108, 2) := by decide +kernel
theorem dL_shop_170 : decode cL_shop 170 = .ok (.invokestatic 14, 3) := by decide +kernel
theorem dL_shop_173 : decode cL_shop 173 = .ok (.ifCond .eq 23, 3) := by decide +kernel
theorem dL_shop_176 : decode cL_shop 176 = .ok (.aload_n 0, 1) := by decide +kernel
theorem dL_shop_177 : decode cL_shop 177 = .ok (.bipush 48, 2) := by decide +kernel
theorem dL_shop_179 : decode cL_shop 179 = .ok (.aload_n 3, 1) := by decide +kernel
theorem dL_shop_180 : decode cL_shop 180 = .ok (.iload 6, 2) := by decide +kernel
theorem dL_shop_182 : decode cL_shop 182 = .ok (.iconst 1, 1) := by decide +kernel
theorem dL_shop_183 : decode cL_shop 183 = .ok (.iadd, 1) := by decide +kernel
theorem dL_shop_184 : decode cL_shop 184 = .ok (.iaload, 1) := by decide +kernel
theorem dL_shop_185 : decode cL_shop 185 = .ok (.iadd, 1) := by decide +kernel
theorem dL_shop_186 : decode cL_shop 186 = .ok (.invokestatic 14, 3) := by decide +kernel
theorem dL_shop_189 : decode cL_shop 189 = .ok (.ifCond .eq 7, 3) := by decide +kernel
theorem dL_shop_192 : decode cL_shop 192 = .ok (.iconst 1, 1) := by decide +kernel
theorem dL_shop_193 : decode cL_shop 193 = .ok (.goto 4, 3) := by decide +kernel
theorem dL_shop_196 : decode cL_shop 196 = .ok (.iconst 0, 1) := by decide +kernel
theorem dL_shop_197 : decode cL_shop 197 = .ok (.istore 4, 2) := by decide +kernel
theorem dL_shop_199 : decode cL_shop 199 = .ok (.iinc 5 1, 3) := by decide +kernel
theorem dL_shop_202 : decode cL_shop 202 = .ok (.goto (-176), 3) := by decide +kernel
theorem dL_shop_205 : decode cL_shop 205 = .ok (.iload 4, 2) := by decide +kernel
theorem dL_shop_207 : decode cL_shop 207 = .ok (.ifCond .eq 16, 3) := by decide +kernel
theorem dL_shop_210 : decode cL_shop 210 = .ok (.aload_n 0, 1) := by decide +kernel
theorem dL_shop_211 : decode cL_shop 211 = .ok (.bipush 59, 2) := by decide +kernel
theorem dL_shop_213 : decode cL_shop 213 = .ok (.invokestatic 14, 3) := by decide +kernel
theorem dL_shop_216 : decode cL_shop 216 = .ok (.ifCond .eq 7, 3) := by decide +kernel
theorem dL_shop_219 : decode cL_shop 219 = .ok (.iconst 1, 1) := by decide +kernel
theorem dL_shop_220 : decode cL_shop 220 = .ok (.goto 4, 3) := by decide +kernel
theorem dL_shop_223 : decode cL_shop 223 = .ok (.iconst 0, 1) := by decide +kernel
theorem dL_shop_224 : decode cL_shop 224 = .ok (.istore 4, 2) := by decide +kernel
theorem dL_shop_226 : decode cL_shop 226 = .ok (.iconst 0, 1) := by decide +kernel
theorem dL_shop_227 : decode cL_shop 227 = .ok (.istore 5, 2) := by decide +kernel
theorem dL_shop_229 : decode cL_shop 229 = .ok (.iload 5, 2) := by decide +kernel
theorem dL_shop_231 : decode cL_shop 231 = .ok (.aload_n 3, 1) := by decide +kernel
theorem dL_shop_232 : decode cL_shop 232 = .ok (.iconst 1, 1) := by decide +kernel
theorem dL_shop_233 : decode cL_shop 233 = .ok (.iaload, 1) := by decide +kernel
theorem dL_shop_234 : decode cL_shop 234 = .ok (.if_icmp .ge 66, 3) := by decide +kernel
theorem dL_shop_237 : decode cL_shop 237 = .ok (.aload_n 3, 1) := by decide +kernel
theorem dL_shop_238 : decode cL_shop 238 = .ok (.iconst 3, 1) := by decide +kernel
theorem dL_shop_239 : decode cL_shop 239 = .ok (.iload 5, 2) := by decide +kernel
theorem dL_shop_241 : decode cL_shop 241 = .ok (.iadd, 1) := by decide +kernel
theorem dL_shop_242 : decode cL_shop 242 = .ok (.iload_n 1, 1) := by decide +kernel
theorem dL_shop_243 : decode cL_shop 243 = .ok (.bipush 16, 2) := by decide +kernel
theorem dL_shop_245 : decode cL_shop 245 = .ok (.iconst 3, 1) := by decide +kernel
theorem dL_shop_246 : decode cL_shop 246 = .ok (.iload 5, 2) := by decide +kernel
theorem dL_shop_248 : decode cL_shop 248 = .ok (.imul, 1) := by decide +kernel
theorem dL_shop_249 : decode cL_shop 249 = .ok (.iadd, 1) := by decide +kernel
theorem dL_shop_250 : decode cL_shop 250 = .ok (.ishr, 1) := by decide +kernel
theorem dL_shop_251 : decode cL_shop 251 = .ok (.bipush 15, 2) := by decide +kernel
theorem dL_shop_253 : decode cL_shop 253 = .ok (.iand, 1) := by decide +kernel
theorem dL_shop_254 : decode cL_shop 254 = .ok (.bipush 10, 2) := by decide +kernel
theorem dL_shop_256 : decode cL_shop 256 = .ok (.irem, 1) := by decide +kernel
theorem dL_shop_257 : decode cL_shop 257 = .ok (.iastore, 1) := by decide +kernel
theorem dL_shop_258 : decode cL_shop 258 = .ok (.aload_n 3, 1) := by decide +kernel
theorem dL_shop_259 : decode cL_shop 259 = .ok (.bipush 6, 2) := by decide +kernel
theorem dL_shop_261 : decode cL_shop 261 = .ok (.iload 5, 2) := by decide +kernel
theorem dL_shop_263 : decode cL_shop 263 = .ok (.iadd, 1) := by decide +kernel
theorem dL_shop_264 : decode cL_shop 264 = .ok (.iconst 2, 1) := by decide +kernel
theorem dL_shop_265 : decode cL_shop 265 = .ok (.iastore, 1) := by decide +kernel
theorem dL_shop_266 : decode cL_shop 266 = .ok (.iload 4, 2) := by decide +kernel
theorem dL_shop_268 : decode cL_shop 268 = .ok (.ifCond .eq 23, 3) := by decide +kernel
theorem dL_shop_271 : decode cL_shop 271 = .ok (.aload_n 0, 1) := by decide +kernel
theorem dL_shop_272 : decode cL_shop 272 = .ok (.bipush 48, 2) := by decide +kernel
theorem dL_shop_274 : decode cL_shop 274 = .ok (.aload_n 3, 1) := by decide +kernel
theorem dL_shop_275 : decode cL_shop 275 = .ok (.iconst 3, 1) := by decide +kernel
theorem dL_shop_276 : decode cL_shop 276 = .ok (.iload 5, 2) := by decide +kernel
theorem dL_shop_278 : decode cL_shop 278 = .ok (.iadd, 1) := by decide +kernel
theorem dL_shop_279 : decode cL_shop 279 = .ok (.iaload, 1) := by decide +kernel
theorem dL_shop_280 : decode cL_shop 280 = .ok (.iadd, 1) := by decide +kernel
theorem dL_shop_281 : decode cL_shop 281 = .ok (.invokestatic 14, 3) := by decide +kernel
theorem dL_shop_284 : decode cL_shop 284 = .ok (.ifCond .eq 7, 3) := by decide +kernel
theorem dL_shop_287 : decode cL_shop 287 = .ok (.iconst 1, 1) := by decide +kernel
theorem dL_shop_288 : decode cL_shop 288 = .ok (.goto 4, 3) := by decide +kernel
theorem dL_shop_291 : decode cL_shop 291 = .ok (.iconst 0, 1) := by decide +kernel
theorem dL_shop_292 : decode cL_shop 292 = .ok (.istore 4, 2) := by decide +kernel
theorem dL_shop_294 : decode cL_shop 294 = .ok (.iinc 5 1, 3) := by decide +kernel
theorem dL_shop_297 : decode cL_shop 297 = .ok (.goto (-68), 3) := by decide +kernel
theorem dL_shop_300 : decode cL_shop 300 = .ok (.iload 4, 2) := by decide +kernel
theorem dL_shop_302 : decode cL_shop 302 = .ok (.ifCond .eq 33, 3) := by decide +kernel
theorem dL_shop_305 : decode cL_shop 305 = .ok (.aload_n 0, 1) := by decide +kernel
theorem dL_shop_306 : decode cL_shop 306 = .ok (.invokevirtual 20, 3) := by decide +kernel
theorem dL_shop_309 : decode cL_shop 309 = .ok (.iconst 3, 1) := by decide +kernel
theorem dL_shop_310 : decode cL_shop 310 = .ok (.aload_n 3, 1) := by decide +kernel
theorem dL_shop_311 : decode cL_shop 311 = .ok (.iconst 0, 1) := by decide +kernel
theorem dL_shop_312 : decode cL_shop 312 = .ok (.iaload, 1) := by decide +kernel
theorem dL_shop_313 : decode cL_shop 313 = .ok (.imul, 1) := by decide +kernel
theorem dL_shop_314 : decode cL_shop 314 = .ok (.aload_n 3, 1) := by decide +kernel
theorem dL_shop_315 : decode cL_shop 315 = .ok (.iconst 1, 1) := by decide +kernel
theorem dL_shop_316 : decode cL_shop 316 = .ok (.iaload, 1) := by decide +kernel
theorem dL_shop_317 : decode cL_shop 317 = .ok (.iadd, 1) := by decide +kernel
theorem dL_shop_318 : decode cL_shop 318 = .ok (.if_icmp .ne 17, 3) := by decide +kernel
theorem dL_shop_321 : decode cL_shop 321 = .ok (.aload_n 0, 1) := by decide +kernel
theorem dL_shop_322 : decode cL_shop 322 = .ok (.invokevirtual 24, 3) := by decide +kernel
theorem dL_shop_325 : decode cL_shop 325 = .ok (.aload_n 3, 1) := by decide +kernel
theorem dL_shop_326 : decode cL_shop 326 = .ok (.iconst 0, 1) := by decide +kernel
theorem dL_shop_327 : decode cL_shop 327 = .ok (.iaload, 1) := by decide +kernel
theorem dL_shop_328 : decode cL_shop 328 = .ok (.if_icmp .ne 7, 3) := by decide +kernel
theorem dL_shop_331 : decode cL_shop 331 = .ok (.iconst 1, 1) := by decide +kernel
theorem dL_shop_332 : decode cL_shop 332 = .ok (.goto 4, 3) := by decide +kernel
theorem dL_shop_335 : decode cL_shop 335 = .ok (.iconst 0, 1) := by decide +kernel
theorem dL_shop_336 : decode cL_shop 336 = .ok (.ireturn, 1) := by decide +kernel
theorem dL_temper_0 : decode cL_temper 0 = .ok (.iload_n 0, 1) := by decide +kernel
theorem dL_temper_1 : decode cL_temper 1 = .ok (.iconst 1, 1) := by decide +kernel
theorem dL_temper_2 : decode cL_temper 2 = .ok (.if_icmp .ne 9, 3) := by decide +kernel
theorem dL_temper_5 : decode cL_temper 5 = .ok (.iload_n 1, 1) := by decide +kernel
theorem dL_temper_6 : decode cL_temper 6 = .ok (.iload_n 2, 1) := by decide +kernel
theorem dL_temper_7 : decode cL_temper 7 = .ok (.iadd, 1) := by decide +kernel
theorem dL_temper_8 : decode cL_temper 8 = .ok (.goto 8, 3) := by decide +kernel
theorem dL_temper_11 : decode cL_temper 11 = .ok (.iload_n 1, 1) := by decide +kernel
theorem dL_temper_12 : decode cL_temper 12 = .ok (.iload_n 2, 1) := by decide +kernel
theorem dL_temper_13 : decode cL_temper 13 = .ok (.iadd, 1) := by decide +kernel
theorem dL_temper_14 : decode cL_temper 14 = .ok (.iload_n 2, 1) := by decide +kernel
theorem dL_temper_15 : decode cL_temper 15 = .ok (.iadd, 1) := by decide +kernel
theorem dL_temper_16 : decode cL_temper 16 = .ok (.istore_n 3, 1) := by decide +kernel
theorem dL_temper_17 : decode cL_temper 17 = .ok (.iload_n 0, 1) := by decide +kernel
theorem dL_temper_18 : decode cL_temper 18 = .ok (.ifCond .ne 7, 3) := by decide +kernel
theorem dL_temper_21 : decode cL_temper 21 = .ok (.iload_n 1, 1) := by decide +kernel
theorem dL_temper_22 : decode cL_temper 22 = .ok (.goto 55, 3) := by decide +kernel
theorem dL_temper_25 : decode cL_temper 25 = .ok (.iload_n 0, 1) := by decide +kernel
theorem dL_temper_26 : decode cL_temper 26 = .ok (.iconst 2, 1) := by decide +kernel
theorem dL_temper_27 : decode cL_temper 27 = .ok (.if_icmp .ne 18, 3) := by decide +kernel
theorem dL_temper_30 : decode cL_temper 30 = .ok (.iload_n 2, 1) := by decide +kernel
theorem dL_temper_31 : decode cL_temper 31 = .ok (.iconst 2, 1) := by decide +kernel
theorem dL_temper_32 : decode cL_temper 32 = .ok (.irem, 1) := by decide +kernel
theorem dL_temper_33 : decode cL_temper 33 = .ok (.iconst 1, 1) := by decide +kernel
theorem dL_temper_34 : decode cL_temper 34 = .ok (.if_icmp .ne 7, 3) := by decide +kernel
theorem dL_temper_37 : decode cL_temper 37 = .ok (.iload_n 1, 1) := by decide +kernel
theorem dL_temper_38 : decode cL_temper 38 = .ok (.goto 39, 3) := by decide +kernel
theorem dL_temper_41 : decode cL_temper 41 = .ok (.iconst 0, 1) := by decide +kernel
theorem dL_temper_42 : decode cL_temper 42 = .ok (.goto 35, 3) := by decide +kernel
theorem dL_temper_45 : decode cL_temper 45 = .ok (.iload_n 0, 1) := by decide +kernel
theorem dL_temper_46 : decode cL_temper 46 = .ok (.iconst 3, 1) := by decide +kernel
theorem dL_temper_47 : decode cL_temper 47 = .ok (.if_icmp .ne 18, 3) := by decide +kernel
theorem dL_temper_50 : decode cL_temper 50 = .ok (.iload_n 1, 1) := by decide +kernel
theorem dL_temper_51 : decode cL_temper 51 = .ok (.iload_n 2, 1) := by decide +kernel
theorem dL_temper_52 : decode cL_temper 52 = .ok (.if_icmp .ge 7, 3) := by decide +kernel
theorem dL_temper_55 : decode cL_temper 55 = .ok (.iconst 0, 1) := by decide +kernel
theorem dL_temper_56 : decode cL_temper 56 = .ok (.goto 21, 3) := by decide +kernel
theorem dL_temper_59 : decode cL_temper 59 = .ok (.iload_n 1, 1) := by decide +kernel
theorem dL_temper_60 : decode cL_temper 60 = .ok (.iload_n 2, 1) := by decide +kernel
theorem dL_temper_61 : decode cL_temper 61 = .ok (.isub, 1) := by decide +kernel
theorem dL_temper_62 : decode cL_temper 62 = .ok (.goto 15, 3) := by decide +kernel
theorem dL_temper_65 : decode cL_temper 65 = .ok (.iload_n 3, 1) := by decide +kernel
theorem dL_temper_66 : decode cL_temper 66 = .ok (.bipush 9, 2) := by decide +kernel
theorem dL_temper_68 : decode cL_temper 68 = .ok (.if_icmp .le 8, 3) := by decide +kernel
theorem dL_temper_71 : decode cL_temper 71 = .ok (.bipush 9, 2) := by decide +kernel
theorem dL_temper_73 : decode cL_temper 73 = .ok (.goto 4, 3) := by decide +kernel
theorem dL_temper_76 : decode cL_temper 76 = .ok (.iload_n 3, 1) := by decide +kernel
theorem dL_temper_77 : decode cL_temper 77 = .ok (.ireturn, 1) := by decide +kernel
theorem dL_then_0 : decode cL_then 0 = .ok (.aload_n 0, 1) := by decide +kernel
theorem dL_then_1 : decode cL_then 1 = .ok (.bipush 11, 2) := by decide +kernel
theorem dL_then_3 : decode cL_then 3 = .ok (.iconst 5, 1) := by decide +kernel
theorem dL_then_4 : decode cL_then 4 = .ok (.iload_n 1, 1) := by decide +kernel
theorem dL_then_5 : decode cL_then 5 = .ok (.imul, 1) := by decide +kernel
theorem dL_then_6 : decode cL_then 6 = .ok (.iadd, 1) := by decide +kernel
theorem dL_then_7 : decode cL_then 7 = .ok (.iaload, 1) := by decide +kernel
theorem dL_then_8 : decode cL_then 8 = .ok (.iload_n 2, 1) := by decide +kernel
theorem dL_then_9 : decode cL_then 9 = .ok (.iadd, 1) := by decide +kernel
theorem dL_then_10 : decode cL_then 10 = .ok (.istore_n 3, 1) := by decide +kernel
theorem dL_then_11 : decode cL_then 11 = .ok (.aload_n 0, 1) := by decide +kernel
theorem dL_then_12 : decode cL_then 12 = .ok (.bipush 9, 2) := by decide +kernel
theorem dL_then_14 : decode cL_then 14 = .ok (.iconst 5, 1) := by decide +kernel
theorem dL_then_15 : decode cL_then 15 = .ok (.iload_n 1, 1) := by decide +kernel
theorem dL_then_16 : decode cL_then 16 = .ok (.imul, 1) := by decide +kernel
theorem dL_then_17 : decode cL_then 17 = .ok (.iadd, 1) := by decide +kernel
theorem dL_then_18 : decode cL_then 18 = .ok (.iaload, 1) := by decide +kernel
theorem dL_then_19 : decode cL_then 19 = .ok (.aload_n 0, 1) := by decide +kernel
theorem dL_then_20 : decode cL_then 20 = .ok (.bipush 10, 2) := by decide +kernel
theorem dL_then_22 : decode cL_then 22 = .ok (.iconst 5, 1) := by decide +kernel
theorem dL_then_23 : decode cL_then 23 = .ok (.iload_n 1, 1) := by decide +kernel
theorem dL_then_24 : decode cL_then 24 = .ok (.imul, 1) := by decide +kernel
theorem dL_then_25 : decode cL_then 25 = .ok (.iadd, 1) := by decide +kernel
theorem dL_then_26 : decode cL_then 26 = .ok (.iaload, 1) := by decide +kernel
theorem dL_then_27 : decode cL_then 27 = .ok (.iload_n 3, 1) := by decide +kernel
theorem dL_then_28 : decode cL_then 28 = .ok (.bipush 20, 2) := by decide +kernel
theorem dL_then_30 : decode cL_then 30 = .ok (.if_icmp .le 8, 3) := by decide +kernel
theorem dL_then_33 : decode cL_then 33 = .ok (.bipush 20, 2) := by decide +kernel
theorem dL_then_35 : decode cL_then 35 = .ok (.goto 4, 3) := by decide +kernel
theorem dL_then_38 : decode cL_then 38 = .ok (.iload_n 3, 1) := by decide +kernel
theorem dL_then_39 : decode cL_then 39 = .ok (.invokestatic 27, 3) := by decide +kernel
theorem dL_then_42 : decode cL_then 42 = .ok (.ireturn, 1) := by decide +kernel
theorem dL_quarrel_0 : decode cL_quarrel 0 = .ok (.aload_n 0, 1) := by decide +kernel
theorem dL_quarrel_1 : decode cL_quarrel 1 = .ok (.iload_n 1, 1) := by decide +kernel
theorem dL_quarrel_2 : decode cL_quarrel 2 = .ok (.iload_n 3, 1) := by decide +kernel
theorem dL_quarrel_3 : decode cL_quarrel 3 = .ok (.invokestatic 31, 3) := by decide +kernel
theorem dL_quarrel_6 : decode cL_quarrel 6 = .ok (.aload_n 0, 1) := by decide +kernel
theorem dL_quarrel_7 : decode cL_quarrel 7 = .ok (.iload_n 2, 1) := by decide +kernel
theorem dL_quarrel_8 : decode cL_quarrel 8 = .ok (.iload_n 3, 1) := by decide +kernel
theorem dL_quarrel_9 : decode cL_quarrel 9 = .ok (.invokestatic 31, 3) := by decide +kernel
theorem dL_quarrel_12 : decode cL_quarrel 12 = .ok (.isub, 1) := by decide +kernel
theorem dL_quarrel_13 : decode cL_quarrel 13 = .ok (.istore 4, 2) := by decide +kernel
theorem dL_quarrel_15 : decode cL_quarrel 15 = .ok (.iload 4, 2) := by decide +kernel
theorem dL_quarrel_17 : decode cL_quarrel 17 = .ok (.iconst 3, 1) := by decide +kernel
theorem dL_quarrel_18 : decode cL_quarrel 18 = .ok (.if_icmp .gt 10, 3) := by decide +kernel
theorem dL_quarrel_21 : decode cL_quarrel 21 = .ok (.iload 4, 2) := by decide +kernel
theorem dL_quarrel_23 : decode cL_quarrel 23 = .ok (.bipush (-3), 2) := by decide +kernel
theorem dL_quarrel_25 : decode cL_quarrel 25 = .ok (.if_icmp .ge 7, 3) := by decide +kernel
theorem dL_quarrel_28 : decode cL_quarrel 28 = .ok (.iconst 1, 1) := by decide +kernel
theorem dL_quarrel_29 : decode cL_quarrel 29 = .ok (.goto 4, 3) := by decide +kernel
theorem dL_quarrel_32 : decode cL_quarrel 32 = .ok (.iconst 0, 1) := by decide +kernel
theorem dL_quarrel_33 : decode cL_quarrel 33 = .ok (.ireturn, 1) := by decide +kernel
theorem dL_mood_0 : decode cL_mood 0 = .ok (.iload_n 1, 1) := by decide +kernel
theorem dL_mood_1 : decode cL_mood 1 = .ok (.istore 4, 2) := by decide +kernel
theorem dL_mood_3 : decode cL_mood 3 = .ok (.iconst 0, 1) := by decide +kernel
theorem dL_mood_4 : decode cL_mood 4 = .ok (.istore 5, 2) := by decide +kernel
theorem dL_mood_6 : decode cL_mood 6 = .ok (.iload 5, 2) := by decide +kernel
theorem dL_mood_8 : decode cL_mood 8 = .ok (.aload_n 0, 1) := by decide +kernel
theorem dL_mood_9 : decode cL_mood 9 = .ok (.iconst 0, 1) := by decide +kernel
theorem dL_mood_10 : decode cL_mood 10 = .ok (.iaload, 1) := by decide +kernel
theorem dL_mood_11 : decode cL_mood 11 = .ok (.if_icmp .ge 88, 3) := by decide +kernel
theorem dL_mood_14 : decode cL_mood 14 = .ok (.iload 4, 2) := by decide +kernel
theorem dL_mood_16 : decode cL_mood 16 = .ok (.iload_n 2, 1) := by decide +kernel
theorem dL_mood_17 : decode cL_mood 17 = .ok (.iload 5, 2) := by decide +kernel
theorem dL_mood_19 : decode cL_mood 19 = .ok (.ishr, 1) := by decide +kernel
theorem dL_mood_20 : decode cL_mood 20 = .ok (.iconst 1, 1) := by decide +kernel
theorem dL_mood_21 : decode cL_mood 21 = .ok (.iand, 1) := by decide +kernel
theorem dL_mood_22 : decode cL_mood 22 = .ok (.iconst 1, 1) := by decide +kernel
theorem dL_mood_23 : decode cL_mood 23 = .ok (.if_icmp .ne 13, 3) := by decide +kernel
theorem dL_mood_26 : decode cL_mood 26 = .ok (.aload_n 0, 1) := by decide +kernel
theorem dL_mood_27 : decode cL_mood 27 = .ok (.iload 5, 2) := by decide +kernel
theorem dL_mood_29 : decode cL_mood 29 = .ok (.iload_n 3, 1) := by decide +kernel
theorem dL_mood_30 : decode cL_mood 30 = .ok (.invokestatic 31, 3) := by decide +kernel
theorem dL_mood_33 : decode cL_mood 33 = .ok (.goto 4, 3) := by decide +kernel
theorem dL_mood_36 : decode cL_mood 36 = .ok (.iconst 0, 1) := by decide +kernel
theorem dL_mood_37 : decode cL_mood 37 = .ok (.iadd, 1) := by decide +kernel
theorem dL_mood_38 : decode cL_mood 38 = .ok (.istore 4, 2) := by decide +kernel
theorem dL_mood_40 : decode cL_mood 40 = .ok (.iconst 0, 1) := by decide +kernel
theorem dL_mood_41 : decode cL_mood 41 = .ok (.istore 6, 2) := by decide +kernel
theorem dL_mood_43 : decode cL_mood 43 = .ok (.iload 6, 2) := by decide +kernel
theorem dL_mood_45 : decode cL_mood 45 = .ok (.iload 5, 2) := by decide +kernel
theorem dL_mood_47 : decode cL_mood 47 = .ok (.if_icmp .ge 46, 3) := by decide +kernel
theorem dL_mood_50 : decode cL_mood 50 = .ok (.iload 4, 2) := by decide +kernel
theorem dL_mood_52 : decode cL_mood 52 = .ok (.iload_n 2, 1) := by decide +kernel
theorem dL_mood_53 : decode cL_mood 53 = .ok (.iload 5, 2) := by decide +kernel
theorem dL_mood_55 : decode cL_mood 55 = .ok (.ishr, 1) := by decide +kernel
theorem dL_mood_56 : decode cL_mood 56 = .ok (.iload_n 2, 1) := by decide +kernel
theorem dL_mood_57 : decode cL_mood 57 = .ok (.iload 6, 2) := by decide +kernel
theorem dL_mood_59 : decode cL_mood 59 = .ok (.ishr, 1) := by decide +kernel
theorem dL_mood_60 : decode cL_mood 60 = .ok (.iand, 1) := by decide +kernel
theorem dL_mood_61 : decode cL_mood 61 = .ok (.iconst 1, 1) := by decide +kernel
theorem dL_mood_62 : decode cL_mood 62 = .ok (.iand, 1) := by decide +kernel
theorem dL_mood_63 : decode cL_mood 63 = .ok (.iconst 1, 1) := by decide +kernel
theorem dL_mood_64 : decode cL_mood 64 = .ok (.if_icmp .ne 19, 3) := by decide +kernel
theorem dL_mood_67 : decode cL_mood 67 = .ok (.aload_n 0, 1) := by decide +kernel
theorem dL_mood_68 : decode cL_mood 68 = .ok (.iload 5, 2) := by decide +kernel
theorem dL_mood_70 : decode cL_mood 70 = .ok (.iload 6, 2) := by decide +kernel
theorem dL_mood_72 : decode cL_mood 72 = .ok (.iload_n 3, 1) := by decide +kernel
theorem dL_mood_73 : decode cL_mood 73 = .ok (.invokestatic 35, 3) := by decide +kernel
theorem dL_mood_76 : decode cL_mood 76 = .ok (.ifCond .eq 7, 3) := by decide +kernel
theorem dL_mood_79 : decode cL_mood 79 = .ok (.iconst 3, 1) := by decide +kernel
theorem dL_mood_80 : decode cL_mood 80 = .ok (.goto 4, 3) := by decide +kernel
theorem dL_mood_83 : decode cL_mood 83 = .ok (.iconst 0, 1) := by decide +kernel
theorem dL_mood_84 : decode cL_mood 84 = .ok (.iadd, 1) := by decide +kernel
theorem dL_mood_85 : decode cL_mood 85 = .ok (.istore 4, 2) := by decide +kernel
theorem dL_mood_87 : decode cL_mood 87 = .ok (.iinc 6 1, 3) := by decide +kernel
theorem dL_mood_90 : decode cL_mood 90 = .ok (.goto (-47), 3) := by decide +kernel
theorem dL_mood_93 : decode cL_mood 93 = .ok (.iinc 5 1, 3) := by decide +kernel
theorem dL_mood_96 : decode cL_mood 96 = .ok (.goto (-90), 3) := by decide +kernel
theorem dL_mood_99 : decode cL_mood 99 = .ok (.iload 4, 2) := by decide +kernel
theorem dL_mood_101 : decode cL_mood 101 = .ok (.ireturn, 1) := by decide +kernel
theorem dL_worn_0 : decode cL_worn 0 = .ok (.iconst 0, 1) := by decide +kernel
theorem dL_worn_1 : decode cL_worn 1 = .ok (.istore_n 2, 1) := by decide +kernel
theorem dL_worn_2 : decode cL_worn 2 = .ok (.iconst 0, 1) := by decide +kernel
theorem dL_worn_3 : decode cL_worn 3 = .ok (.istore_n 3, 1) := by decide +kernel
theorem dL_worn_4 : decode cL_worn 4 = .ok (.iload_n 3, 1) := by decide +kernel
theorem dL_worn_5 : decode cL_worn 5 = .ok (.aload_n 0, 1) := by decide +kernel
theorem dL_worn_6 : decode cL_worn 6 = .ok (.iconst 0, 1) := by decide +kernel
theorem dL_worn_7 : decode cL_worn 7 = .ok (.iaload, 1) := by decide +kernel
theorem dL_worn_8 : decode cL_worn 8 = .ok (.if_icmp .ge 31, 3) := by decide +kernel
theorem dL_worn_11 : decode cL_worn 11 = .ok (.iload_n 2, 1) := by decide +kernel
theorem dL_worn_12 : decode cL_worn 12 = .ok (.aload_n 0, 1) := by decide +kernel
theorem dL_worn_13 : decode cL_worn 13 = .ok (.bipush 12, 2) := by decide +kernel
theorem dL_worn_15 : decode cL_worn 15 = .ok (.iconst 5, 1) := by decide +kernel
theorem dL_worn_16 : decode cL_worn 16 = .ok (.iload_n 3, 1) := by decide +kernel
theorem dL_worn_17 : decode cL_worn 17 = .ok (.imul, 1) := by decide +kernel
theorem dL_worn_18 : decode cL_worn 18 = .ok (.iadd, 1) := by decide +kernel
theorem dL_worn_19 : decode cL_worn 19 = .ok (.iaload, 1) := by decide +kernel
theorem dL_worn_20 : decode cL_worn 20 = .ok (.iload_n 1, 1) := by decide +kernel
theorem dL_worn_21 : decode cL_worn 21 = .ok (.if_icmp .ne 9, 3) := by decide +kernel
theorem dL_worn_24 : decode cL_worn 24 = .ok (.iconst 1, 1) := by decide +kernel
theorem dL_worn_25 : decode cL_worn 25 = .ok (.iload_n 3, 1) := by decide +kernel
theorem dL_worn_26 : decode cL_worn 26 = .ok (.ishl, 1) := by decide +kernel
theorem dL_worn_27 : decode cL_worn 27 = .ok (.goto 4, 3) := by decide +kernel
theorem dL_worn_30 : decode cL_worn 30 = .ok (.iconst 0, 1) := by decide +kernel
theorem dL_worn_31 : decode cL_worn 31 = .ok (.ior, 1) := by decide +kernel
theorem dL_worn_32 : decode cL_worn 32 = .ok (.istore_n 2, 1) := by decide +kernel
theorem dL_worn_33 : decode cL_worn 33 = .ok (.iinc 3 1, 3) := by decide +kernel
theorem dL_worn_36 : decode cL_worn 36 = .ok (.goto (-32), 3) := by decide +kernel
theorem dL_worn_39 : decode cL_worn 39 = .ok (.iload_n 2, 1) := by decide +kernel
theorem dL_worn_40 : decode cL_worn 40 = .ok (.ireturn, 1) := by decide +kernel
theorem dL_doing_0 : decode cL_doing 0 = .ok (.iload_n 0, 1) := by decide +kernel
theorem dL_doing_1 : decode cL_doing 1 = .ok (.bipush 9, 2) := by decide +kernel
theorem dL_doing_3 : decode cL_doing 3 = .ok (.if_icmp .ge 7, 3) := by decide +kernel
theorem dL_doing_6 : decode cL_doing 6 = .ok (.iconst 0, 1) := by decide +kernel
theorem dL_doing_7 : decode cL_doing 7 = .ok (.goto 14, 3) := by decide +kernel
theorem dL_doing_10 : decode cL_doing 10 = .ok (.iload_n 0, 1) := by decide +kernel
theorem dL_doing_11 : decode cL_doing 11 = .ok (.bipush 14, 2) := by decide +kernel
theorem dL_doing_13 : decode cL_doing 13 = .ok (.if_icmp .le 7, 3) := by decide +kernel
theorem dL_doing_16 : decode cL_doing 16 = .ok (.iconst 1, 1) := by decide +kernel
theorem dL_doing_17 : decode cL_doing 17 = .ok (.goto 4, 3) := by decide +kernel
theorem dL_doing_20 : decode cL_doing 20 = .ok (.iconst 2, 1) := by decide +kernel
theorem dL_doing_21 : decode cL_doing 21 = .ok (.ireturn, 1) := by decide +kernel
theorem dL_well_0 : decode cL_well 0 = .ok (.aload_n 0, 1) := by decide +kernel
theorem dL_well_1 : decode cL_well 1 = .ok (.bipush 6, 2) := by decide +kernel
theorem dL_well_3 : decode cL_well 3 = .ok (.iload_n 1, 1) := by decide +kernel
theorem dL_well_4 : decode cL_well 4 = .ok (.iadd, 1) := by decide +kernel
theorem dL_well_5 : decode cL_well 5 = .ok (.iaload, 1) := by decide +kernel
theorem dL_well_6 : decode cL_well 6 = .ok (.iconst 2, 1) := by decide +kernel
theorem dL_well_7 : decode cL_well 7 = .ok (.if_icmp .eq 26, 3) := by decide +kernel
theorem dL_well_10 : decode cL_well 10 = .ok (.aload_n 0, 1) := by decide +kernel
theorem dL_well_11 : decode cL_well 11 = .ok (.bipush 6, 2) := by decide +kernel
theorem dL_well_13 : decode cL_well 13 = .ok (.iload_n 1, 1) := by decide +kernel
theorem dL_well_14 : decode cL_well 14 = .ok (.iadd, 1) := by decide +kernel
theorem dL_well_15 : decode cL_well 15 = .ok (.iaload, 1) := by decide +kernel
theorem dL_well_16 : decode cL_well 16 = .ok (.aload_n 0, 1) := by decide +kernel
theorem dL_well_17 : decode cL_well 17 = .ok (.aload_n 0, 1) := by decide +kernel
theorem dL_well_18 : decode cL_well 18 = .ok (.iconst 3, 1) := by decide +kernel
theorem dL_well_19 : decode cL_well 19 = .ok (.iload_n 1, 1) := by decide +kernel
theorem dL_well_20 : decode cL_well 20 = .ok (.iadd, 1) := by decide +kernel
theorem dL_well_21 : decode cL_well 21 = .ok (.iaload, 1) := by decide +kernel
theorem dL_well_22 : decode cL_well 22 = .ok (.iload_n 2, 1) := by decide +kernel
theorem dL_well_23 : decode cL_well 23 = .ok (.iconst 0, 1) := by decide +kernel
theorem dL_well_24 : decode cL_well 24 = .ok (.invokestatic 39, 3) := by decide +kernel
theorem dL_well_27 : decode cL_well 27 = .ok (.invokestatic 43, 3) := by decide +kernel
theorem dL_well_30 : decode cL_well 30 = .ok (.if_icmp .ne 7, 3) := by decide +kernel
theorem dL_well_33 : decode cL_well 33 = .ok (.iconst 1, 1) := by decide +kernel
theorem dL_well_34 : decode cL_well 34 = .ok (.goto 4, 3) := by decide +kernel
theorem dL_well_37 : decode cL_well 37 = .ok (.iconst 0, 1) := by decide +kernel
theorem dL_well_38 : decode cL_well 38 = .ok (.ireturn, 1) := by decide +kernel
theorem dL_onHand_0 : decode cL_onHand 0 = .ok (.iconst (-1), 1) := by decide +kernel
theorem dL_onHand_1 : decode cL_onHand 1 = .ok (.istore_n 3, 1) := by decide +kernel
theorem dL_onHand_2 : decode cL_onHand 2 = .ok (.iconst 0, 1) := by decide +kernel
theorem dL_onHand_3 : decode cL_onHand 3 = .ok (.istore 4, 2) := by decide +kernel
theorem dL_onHand_5 : decode cL_onHand 5 = .ok (.iload 4, 2) := by decide +kernel
theorem dL_onHand_7 : decode cL_onHand 7 = .ok (.aload_n 0, 1) := by decide +kernel
theorem dL_onHand_8 : decode cL_onHand 8 = .ok (.iconst 0, 1) := by decide +kernel
theorem dL_onHand_9 : decode cL_onHand 9 = .ok (.iaload, 1) := by decide +kernel
theorem dL_onHand_10 : decode cL_onHand 10 = .ok (.if_icmp .ge 42, 3) := by decide +kernel
theorem dL_onHand_13 : decode cL_onHand 13 = .ok (.aload_n 0, 1) := by decide +kernel
theorem dL_onHand_14 : decode cL_onHand 14 = .ok (.bipush 12, 2) := by decide +kernel
theorem dL_onHand_16 : decode cL_onHand 16 = .ok (.iconst 5, 1) := by decide +kernel
theorem dL_onHand_17 : decode cL_onHand 17 = .ok (.iload 4, 2) := by decide +kernel
theorem dL_onHand_19 : decode cL_onHand 19 = .ok (.imul, 1) := by decide +kernel
theorem dL_onHand_20 : decode cL_onHand 20 = .ok (.iadd, 1) := by decide +kernel
theorem dL_onHand_21 : decode cL_onHand 21 = .ok (.iaload, 1) := by decide +kernel
theorem dL_onHand_22 : decode cL_onHand 22 = .ok (.iload_n 1, 1) := by decide +kernel
theorem dL_onHand_23 : decode cL_onHand 23 = .ok (.if_icmp .ne 21, 3) := by decide +kernel
theorem dL_onHand_26 : decode cL_onHand 26 = .ok (.aload_n 0, 1) := by decide +kernel
theorem dL_onHand_27 : decode cL_onHand 27 = .ok (.bipush 13, 2) := by decide +kernel
theorem dL_onHand_29 : decode cL_onHand 29 = .ok (.iconst 5, 1) := by decide +kernel
theorem dL_onHand_30 : decode cL_onHand 30 = .ok (.iload 4, 2) := by decide +kernel
theorem dL_onHand_32 : decode cL_onHand 32 = .ok (.imul, 1) := by decide +kernel
theorem dL_onHand_33 : decode cL_onHand 33 = .ok (.iadd, 1) := by decide +kernel
theorem dL_onHand_34 : decode cL_onHand 34 = .ok (.iaload, 1) := by decide +kernel
theorem dL_onHand_35 : decode cL_onHand 35 = .ok (.iload_n 2, 1) := by decide +kernel
theorem dL_onHand_36 : decode cL_onHand 36 = .ok (.if_icmp .ne 8, 3) := by decide +kernel
theorem dL_onHand_39 : decode cL_onHand 39 = .ok (.iload 4, 2) := by decide +kernel
theorem dL_onHand_41 : decode cL_onHand 41 = .ok (.goto 4, 3) := by decide +kernel
theorem dL_onHand_44 : decode cL_onHand 44 = .ok (.iload_n 3, 1) := by decide +kernel
theorem dL_onHand_45 : decode cL_onHand 45 = .ok (.istore_n 3, 1) := by decide +kernel
theorem dL_onHand_46 : decode cL_onHand 46 = .ok (.iinc 4 1, 3) := by decide +kernel
theorem dL_onHand_49 : decode cL_onHand 49 = .ok (.goto (-44), 3) := by decide +kernel
theorem dL_onHand_52 : decode cL_onHand 52 = .ok (.iload_n 3, 1) := by decide +kernel
theorem dL_onHand_53 : decode cL_onHand 53 = .ok (.ireturn, 1) := by decide +kernel
theorem dL_hour_0 : decode cL_hour 0 = .ok (.iconst 0, 1) := by decide +kernel
theorem dL_hour_1 : decode cL_hour 1 = .ok (.istore_n 1, 1) := by decide +kernel
theorem dL_hour_2 : decode cL_hour 2 = .ok (.iload_n 1, 1) := by decide +kernel
theorem dL_hour_3 : decode cL_hour 3 = .ok (.aload_n 0, 1) := by decide +kernel
theorem dL_hour_4 : decode cL_hour 4 = .ok (.iconst 0, 1) := by decide +kernel
theorem dL_hour_5 : decode cL_hour 5 = .ok (.iaload, 1) := by decide +kernel
theorem dL_hour_6 : decode cL_hour 6 = .ok (.if_icmp .ge 49, 3) := by decide +kernel
theorem dL_hour_9 : decode cL_hour 9 = .ok (.aload_n 0, 1) := by decide +kernel
theorem dL_hour_10 : decode cL_hour 10 = .ok (.bipush 11, 2) := by decide +kernel
theorem dL_hour_12 : decode cL_hour 12 = .ok (.iconst 5, 1) := by decide +kernel
theorem dL_hour_13 : decode cL_hour 13 = .ok (.iload_n 1, 1) := by decide +kernel
theorem dL_hour_14 : decode cL_hour 14 = .ok (.imul, 1) := by decide +kernel
theorem dL_hour_15 : decode cL_hour 15 = .ok (.iadd, 1) := by decide +kernel
theorem dL_hour_16 : decode cL_hour 16 = .ok (.dup2, 1) := by decide +kernel
theorem dL_hour_17 : decode cL_hour 17 = .ok (.iaload, 1) := by decide +kernel
theorem dL_hour_18 : decode cL_hour 18 = .ok (.aload_n 0, 1) := by decide +kernel
theorem dL_hour_19 : decode cL_hour 19 = .ok (.bipush 12, 2) := by decide +kernel
theorem dL_hour_21 : decode cL_hour 21 = .ok (.iconst 5, 1) := by decide +kernel
theorem dL_hour_22 : decode cL_hour 22 = .ok (.iload_n 1, 1) := by decide +kernel
theorem dL_hour_23 : decode cL_hour 23 = .ok (.imul, 1) := by decide +kernel
theorem dL_hour_24 : decode cL_hour 24 = .ok (.iadd, 1) := by decide +kernel
theorem dL_hour_25 : decode cL_hour 25 = .ok (.iaload, 1) := by decide +kernel
theorem dL_hour_26 : decode cL_hour 26 = .ok (.ifCond .lt 20, 3) := by decide +kernel
theorem dL_hour_29 : decode cL_hour 29 = .ok (.aload_n 0, 1) := by decide +kernel
theorem dL_hour_30 : decode cL_hour 30 = .ok (.bipush 11, 2) := by decide +kernel
theorem dL_hour_32 : decode cL_hour 32 = .ok (.iconst 5, 1) := by decide +kernel
theorem dL_hour_33 : decode cL_hour 33 = .ok (.iload_n 1, 1) := by decide +kernel
theorem dL_hour_34 : decode cL_hour 34 = .ok (.imul, 1) := by decide +kernel
theorem dL_hour_35 : decode cL_hour 35 = .ok (.iadd, 1) := by decide +kernel
theorem dL_hour_36 : decode cL_hour 36 = .ok (.iaload, 1) := by decide +kernel
theorem dL_hour_37 : decode cL_hour 37 = .ok (.bipush 20, 2) := by decide +kernel
theorem dL_hour_39 : decode cL_hour 39 = .ok (.if_icmp .ge 7, 3) := by decide +kernel
theorem dL_hour_42 : decode cL_hour 42 = .ok (.iconst 1, 1) := by decide +kernel
theorem dL_hour_43 : decode cL_hour 43 = .ok (.goto 4, 3) := by decide +kernel
theorem dL_hour_46 : decode cL_hour 46 = .ok (.iconst 0, 1) := by decide +kernel
theorem dL_hour_47 : decode cL_hour 47 = .ok (.iadd, 1) := by decide +kernel
theorem dL_hour_48 : decode cL_hour 48 = .ok (.iastore, 1) := by decide +kernel
theorem dL_hour_49 : decode cL_hour 49 = .ok (.iinc 1 1, 3) := by decide +kernel
theorem dL_hour_52 : decode cL_hour 52 = .ok (.goto (-50), 3) := by decide +kernel
theorem dL_hour_55 : decode cL_hour 55 = .ok (.return_, 1) := by decide +kernel
theorem dL_ones_0 : decode cL_ones 0 = .ok (.iconst 0, 1) := by decide +kernel
theorem dL_ones_1 : decode cL_ones 1 = .ok (.istore_n 1, 1) := by decide +kernel
theorem dL_ones_2 : decode cL_ones 2 = .ok (.iconst 0, 1) := by decide +kernel
theorem dL_ones_3 : decode cL_ones 3 = .ok (.istore_n 2, 1) := by decide +kernel
theorem dL_ones_4 : decode cL_ones 4 = .ok (.iload_n 2, 1) := by decide +kernel
theorem dL_ones_5 : decode cL_ones 5 = .ok (.bipush 10, 2) := by decide +kernel
theorem dL_ones_7 : decode cL_ones 7 = .ok (.if_icmp .ge 17, 3) := by decide +kernel
theorem dL_ones_10 : decode cL_ones 10 = .ok (.iload_n 1, 1) := by decide +kernel
theorem dL_ones_11 : decode cL_ones 11 = .ok (.iload_n 0, 1) := by decide +kernel
theorem dL_ones_12 : decode cL_ones 12 = .ok (.iload_n 2, 1) := by decide +kernel
theorem dL_ones_13 : decode cL_ones 13 = .ok (.ishr, 1) := by decide +kernel
theorem dL_ones_14 : decode cL_ones 14 = .ok (.iconst 1, 1) := by decide +kernel
theorem dL_ones_15 : decode cL_ones 15 = .ok (.iand, 1) := by decide +kernel
theorem dL_ones_16 : decode cL_ones 16 = .ok (.iadd, 1) := by decide +kernel
theorem dL_ones_17 : decode cL_ones 17 = .ok (.istore_n 1, 1) := by decide +kernel
theorem dL_ones_18 : decode cL_ones 18 = .ok (.iinc 2 1, 3) := by decide +kernel
theorem dL_ones_21 : decode cL_ones 21 = .ok (.goto (-17), 3) := by decide +kernel
theorem dL_ones_24 : decode cL_ones 24 = .ok (.iload_n 1, 1) := by decide +kernel
theorem dL_ones_25 : decode cL_ones 25 = .ok (.ireturn, 1) := by decide +kernel
theorem dL_act_0 : decode cL_act 0 = .ok (.iload_n 1, 1) := by decide +kernel
theorem dL_act_1 : decode cL_act 1 = .ok (.bipush 16, 2) := by decide +kernel
theorem dL_act_3 : decode cL_act 3 = .ok (.irem, 1) := by decide +kernel
theorem dL_act_4 : decode cL_act 4 = .ok (.istore_n 3, 1) := by decide +kernel
theorem dL_act_5 : decode cL_act 5 = .ok (.iload_n 1, 1) := by decide +kernel
theorem dL_act_6 : decode cL_act 6 = .ok (.bipush 16, 2) := by decide +kernel
theorem dL_act_8 : decode cL_act 8 = .ok (.idiv, 1) := by decide +kernel
theorem dL_act_9 : decode cL_act 9 = .ok (.aload_n 2, 1) := by decide +kernel
theorem dL_act_10 : decode cL_act 10 = .ok (.iconst 0, 1) := by decide +kernel
theorem dL_act_11 : decode cL_act 11 = .ok (.iaload, 1) := by decide +kernel
theorem dL_act_12 : decode cL_act 12 = .ok (.irem, 1) := by decide +kernel
theorem dL_act_13 : decode cL_act 13 = .ok (.istore 4, 2) := by decide +kernel
theorem dL_act_15 : decode cL_act 15 = .ok (.iload_n 1, 1) := by decide +kernel
theorem dL_act_16 : decode cL_act 16 = .ok (.sipush 128, 3) := by decide +kernel
theorem dL_act_19 : decode cL_act 19 = .ok (.idiv, 1) := by decide +kernel
theorem dL_act_20 : decode cL_act 20 = .ok (.aload_n 2, 1) := by decide +kernel
theorem dL_act_21 : decode cL_act 21 = .ok (.iconst 1, 1) := by decide +kernel
theorem dL_act_22 : decode cL_act 22 = .ok (.iaload, 1) := by decide +kernel
theorem dL_act_23 : decode cL_act 23 = .ok (.irem, 1) := by decide +kernel
theorem dL_act_24 : decode cL_act 24 = .ok (.istore 5, 2) := by decide +kernel
theorem dL_act_26 : decode cL_act 26 = .ok (.bipush 9, 2) := by decide +kernel
theorem dL_act_28 : decode cL_act 28 = .ok (.iconst 5, 1) := by decide +kernel
theorem dL_act_29 : decode cL_act 29 = .ok (.iload 4, 2) := by decide +kernel
theorem dL_act_31 : decode cL_act 31 = .ok (.imul, 1) := by decide +kernel
theorem dL_act_32 : decode cL_act 32 = .ok (.iadd, 1) := by decide +kernel
theorem dL_act_33 : decode cL_act 33 = .ok (.istore 6, 2) := by decide +kernel
theorem dL_act_35 : decode cL_act 35 = .ok (.iload_n 3, 1) := by decide +kernel
theorem dL_act_36 : decode cL_act 36 = .ok (.bipush 6, 2) := by decide +kernel
theorem dL_act_38 : decode cL_act 38 = .ok (.if_icmp .ge 30, 3) := by decide +kernel
theorem dL_act_41 : decode cL_act 41 = .ok (.aload_n 2, 1) := by decide +kernel
theorem dL_act_42 : decode cL_act 42 = .ok (.invokestatic 46, 3) := by decide +kernel
theorem dL_act_45 : decode cL_act 45 = .ok (.aload_n 2, 1) := by decide +kernel
theorem dL_act_46 : decode cL_act 46 = .ok (.iconst 2, 1) := by decide +kernel
theorem dL_act_47 : decode cL_act 47 = .ok (.dup2, 1) := by decide +kernel
theorem dL_act_48 : decode cL_act 48 = .ok (.iaload, 1) := by decide +kernel
theorem dL_act_49 : decode cL_act 49 = .ok (.iconst 1, 1) := by decide +kernel
theorem dL_act_50 : decode cL_act 50 = .ok (.iadd, 1) := by decide +kernel
theorem dL_act_51 : decode cL_act 51 = .ok (.iastore, 1) := by decide +kernel
theorem dL_act_52 : decode cL_act 52 = .ok (.aload_n 0, 1) := by decide +kernel
theorem dL_act_53 : decode cL_act 53 = .ok (.invokevirtual 50, 3) := by decide +kernel
theorem dL_act_56 : decode cL_act 56 = .ok (.aload_n 2, 1) := by decide +kernel
theorem dL_act_57 : decode cL_act 57 = .ok (.iconst 2, 1) := by decide +kernel
theorem dL_act_58 : decode cL_act 58 = .ok (.iaload, 1) := by decide +kernel
theorem dL_act_59 : decode cL_act 59 = .ok (.if_icmp .ne 7, 3) := by decide +kernel
theorem dL_act_62 : decode cL_act 62 = .ok (.iconst 1, 1) := by decide +kernel
theorem dL_act_63 : decode cL_act 63 = .ok (.goto 4, 3) := by decide +kernel
theorem dL_act_66 : decode cL_act 66 = .ok (.iconst 0, 1) := by decide +kernel
theorem dL_act_67 : decode cL_act 67 = .ok (.ireturn, 1) := by decide +kernel
theorem dL_act_68 : decode cL_act 68 = .ok (.iload_n 3, 1) := by decide +kernel
theorem dL_act_69 : decode cL_act 69 = .ok (.bipush 11, 2) := by decide +kernel
theorem dL_act_71 : decode cL_act 71 = .ok (.if_icmp .ge 105, 3) := by decide +kernel
theorem dL_act_74 : decode cL_act 74 = .ok (.iload_n 1, 1) := by decide +kernel
theorem dL_act_75 : decode cL_act 75 = .ok (.sipush 512, 3) := by decide +kernel
theorem dL_act_78 : decode cL_act 78 = .ok (.idiv, 1) := by decide +kernel
theorem dL_act_79 : decode cL_act 79 = .ok (.iconst 2, 1) := by decide +kernel
theorem dL_act_80 : decode cL_act 80 = .ok (.irem, 1) := by decide +kernel
theorem dL_act_81 : decode cL_act 81 = .ok (.istore 7, 2) := by decide +kernel
theorem dL_act_83 : decode cL_act 83 = .ok (.aload_n 2, 1) := by decide +kernel
theorem dL_act_84 : decode cL_act 84 = .ok (.iload 6, 2) := by decide +kernel
theorem dL_act_86 : decode cL_act 86 = .ok (.iconst 3, 1) := by decide +kernel
theorem dL_act_87 : decode cL_act 87 = .ok (.iadd, 1) := by decide +kernel
theorem dL_act_88 : decode cL_act 88 = .ok (.iaload, 1) := by decide +kernel
theorem dL_act_89 : decode cL_act 89 = .ok (.ifCond .ge 14, 3) := by decide +kernel
theorem dL_act_92 : decode cL_act 92 = .ok (.aload_n 2, 1) := by decide +kernel
theorem dL_act_93 : decode cL_act 93 = .ok (.iload 5, 2) := by decide +kernel
theorem dL_act_95 : decode cL_act 95 = .ok (.iload 7, 2) := by decide +kernel
theorem dL_act_97 : decode cL_act 97 = .ok (.invokestatic 52, 3) := by decide +kernel
theorem dL_act_100 : decode cL_act 100 = .ok (.ifCond .lt 24, 3) := by decide +kernel
theorem dL_act_103 : decode cL_act 103 = .ok (.aload_n 0, 1) := by decide +kernel
theorem dL_act_104 : decode cL_act 104 = .ok (.iload 4, 2) := by decide +kernel
theorem dL_act_106 : decode cL_act 106 = .ok (.iload 5, 2) := by decide +kernel
theorem dL_act_108 : decode cL_act 108 = .ok (.iload 7, 2) := by decide +kernel
theorem dL_act_110 : decode cL_act 110 = .ok (.invokevirtual 55, 3) := by decide +kernel
theorem dL_act_113 : decode cL_act 113 = .ok (.bipush (-103), 2) := by decide +kernel
theorem dL_act_115 : decode cL_act 115 = .ok (.if_icmp .ne 7, 3) := by decide +kernel
theorem dL_act_118 : decode cL_act 118 = .ok (.iconst 1, 1) := by decide +kernel
theorem dL_act_119 : decode cL_act 119 = .ok (.goto 4, 3) := by decide +kernel
theorem dL_act_122 : decode cL_act 122 = .ok (.iconst 0, 1) := by decide +kernel
theorem dL_act_123 : decode cL_act 123 = .ok (.ireturn, 1) := by decide +kernel
theorem dL_act_124 : decode cL_act 124 = .ok (.aload_n 2, 1) := by decide +kernel
theorem dL_act_125 : decode cL_act 125 = .ok (.iload 6, 2) := by decide +kernel
theorem dL_act_127 : decode cL_act 127 = .ok (.iconst 3, 1) := by decide +kernel
theorem dL_act_128 : decode cL_act 128 = .ok (.iadd, 1) := by decide +kernel
theorem dL_act_129 : decode cL_act 129 = .ok (.iload 5, 2) := by decide +kernel
theorem dL_act_131 : decode cL_act 131 = .ok (.iastore, 1) := by decide +kernel
theorem dL_act_132 : decode cL_act 132 = .ok (.aload_n 2, 1) := by decide +kernel
theorem dL_act_133 : decode cL_act 133 = .ok (.iload 6, 2) := by decide +kernel
theorem dL_act_135 : decode cL_act 135 = .ok (.iconst 4, 1) := by decide +kernel
theorem dL_act_136 : decode cL_act 136 = .ok (.iadd, 1) := by decide +kernel
theorem dL_act_137 : decode cL_act 137 = .ok (.iload 7, 2) := by decide +kernel
theorem dL_act_139 : decode cL_act 139 = .ok (.iastore, 1) := by decide +kernel
theorem dL_act_140 : decode cL_act 140 = .ok (.aload_n 0, 1) := by decide +kernel
theorem dL_act_141 : decode cL_act 141 = .ok (.iload 4, 2) := by decide +kernel
theorem dL_act_143 : decode cL_act 143 = .ok (.iload 5, 2) := by decide +kernel
theorem dL_act_145 : decode cL_act 145 = .ok (.iload 7, 2) := by decide +kernel
theorem dL_act_147 : decode cL_act 147 = .ok (.invokevirtual 55, 3) := by decide +kernel
theorem dL_act_150 : decode cL_act 150 = .ok (.aload_n 2, 1) := by decide +kernel
theorem dL_act_151 : decode cL_act 151 = .ok (.aload_n 2, 1) := by decide +kernel
theorem dL_act_152 : decode cL_act 152 = .ok (.iconst 3, 1) := by decide +kernel
theorem dL_act_153 : decode cL_act 153 = .ok (.iload 5, 2) := by decide +kernel
theorem dL_act_155 : decode cL_act 155 = .ok (.iadd, 1) := by decide +kernel
theorem dL_act_156 : decode cL_act 156 = .ok (.iaload, 1) := by decide +kernel
theorem dL_act_157 : decode cL_act 157 = .ok (.aload_n 2, 1) := by decide +kernel
theorem dL_act_158 : decode cL_act 158 = .ok (.iload 5, 2) := by decide +kernel
theorem dL_act_160 : decode cL_act 160 = .ok (.invokestatic 58, 3) := by decide +kernel
theorem dL_act_163 : decode cL_act 163 = .ok (.iconst 0, 1) := by decide +kernel
theorem dL_act_164 : decode cL_act 164 = .ok (.invokestatic 39, 3) := by decide +kernel
theorem dL_act_167 : decode cL_act 167 = .ok (.if_icmp .ne 7, 3) := by decide +kernel
theorem dL_act_170 : decode cL_act 170 = .ok (.iconst 1, 1) := by decide +kernel
theorem dL_act_171 : decode cL_act 171 = .ok (.goto 4, 3) := by decide +kernel
theorem dL_act_174 : decode cL_act 174 = .ok (.iconst 0, 1) := by decide +kernel
theorem dL_act_175 : decode cL_act 175 = .ok (.ireturn, 1) := by decide +kernel
theorem dL_act_176 : decode cL_act 176 = .ok (.iload_n 3, 1) := by decide +kernel
theorem dL_act_177 : decode cL_act 177 = .ok (.bipush 13, 2) := by decide +kernel
theorem dL_act_179 : decode cL_act 179 = .ok (.if_icmp .ge 52, 3) := by decide +kernel
theorem dL_act_182 : decode cL_act 182 = .ok (.aload_n 2, 1) := by decide +kernel
theorem dL_act_183 : decode cL_act 183 = .ok (.iload 6, 2) := by decide +kernel
theorem dL_act_185 : decode cL_act 185 = .ok (.iconst 3, 1) := by decide +kernel
theorem dL_act_186 : decode cL_act 186 = .ok (.iadd, 1) := by decide +kernel
theorem dL_act_187 : decode cL_act 187 = .ok (.iaload, 1) := by decide +kernel
theorem dL_act_188 : decode cL_act 188 = .ok (.istore 7, 2) := by decide +kernel
theorem dL_act_190 : decode cL_act 190 = .ok (.aload_n 2, 1) := by decide +kernel
theorem dL_act_191 : decode cL_act 191 = .ok (.iload 6, 2) := by decide +kernel
theorem dL_act_193 : decode cL_act 193 = .ok (.iconst 3, 1) := by decide +kernel
theorem dL_act_194 : decode cL_act 194 = .ok (.iadd, 1) := by decide +kernel
theorem dL_act_195 : decode cL_act 195 = .ok (.iconst (-1), 1) := by decide +kernel
theorem dL_act_196 : decode cL_act 196 = .ok (.iastore, 1) := by decide +kernel
theorem dL_act_197 : decode cL_act 197 = .ok (.aload_n 2, 1) := by decide +kernel
theorem dL_act_198 : decode cL_act 198 = .ok (.iload 6, 2) := by decide +kernel
theorem dL_act_200 : decode cL_act 200 = .ok (.iconst 4, 1) := by decide +kernel
theorem dL_act_201 : decode cL_act 201 = .ok (.iadd, 1) := by decide +kernel
theorem dL_act_202 : decode cL_act 202 = .ok (.iconst (-1), 1) := by decide +kernel
theorem dL_act_203 : decode cL_act 203 = .ok (.iastore, 1) := by decide +kernel
theorem dL_act_204 : decode cL_act 204 = .ok (.aload_n 0, 1) := by decide +kernel
theorem dL_act_205 : decode cL_act 205 = .ok (.iload 4, 2) := by decide +kernel
theorem dL_act_207 : decode cL_act 207 = .ok (.invokevirtual 62, 3) := by decide +kernel
theorem dL_act_210 : decode cL_act 210 = .ok (.iload 7, 2) := by decide +kernel
theorem dL_act_212 : decode cL_act 212 = .ok (.ifCond .ge 8, 3) := by decide +kernel
theorem dL_act_215 : decode cL_act 215 = .ok (.bipush (-103), 2) := by decide +kernel
theorem dL_act_217 : decode cL_act 217 = .ok (.goto 5, 3) := by decide +kernel
theorem dL_act_220 : decode cL_act 220 = .ok (.iload 7, 2) := by decide +kernel
theorem dL_act_222 : decode cL_act 222 = .ok (.if_icmp .ne 7, 3) := by decide +kernel
theorem dL_act_225 : decode cL_act 225 = .ok (.iconst 1, 1) := by decide +kernel
theorem dL_act_226 : decode cL_act 226 = .ok (.goto 4, 3) := by decide +kernel
theorem dL_act_229 : decode cL_act 229 = .ok (.iconst 0, 1) := by decide +kernel
theorem dL_act_230 : decode cL_act 230 = .ok (.ireturn, 1) := by decide +kernel
theorem dL_act_231 : decode cL_act 231 = .ok (.iload_n 3, 1) := by decide +kernel
theorem dL_act_232 : decode cL_act 232 = .ok (.bipush 14, 2) := by decide +kernel
theorem dL_act_234 : decode cL_act 234 = .ok (.if_icmp .ge 48, 3) := by decide +kernel
theorem dL_act_237 : decode cL_act 237 = .ok (.aload_n 2, 1) := by decide +kernel
theorem dL_act_238 : decode cL_act 238 = .ok (.iload 6, 2) := by decide +kernel
theorem dL_act_240 : decode cL_act 240 = .ok (.iconst 1, 1) := by decide +kernel
theorem dL_act_241 : decode cL_act 241 = .ok (.iadd, 1) := by decide +kernel
theorem dL_act_242 : decode cL_act 242 = .ok (.iaload, 1) := by decide +kernel
theorem dL_act_243 : decode cL_act 243 = .ok (.istore 7, 2) := by decide +kernel
theorem dL_act_245 : decode cL_act 245 = .ok (.aload_n 2, 1) := by decide +kernel
theorem dL_act_246 : decode cL_act 246 = .ok (.iload 6, 2) := by decide +kernel
theorem dL_act_248 : decode cL_act 248 = .ok (.iconst 1, 1) := by decide +kernel
theorem dL_act_249 : decode cL_act 249 = .ok (.iadd, 1) := by decide +kernel
theorem dL_act_250 : decode cL_act 250 = .ok (.iload_n 1, 1) := by decide +kernel
theorem dL_act_251 : decode cL_act 251 = .ok (.sipush 512, 3) := by decide +kernel
theorem dL_act_254 : decode cL_act 254 = .ok (.idiv, 1) := by decide +kernel
theorem dL_act_255 : decode cL_act 255 = .ok (.bipush 10, 2) := by decide +kernel
theorem dL_act_257 : decode cL_act 257 = .ok (.irem, 1) := by decide +kernel
theorem dL_act_258 : decode cL_act 258 = .ok (.iastore, 1) := by decide +kernel
theorem dL_act_259 : decode cL_act 259 = .ok (.aload_n 0, 1) := by decide +kernel
theorem dL_act_260 : decode cL_act 260 = .ok (.iload 4, 2) := by decide +kernel
theorem dL_act_262 : decode cL_act 262 = .ok (.aload_n 2, 1) := by decide +kernel
theorem dL_act_263 : decode cL_act 263 = .ok (.iload 6, 2) := by decide +kernel
theorem dL_act_265 : decode cL_act 265 = .ok (.iconst 1, 1) := by decide +kernel
theorem dL_act_266 : decode cL_act 266 = .ok (.iadd, 1) := by decide +kernel
theorem dL_act_267 : decode cL_act 267 = .ok (.iaload, 1) := by decide +kernel
theorem dL_act_268 : decode cL_act 268 = .ok (.invokevirtual 65, 3) := by decide +kernel
theorem dL_act_271 : decode cL_act 271 = .ok (.iload 7, 2) := by decide +kernel
theorem dL_act_273 : decode cL_act 273 = .ok (.if_icmp .ne 7, 3) := by decide +kernel
theorem dL_act_276 : decode cL_act 276 = .ok (.iconst 1, 1) := by decide +kernel
theorem dL_act_277 : decode cL_act 277 = .ok (.goto 4, 3) := by decide +kernel
theorem dL_act_280 : decode cL_act 280 = .ok (.iconst 0, 1) := by decide +kernel
theorem dL_act_281 : decode cL_act 281 = .ok (.ireturn, 1) := by decide +kernel
theorem dL_act_282 : decode cL_act 282 = .ok (.aload_n 2, 1) := by decide +kernel
