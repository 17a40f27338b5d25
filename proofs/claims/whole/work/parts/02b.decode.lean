theorem dX6_init_41 : decode cX6_init 41 = .ok (.dup, 1) := by decide +kernel
theorem dX6_init_42 : decode cX6_init 42 = .ok (.invokespecial 18, 3) := by decide +kernel
theorem dX6_init_45 : decode cX6_init 45 = .ok (.putfield 26, 3) := by decide +kernel
theorem dX6_init_48 : decode cX6_init 48 = .ok (.aload_n 0, 1) := by decide +kernel
theorem dX6_init_49 : decode cX6_init 49 = .ok (.new 29, 3) := by decide +kernel
theorem dX6_init_52 : decode cX6_init 52 = .ok (.dup, 1) := by decide +kernel
theorem dX6_init_53 : decode cX6_init 53 = .ok (.invokespecial 31, 3) := by decide +kernel
theorem dX6_init_56 : decode cX6_init 56 = .ok (.putfield 32, 3) := by decide +kernel
theorem dX6_init_59 : decode cX6_init 59 = .ok (.aload_n 0, 1) := by decide +kernel
theorem dX6_init_60 : decode cX6_init 60 = .ok (.new 36, 3) := by decide +kernel
theorem dX6_init_63 : decode cX6_init 63 = .ok (.dup, 1) := by decide +kernel
theorem dX6_init_64 : decode cX6_init 64 = .ok (.invokespecial 38, 3) := by decide +kernel
theorem dX6_init_67 : decode cX6_init 67 = .ok (.putfield 39, 3) := by decide +kernel
theorem dX6_init_70 : decode cX6_init 70 = .ok (.aload_n 0, 1) := by decide +kernel
theorem dX6_init_71 : decode cX6_init 71 = .ok (.new 43, 3) := by decide +kernel
theorem dX6_init_74 : decode cX6_init 74 = .ok (.dup, 1) := by decide +kernel
theorem dX6_init_75 : decode cX6_init 75 = .ok (.invokespecial 45, 3) := by decide +kernel
theorem dX6_init_78 : decode cX6_init 78 = .ok (.putfield 46, 3) := by decide +kernel
theorem dX6_init_81 : decode cX6_init 81 = .ok (.aload_n 0, 1) := by decide +kernel
theorem dX6_init_82 : decode cX6_init 82 = .ok (.new 50, 3) := by decide +kernel
theorem dX6_init_85 : decode cX6_init 85 = .ok (.dup, 1) := by decide +kernel
theorem dX6_init_86 : decode cX6_init 86 = .ok (.invokespecial 52, 3) := by decide +kernel
theorem dX6_init_89 : decode cX6_init 89 = .ok (.putfield 53, 3) := by decide +kernel
theorem dX6_init_92 : decode cX6_init 92 = .ok (.return_, 1) := by decide +kernel
theorem dX6_letter_0 : decode cX6_letter 0 = .ok (.iload_n 1, 1) := by decide +kernel
theorem dX6_letter_1 : decode cX6_letter 1 = .ok (.bipush 32, 2) := by decide +kernel
theorem dX6_letter_3 : decode cX6_letter 3 = .ok (.bipush 126, 2) := by decide +kernel
theorem dX6_letter_5 : decode cX6_letter 5 = .ok (.invokestatic 57, 3) := by decide +kernel
theorem dX6_letter_8 : decode cX6_letter 8 = .ok (.ifCond .ne 6, 3) := by decide +kernel
theorem dX6_letter_11 : decode cX6_letter 11 = .ok (.bipush (-102), 2) := by decide +kernel
theorem dX6_letter_13 : decode cX6_letter 13 = .ok (.ireturn, 1) := by decide +kernel
theorem dX6_letter_14 : decode cX6_letter 14 = .ok (.aload_n 0, 1) := by decide +kernel
theorem dX6_letter_15 : decode cX6_letter 15 = .ok (.getfield 12, 3) := by decide +kernel
theorem dX6_letter_18 : decode cX6_letter 18 = .ok (.iload_n 1, 1) := by decide +kernel
theorem dX6_letter_19 : decode cX6_letter 19 = .ok (.invokevirtual 61, 3) := by decide +kernel
theorem dX6_letter_22 : decode cX6_letter 22 = .ok (.ifCond .eq 13, 3) := by decide +kernel
theorem dX6_letter_25 : decode cX6_letter 25 = .ok (.aload_n 0, 1) := by decide +kernel
theorem dX6_letter_26 : decode cX6_letter 26 = .ok (.getfield 12, 3) := by decide +kernel
theorem dX6_letter_29 : decode cX6_letter 29 = .ok (.getfield 65, 3) := by decide +kernel
theorem dX6_letter_32 : decode cX6_letter 32 = .ok (.goto 5, 3) := by decide +kernel
theorem dX6_letter_35 : decode cX6_letter 35 = .ok (.bipush (-104), 2) := by decide +kernel
theorem dX6_letter_37 : decode cX6_letter 37 = .ok (.ireturn, 1) := by decide +kernel
theorem dX6_blank_0 : decode cX6_blank 0 = .ok (.aload_n 0, 1) := by decide +kernel
theorem dX6_blank_1 : decode cX6_blank 1 = .ok (.getfield 12, 3) := by decide +kernel
theorem dX6_blank_4 : decode cX6_blank 4 = .ok (.getfield 65, 3) := by decide +kernel
theorem dX6_blank_7 : decode cX6_blank 7 = .ok (.istore_n 1, 1) := by decide +kernel
theorem dX6_blank_8 : decode cX6_blank 8 = .ok (.aload_n 0, 1) := by decide +kernel
theorem dX6_blank_9 : decode cX6_blank 9 = .ok (.getfield 12, 3) := by decide +kernel
theorem dX6_blank_12 : decode cX6_blank 12 = .ok (.iconst 0, 1) := by decide +kernel
theorem dX6_blank_13 : decode cX6_blank 13 = .ok (.putfield 65, 3) := by decide +kernel
theorem dX6_blank_16 : decode cX6_blank 16 = .ok (.iload_n 1, 1) := by decide +kernel
theorem dX6_blank_17 : decode cX6_blank 17 = .ok (.ireturn, 1) := by decide +kernel
theorem dX6_fault_0 : decode cX6_fault 0 = .ok (.aload_n 0, 1) := by decide +kernel
theorem dX6_fault_1 : decode cX6_fault 1 = .ok (.getfield 12, 3) := by decide +kernel
theorem dX6_fault_4 : decode cX6_fault 4 = .ok (.invokevirtual 69, 3) := by decide +kernel
theorem dX6_fault_7 : decode cX6_fault 7 = .ok (.ireturn, 1) := by decide +kernel
theorem dX6_shop_0 : decode cX6_shop 0 = .ok (.aload_n 0, 1) := by decide +kernel
theorem dX6_shop_1 : decode cX6_shop 1 = .ok (.getfield 12, 3) := by decide +kernel
theorem dX6_shop_4 : decode cX6_shop 4 = .ok (.invokevirtual 73, 3) := by decide +kernel
theorem dX6_shop_7 : decode cX6_shop 7 = .ok (.ifCond .ne 6, 3) := by decide +kernel
theorem dX6_shop_10 : decode cX6_shop 10 = .ok (.bipush (-103), 2) := by decide +kernel
theorem dX6_shop_12 : decode cX6_shop 12 = .ok (.ireturn, 1) := by decide +kernel
theorem dX6_shop_13 : decode cX6_shop 13 = .ok (.aload_n 0, 1) := by decide +kernel
theorem dX6_shop_14 : decode cX6_shop 14 = .ok (.getfield 12, 3) := by decide +kernel
theorem dX6_shop_17 : decode cX6_shop 17 = .ok (.aload_n 0, 1) := by decide +kernel
theorem dX6_shop_18 : decode cX6_shop 18 = .ok (.getfield 19, 3) := by decide +kernel
theorem dX6_shop_21 : decode cX6_shop 21 = .ok (.invokevirtual 77, 3) := by decide +kernel
theorem dX6_shop_24 : decode cX6_shop 24 = .ok (.aload_n 0, 1) := by decide +kernel
theorem dX6_shop_25 : decode cX6_shop 25 = .ok (.getfield 12, 3) := by decide +kernel
theorem dX6_shop_28 : decode cX6_shop 28 = .ok (.iconst 0, 1) := by decide +kernel
theorem dX6_shop_29 : decode cX6_shop 29 = .ok (.putfield 65, 3) := by decide +kernel
theorem dX6_shop_32 : decode cX6_shop 32 = .ok (.aload_n 0, 1) := by decide +kernel
theorem dX6_shop_33 : decode cX6_shop 33 = .ok (.iconst 0, 1) := by decide +kernel
theorem dX6_shop_34 : decode cX6_shop 34 = .ok (.putfield 81, 3) := by decide +kernel
theorem dX6_shop_37 : decode cX6_shop 37 = .ok (.aload_n 0, 1) := by decide +kernel
theorem dX6_shop_38 : decode cX6_shop 38 = .ok (.dup, 1) := by decide +kernel
theorem dX6_shop_39 : decode cX6_shop 39 = .ok (.getfield 85, 3) := by decide +kernel
theorem dX6_shop_42 : decode cX6_shop 42 = .ok (.iconst 1, 1) := by decide +kernel
theorem dX6_shop_43 : decode cX6_shop 43 = .ok (.iadd, 1) := by decide +kernel
theorem dX6_shop_44 : decode cX6_shop 44 = .ok (.putfield 85, 3) := by decide +kernel
theorem dX6_shop_47 : decode cX6_shop 47 = .ok (.aload_n 0, 1) := by decide +kernel
theorem dX6_shop_48 : decode cX6_shop 48 = .ok (.getfield 19, 3) := by decide +kernel
theorem dX6_shop_51 : decode cX6_shop 51 = .ok (.getfield 88, 3) := by decide +kernel
theorem dX6_shop_54 : decode cX6_shop 54 = .ok (.ireturn, 1) := by decide +kernel
theorem dX6_glove_0 : decode cX6_glove 0 = .ok (.aload_n 0, 1) := by decide +kernel
theorem dX6_glove_1 : decode cX6_glove 1 = .ok (.getfield 19, 3) := by decide +kernel
theorem dX6_glove_4 : decode cX6_glove 4 = .ok (.iload_n 1, 1) := by decide +kernel
theorem dX6_glove_5 : decode cX6_glove 5 = .ok (.invokevirtual 91, 3) := by decide +kernel
theorem dX6_glove_8 : decode cX6_glove 8 = .ok (.ifCond .ne 6, 3) := by decide +kernel
theorem dX6_glove_11 : decode cX6_glove 11 = .ok (.bipush (-101), 2) := by decide +kernel
theorem dX6_glove_13 : decode cX6_glove 13 = .ok (.ireturn, 1) := by decide +kernel
theorem dX6_glove_14 : decode cX6_glove 14 = .ok (.iload_n 2, 1) := by decide +kernel
theorem dX6_glove_15 : decode cX6_glove 15 = .ok (.tableswitch 146 0 8 #[49, 61, 73, 85, 95, 107, 119, 128, 137], 49) := by decide +kernel
theorem dX6_glove_64 : decode cX6_glove 64 = .ok (.aload_n 0, 1) := by decide +kernel
theorem dX6_glove_65 : decode cX6_glove 65 = .ok (.getfield 19, 3) := by decide +kernel
theorem dX6_glove_68 : decode cX6_glove 68 = .ok (.getfield 94, 3) := by decide +kernel
theorem dX6_glove_71 : decode cX6_glove 71 = .ok (.iload_n 1, 1) := by decide +kernel
theorem dX6_glove_72 : decode cX6_glove 72 = .ok (.invokestatic 98, 3) := by decide +kernel
theorem dX6_glove_75 : decode cX6_glove 75 = .ok (.ireturn, 1) := by decide +kernel
theorem dX6_glove_76 : decode cX6_glove 76 = .ok (.aload_n 0, 1) := by decide +kernel
theorem dX6_glove_77 : decode cX6_glove 77 = .ok (.getfield 19, 3) := by decide +kernel
theorem dX6_glove_80 : decode cX6_glove 80 = .ok (.getfield 102, 3) := by decide +kernel
theorem dX6_glove_83 : decode cX6_glove 83 = .ok (.iload_n 1, 1) := by decide +kernel
theorem dX6_glove_84 : decode cX6_glove 84 = .ok (.invokestatic 98, 3) := by decide +kernel
theorem dX6_glove_87 : decode cX6_glove 87 = .ok (.ireturn, 1) := by decide +kernel
theorem dX6_glove_88 : decode cX6_glove 88 = .ok (.aload_n 0, 1) := by decide +kernel
theorem dX6_glove_89 : decode cX6_glove 89 = .ok (.getfield 19, 3) := by decide +kernel
theorem dX6_glove_92 : decode cX6_glove 92 = .ok (.getfield 105, 3) := by decide +kernel
theorem dX6_glove_95 : decode cX6_glove 95 = .ok (.iload_n 1, 1) := by decide +kernel
theorem dX6_glove_96 : decode cX6_glove 96 = .ok (.invokestatic 98, 3) := by decide +kernel
theorem dX6_glove_99 : decode cX6_glove 99 = .ok (.ireturn, 1) := by decide +kernel
theorem dX6_glove_100 : decode cX6_glove 100 = .ok (.aload_n 0, 1) := by decide +kernel
theorem dX6_glove_101 : decode cX6_glove 101 = .ok (.getfield 19, 3) := by decide +kernel
theorem dX6_glove_104 : decode cX6_glove 104 = .ok (.iload_n 1, 1) := by decide +kernel
theorem dX6_glove_105 : decode cX6_glove 105 = .ok (.iconst 0, 1) := by decide +kernel
theorem dX6_glove_106 : decode cX6_glove 106 = .ok (.invokevirtual 108, 3) := by decide +kernel
theorem dX6_glove_109 : decode cX6_glove 109 = .ok (.ireturn, 1) := by decide +kernel
theorem dX6_glove_110 : decode cX6_glove 110 = .ok (.aload_n 0, 1) := by decide +kernel
theorem dX6_glove_111 : decode cX6_glove 111 = .ok (.getfield 19, 3) := by decide +kernel
theorem dX6_glove_114 : decode cX6_glove 114 = .ok (.getfield 112, 3) := by decide +kernel
theorem dX6_glove_117 : decode cX6_glove 117 = .ok (.iload_n 1, 1) := by decide +kernel
theorem dX6_glove_118 : decode cX6_glove 118 = .ok (.invokestatic 98, 3) := by decide +kernel
theorem dX6_glove_121 : decode cX6_glove 121 = .ok (.ireturn, 1) := by decide +kernel
theorem dX6_glove_122 : decode cX6_glove 122 = .ok (.aload_n 0, 1) := by decide +kernel
theorem dX6_glove_123 : decode cX6_glove 123 = .ok (.getfield 19, 3) := by decide +kernel
theorem dX6_glove_126 : decode cX6_glove 126 = .ok (.getfield 115, 3) := by decide +kernel
theorem dX6_glove_129 : decode cX6_glove 129 = .ok (.iload_n 1, 1) := by decide +kernel
theorem dX6_glove_130 : decode cX6_glove 130 = .ok (.invokestatic 98, 3) := by decide +kernel
theorem dX6_glove_133 : decode cX6_glove 133 = .ok (.ireturn, 1) := by decide +kernel
theorem dX6_glove_134 : decode cX6_glove 134 = .ok (.aload_n 0, 1) := by decide +kernel
theorem dX6_glove_135 : decode cX6_glove 135 = .ok (.getfield 19, 3) := by decide +kernel
theorem dX6_glove_138 : decode cX6_glove 138 = .ok (.iload_n 1, 1) := by decide +kernel
theorem dX6_glove_139 : decode cX6_glove 139 = .ok (.invokevirtual 118, 3) := by decide +kernel
theorem dX6_glove_142 : decode cX6_glove 142 = .ok (.ireturn, 1) := by decide +kernel
theorem dX6_glove_143 : decode cX6_glove 143 = .ok (.aload_n 0, 1) := by decide +kernel
theorem dX6_glove_144 : decode cX6_glove 144 = .ok (.getfield 19, 3) := by decide +kernel
theorem dX6_glove_147 : decode cX6_glove 147 = .ok (.iload_n 1, 1) := by decide +kernel
theorem dX6_glove_148 : decode cX6_glove 148 = .ok (.invokevirtual 122, 3) := by decide +kernel
theorem dX6_glove_151 : decode cX6_glove 151 = .ok (.ireturn, 1) := by decide +kernel
theorem dX6_glove_152 : decode cX6_glove 152 = .ok (.aload_n 0, 1) := by decide +kernel
theorem dX6_glove_153 : decode cX6_glove 153 = .ok (.getfield 19, 3) := by decide +kernel
theorem dX6_glove_156 : decode cX6_glove 156 = .ok (.iload_n 1, 1) := by decide +kernel
theorem dX6_glove_157 : decode cX6_glove 157 = .ok (.invokevirtual 125, 3) := by decide +kernel
theorem dX6_glove_160 : decode cX6_glove 160 = .ok (.ireturn, 1) := by decide +kernel
theorem dX6_glove_161 : decode cX6_glove 161 = .ok (.bipush (-102), 2) := by decide +kernel
theorem dX6_glove_163 : decode cX6_glove 163 = .ok (.ireturn, 1) := by decide +kernel
theorem dX6_as_0 : decode cX6_as 0 = .ok (.aload_n 0, 1) := by decide +kernel
theorem dX6_as_1 : decode cX6_as 1 = .ok (.getfield 19, 3) := by decide +kernel
theorem dX6_as_4 : decode cX6_as 4 = .ok (.iload_n 1, 1) := by decide +kernel
theorem dX6_as_5 : decode cX6_as 5 = .ok (.invokevirtual 91, 3) := by decide +kernel
theorem dX6_as_8 : decode cX6_as 8 = .ok (.ifCond .ne 6, 3) := by decide +kernel
theorem dX6_as_11 : decode cX6_as 11 = .ok (.bipush (-101), 2) := by decide +kernel
theorem dX6_as_13 : decode cX6_as 13 = .ok (.ireturn, 1) := by decide +kernel
theorem dX6_as_14 : decode cX6_as 14 = .ok (.iload_n 2, 1) := by decide +kernel
theorem dX6_as_15 : decode cX6_as 15 = .ok (.iconst 0, 1) := by decide +kernel
theorem dX6_as_16 : decode cX6_as 16 = .ok (.iconst 4, 1) := by decide +kernel
theorem dX6_as_17 : decode cX6_as 17 = .ok (.invokestatic 57, 3) := by decide +kernel
theorem dX6_as_20 : decode cX6_as 20 = .ok (.ifCond .ne 6, 3) := by decide +kernel
theorem dX6_as_23 : decode cX6_as 23 = .ok (.bipush (-102), 2) := by decide +kernel
theorem dX6_as_25 : decode cX6_as 25 = .ok (.ireturn, 1) := by decide +kernel
theorem dX6_as_26 : decode cX6_as 26 = .ok (.aload_n 0, 1) := by decide +kernel
theorem dX6_as_27 : decode cX6_as 27 = .ok (.getfield 19, 3) := by decide +kernel
theorem dX6_as_30 : decode cX6_as 30 = .ok (.getfield 94, 3) := by decide +kernel
theorem dX6_as_33 : decode cX6_as 33 = .ok (.iload_n 1, 1) := by decide +kernel
theorem dX6_as_34 : decode cX6_as 34 = .ok (.invokestatic 98, 3) := by decide +kernel
theorem dX6_as_37 : decode cX6_as 37 = .ok (.iload_n 2, 1) := by decide +kernel
theorem dX6_as_38 : decode cX6_as 38 = .ok (.invokestatic 128, 3) := by decide +kernel
theorem dX6_as_41 : decode cX6_as 41 = .ok (.ifCond .eq 7, 3) := by decide +kernel
theorem dX6_as_44 : decode cX6_as 44 = .ok (.iload_n 1, 1) := by decide +kernel
theorem dX6_as_45 : decode cX6_as 45 = .ok (.goto 4, 3) := by decide +kernel
theorem dX6_as_48 : decode cX6_as 48 = .ok (.iconst (-1), 1) := by decide +kernel
theorem dX6_as_49 : decode cX6_as 49 = .ok (.ireturn, 1) := by decide +kernel
theorem dX6_wearer_0 : decode cX6_wearer 0 = .ok (.aload_n 0, 1) := by decide +kernel
theorem dX6_wearer_1 : decode cX6_wearer 1 = .ok (.getfield 19, 3) := by decide +kernel
theorem dX6_wearer_4 : decode cX6_wearer 4 = .ok (.iload_n 1, 1) := by decide +kernel
theorem dX6_wearer_5 : decode cX6_wearer 5 = .ok (.invokevirtual 132, 3) := by decide +kernel
theorem dX6_wearer_8 : decode cX6_wearer 8 = .ok (.ifCond .ne 6, 3) := by decide +kernel
theorem dX6_wearer_11 : decode cX6_wearer 11 = .ok (.bipush (-101), 2) := by decide +kernel
theorem dX6_wearer_13 : decode cX6_wearer 13 = .ok (.ireturn, 1) := by decide +kernel
theorem dX6_wearer_14 : decode cX6_wearer 14 = .ok (.iload_n 2, 1) := by decide +kernel
theorem dX6_wearer_15 : decode cX6_wearer 15 = .ok (.tableswitch 168 0 8 #[49, 61, 71, 81, 91, 104, 116, 142, 159], 49) := by decide +kernel
theorem dX6_wearer_64 : decode cX6_wearer 64 = .ok (.aload_n 0, 1) := by decide +kernel
theorem dX6_wearer_65 : decode cX6_wearer 65 = .ok (.getfield 19, 3) := by decide +kernel
theorem dX6_wearer_68 : decode cX6_wearer 68 = .ok (.getfield 135, 3) := by decide +kernel
theorem dX6_wearer_71 : decode cX6_wearer 71 = .ok (.iload_n 1, 1) := by decide +kernel
theorem dX6_wearer_72 : decode cX6_wearer 72 = .ok (.invokestatic 98, 3) := by decide +kernel
theorem dX6_wearer_75 : decode cX6_wearer 75 = .ok (.ireturn, 1) := by decide +kernel
theorem dX6_wearer_76 : decode cX6_wearer 76 = .ok (.aload_n 0, 1) := by decide +kernel
theorem dX6_wearer_77 : decode cX6_wearer 77 = .ok (.getfield 19, 3) := by decide +kernel
theorem dX6_wearer_80 : decode cX6_wearer 80 = .ok (.iload_n 1, 1) := by decide +kernel
theorem dX6_wearer_81 : decode cX6_wearer 81 = .ok (.iconst 0, 1) := by decide +kernel
theorem dX6_wearer_82 : decode cX6_wearer 82 = .ok (.invokevirtual 138, 3) := by decide +kernel
theorem dX6_wearer_85 : decode cX6_wearer 85 = .ok (.ireturn, 1) := by decide +kernel
theorem dX6_wearer_86 : decode cX6_wearer 86 = .ok (.aload_n 0, 1) := by decide +kernel
theorem dX6_wearer_87 : decode cX6_wearer 87 = .ok (.getfield 19, 3) := by decide +kernel
theorem dX6_wearer_90 : decode cX6_wearer 90 = .ok (.iload_n 1, 1) := by decide +kernel
theorem dX6_wearer_91 : decode cX6_wearer 91 = .ok (.iconst 0, 1) := by decide +kernel
theorem dX6_wearer_92 : decode cX6_wearer 92 = .ok (.invokevirtual 141, 3) := by decide +kernel
theorem dX6_wearer_95 : decode cX6_wearer 95 = .ok (.ireturn, 1) := by decide +kernel
theorem dX6_wearer_96 : decode cX6_wearer 96 = .ok (.aload_n 0, 1) := by decide +kernel
theorem dX6_wearer_97 : decode cX6_wearer 97 = .ok (.getfield 19, 3) := by decide +kernel
theorem dX6_wearer_100 : decode cX6_wearer 100 = .ok (.iload_n 1, 1) := by decide +kernel
theorem dX6_wearer_101 : decode cX6_wearer 101 = .ok (.iconst 1, 1) := by decide +kernel
theorem dX6_wearer_102 : decode cX6_wearer 102 = .ok (.invokevirtual 141, 3) := by decide +kernel
theorem dX6_wearer_105 : decode cX6_wearer 105 = .ok (.ireturn, 1) := by decide +kernel
theorem dX6_wearer_106 : decode cX6_wearer 106 = .ok (.aload_n 0, 1) := by decide +kernel
theorem dX6_wearer_107 : decode cX6_wearer 107 = .ok (.getfield 19, 3) := by decide +kernel
theorem dX6_wearer_110 : decode cX6_wearer 110 = .ok (.iload_n 1, 1) := by decide +kernel
theorem dX6_wearer_111 : decode cX6_wearer 111 = .ok (.iconst 0, 1) := by decide +kernel
theorem dX6_wearer_112 : decode cX6_wearer 112 = .ok (.invokevirtual 138, 3) := by decide +kernel
theorem dX6_wearer_115 : decode cX6_wearer 115 = .ok (.invokestatic 144, 3) := by decide +kernel
theorem dX6_wearer_118 : decode cX6_wearer 118 = .ok (.ireturn, 1) := by decide +kernel
theorem dX6_wearer_119 : decode cX6_wearer 119 = .ok (.aload_n 0, 1) := by decide +kernel
theorem dX6_wearer_120 : decode cX6_wearer 120 = .ok (.getfield 19, 3) := by decide +kernel
theorem dX6_wearer_123 : decode cX6_wearer 123 = .ok (.getfield 147, 3) := by decide +kernel
theorem dX6_wearer_126 : decode cX6_wearer 126 = .ok (.iload_n 1, 1) := by decide +kernel
theorem dX6_wearer_127 : decode cX6_wearer 127 = .ok (.invokestatic 98, 3) := by decide +kernel
theorem dX6_wearer_130 : decode cX6_wearer 130 = .ok (.ireturn, 1) := by decide +kernel
theorem dX6_wearer_131 : decode cX6_wearer 131 = .ok (.aload_n 0, 1) := by decide +kernel
theorem dX6_wearer_132 : decode cX6_wearer 132 = .ok (.getfield 19, 3) := by decide +kernel
theorem dX6_wearer_135 : decode cX6_wearer 135 = .ok (.iload_n 1, 1) := by decide +kernel
theorem dX6_wearer_136 : decode cX6_wearer 136 = .ok (.aload_n 0, 1) := by decide +kernel
theorem dX6_wearer_137 : decode cX6_wearer 137 = .ok (.getfield 19, 3) := by decide +kernel
theorem dX6_wearer_140 : decode cX6_wearer 140 = .ok (.iload_n 1, 1) := by decide +kernel
theorem dX6_wearer_141 : decode cX6_wearer 141 = .ok (.iconst 0, 1) := by decide +kernel
theorem dX6_wearer_142 : decode cX6_wearer 142 = .ok (.invokevirtual 138, 3) := by decide +kernel
theorem dX6_wearer_145 : decode cX6_wearer 145 = .ok (.invokevirtual 150, 3) := by decide +kernel
theorem dX6_wearer_148 : decode cX6_wearer 148 = .ok (.ifCond .eq 7, 3) := by decide +kernel
theorem dX6_wearer_151 : decode cX6_wearer 151 = .ok (.iconst 1, 1) := by decide +kernel
theorem dX6_wearer_152 : decode cX6_wearer 152 = .ok (.goto 4, 3) := by decide +kernel
theorem dX6_wearer_155 : decode cX6_wearer 155 = .ok (.iconst 0, 1) := by decide +kernel
theorem dX6_wearer_156 : decode cX6_wearer 156 = .ok (.ireturn, 1) := by decide +kernel
theorem dX6_wearer_157 : decode cX6_wearer 157 = .ok (.aload_n 0, 1) := by decide +kernel
theorem dX6_wearer_158 : decode cX6_wearer 158 = .ok (.getfield 19, 3) := by decide +kernel
theorem dX6_wearer_161 : decode cX6_wearer 161 = .ok (.iload_n 1, 1) := by decide +kernel
theorem dX6_wearer_162 : decode cX6_wearer 162 = .ok (.aload_n 0, 1) := by decide +kernel
theorem dX6_wearer_163 : decode cX6_wearer 163 = .ok (.getfield 19, 3) := by decide +kernel
theorem dX6_wearer_166 : decode cX6_wearer 166 = .ok (.iload_n 1, 1) := by decide +kernel
theorem dX6_wearer_167 : decode cX6_wearer 167 = .ok (.invokevirtual 153, 3) := by decide +kernel
theorem dX6_wearer_170 : decode cX6_wearer 170 = .ok (.invokevirtual 156, 3) := by decide +kernel
theorem dX6_wearer_173 : decode cX6_wearer 173 = .ok (.ireturn, 1) := by decide +kernel
theorem dX6_wearer_174 : decode cX6_wearer 174 = .ok (.aload_n 0, 1) := by decide +kernel
theorem dX6_wearer_175 : decode cX6_wearer 175 = .ok (.getfield 19, 3) := by decide +kernel
theorem dX6_wearer_178 : decode cX6_wearer 178 = .ok (.iload_n 1, 1) := by decide +kernel
theorem dX6_wearer_179 : decode cX6_wearer 179 = .ok (.invokevirtual 153, 3) := by decide +kernel
theorem dX6_wearer_182 : decode cX6_wearer 182 = .ok (.ireturn, 1) := by decide +kernel
theorem dX6_wearer_183 : decode cX6_wearer 183 = .ok (.bipush (-102), 2) := by decide +kernel
theorem dX6_wearer_185 : decode cX6_wearer 185 = .ok (.ireturn, 1) := by decide +kernel
theorem dX6_wear_0 : decode cX6_wear 0 = .ok (.aload_n 0, 1) := by decide +kernel
theorem dX6_wear_1 : decode cX6_wear 1 = .ok (.getfield 19, 3) := by decide +kernel
theorem dX6_wear_4 : decode cX6_wear 4 = .ok (.iload_n 1, 1) := by decide +kernel
theorem dX6_wear_5 : decode cX6_wear 5 = .ok (.invokevirtual 91, 3) := by decide +kernel
theorem dX6_wear_8 : decode cX6_wear 8 = .ok (.ifCond .eq 14, 3) := by decide +kernel
theorem dX6_wear_11 : decode cX6_wear 11 = .ok (.aload_n 0, 1) := by decide +kernel
theorem dX6_wear_12 : decode cX6_wear 12 = .ok (.getfield 19, 3) := by decide +kernel
theorem dX6_wear_15 : decode cX6_wear 15 = .ok (.iload_n 2, 1) := by decide +kernel
theorem dX6_wear_16 : decode cX6_wear 16 = .ok (.invokevirtual 132, 3) := by decide +kernel
theorem dX6_wear_19 : decode cX6_wear 19 = .ok (.ifCond .ne 6, 3) := by decide +kernel
theorem dX6_wear_22 : decode cX6_wear 22 = .ok (.bipush (-101), 2) := by decide +kernel
theorem dX6_wear_24 : decode cX6_wear 24 = .ok (.ireturn, 1) := by decide +kernel
theorem dX6_wear_25 : decode cX6_wear 25 = .ok (.iload_n 3, 1) := by decide +kernel
theorem dX6_wear_26 : decode cX6_wear 26 = .ok (.iconst 0, 1) := by decide +kernel
theorem dX6_wear_27 : decode cX6_wear 27 = .ok (.iconst 1, 1) := by decide +kernel
theorem dX6_wear_28 : decode cX6_wear 28 = .ok (.invokestatic 57, 3) := by decide +kernel
theorem dX6_wear_31 : decode cX6_wear 31 = .ok (.ifCond .ne 6, 3) := by decide +kernel
theorem dX6_wear_34 : decode cX6_wear 34 = .ok (.bipush (-102), 2) := by decide +kernel
theorem dX6_wear_36 : decode cX6_wear 36 = .ok (.ireturn, 1) := by decide +kernel
theorem dX6_wear_37 : decode cX6_wear 37 = .ok (.aload_n 0, 1) := by decide +kernel
theorem dX6_wear_38 : decode cX6_wear 38 = .ok (.getfield 19, 3) := by decide +kernel
theorem dX6_wear_41 : decode cX6_wear 41 = .ok (.getfield 112, 3) := by decide +kernel
theorem dX6_wear_44 : decode cX6_wear 44 = .ok (.iload_n 1, 1) := by decide +kernel
theorem dX6_wear_45 : decode cX6_wear 45 = .ok (.invokestatic 98, 3) := by decide +kernel
theorem dX6_wear_48 : decode cX6_wear 48 = .ok (.iconst (-1), 1) := by decide +kernel
theorem dX6_wear_49 : decode cX6_wear 49 = .ok (.if_icmp .ne 16, 3) := by decide +kernel
theorem dX6_wear_52 : decode cX6_wear 52 = .ok (.aload_n 0, 1) := by decide +kernel
theorem dX6_wear_53 : decode cX6_wear 53 = .ok (.getfield 19, 3) := by decide +kernel
theorem dX6_wear_56 : decode cX6_wear 56 = .ok (.iload_n 2, 1) := by decide +kernel
theorem dX6_wear_57 : decode cX6_wear 57 = .ok (.iload_n 3, 1) := by decide +kernel
theorem dX6_wear_58 : decode cX6_wear 58 = .ok (.invokevirtual 141, 3) := by decide +kernel
theorem dX6_wear_61 : decode cX6_wear 61 = .ok (.iconst (-1), 1) := by decide +kernel
theorem dX6_wear_62 : decode cX6_wear 62 = .ok (.if_icmp .eq 6, 3) := by decide +kernel
theorem dX6_wear_65 : decode cX6_wear 65 = .ok (.bipush (-103), 2) := by decide +kernel
theorem dX6_wear_67 : decode cX6_wear 67 = .ok (.ireturn, 1) := by decide +kernel
theorem dX6_wear_68 : decode cX6_wear 68 = .ok (.aload_n 0, 1) := by decide +kernel
theorem dX6_wear_69 : decode cX6_wear 69 = .ok (.getfield 19, 3) := by decide +kernel
theorem dX6_wear_72 : decode cX6_wear 72 = .ok (.iload_n 1, 1) := by decide +kernel
theorem dX6_wear_73 : decode cX6_wear 73 = .ok (.iload_n 2, 1) := by decide +kernel
theorem dX6_wear_74 : decode cX6_wear 74 = .ok (.iload_n 3, 1) := by decide +kernel
theorem dX6_wear_75 : decode cX6_wear 75 = .ok (.invokevirtual 159, 3) := by decide +kernel
theorem dX6_wear_78 : decode cX6_wear 78 = .ok (.aload_n 0, 1) := by decide +kernel
theorem dX6_wear_79 : decode cX6_wear 79 = .ok (.getfield 19, 3) := by decide +kernel
theorem dX6_wear_82 : decode cX6_wear 82 = .ok (.iload_n 2, 1) := by decide +kernel
theorem dX6_wear_83 : decode cX6_wear 83 = .ok (.iconst 0, 1) := by decide +kernel
theorem dX6_wear_84 : decode cX6_wear 84 = .ok (.invokevirtual 138, 3) := by decide +kernel
theorem dX6_wear_87 : decode cX6_wear 87 = .ok (.ireturn, 1) := by decide +kernel
theorem dX6_off_0 : decode cX6_off 0 = .ok (.aload_n 0, 1) := by decide +kernel
theorem dX6_off_1 : decode cX6_off 1 = .ok (.getfield 19, 3) := by decide +kernel
theorem dX6_off_4 : decode cX6_off 4 = .ok (.iload_n 1, 1) := by decide +kernel
theorem dX6_off_5 : decode cX6_off 5 = .ok (.invokevirtual 91, 3) := by decide +kernel
theorem dX6_off_8 : decode cX6_off 8 = .ok (.ifCond .ne 6, 3) := by decide +kernel
theorem dX6_off_11 : decode cX6_off 11 = .ok (.bipush (-101), 2) := by decide +kernel
theorem dX6_off_13 : decode cX6_off 13 = .ok (.ireturn, 1) := by decide +kernel
theorem dX6_off_14 : decode cX6_off 14 = .ok (.aload_n 0, 1) := by decide +kernel
theorem dX6_off_15 : decode cX6_off 15 = .ok (.getfield 19, 3) := by decide +kernel
theorem dX6_off_18 : decode cX6_off 18 = .ok (.getfield 112, 3) := by decide +kernel
theorem dX6_off_21 : decode cX6_off 21 = .ok (.iload_n 1, 1) := by decide +kernel
theorem dX6_off_22 : decode cX6_off 22 = .ok (.invokestatic 98, 3) := by decide +kernel
theorem dX6_off_25 : decode cX6_off 25 = .ok (.istore_n 2, 1) := by decide +kernel
theorem dX6_off_26 : decode cX6_off 26 = .ok (.iload_n 2, 1) := by decide +kernel
theorem dX6_off_27 : decode cX6_off 27 = .ok (.iconst (-1), 1) := by decide +kernel
theorem dX6_off_28 : decode cX6_off 28 = .ok (.if_icmp .ne 6, 3) := by decide +kernel
theorem dX6_off_31 : decode cX6_off 31 = .ok (.bipush (-103), 2) := by decide +kernel
theorem dX6_off_33 : decode cX6_off 33 = .ok (.ireturn, 1) := by decide +kernel
theorem dX6_off_34 : decode cX6_off 34 = .ok (.aload_n 0, 1) := by decide +kernel
theorem dX6_off_35 : decode cX6_off 35 = .ok (.getfield 19, 3) := by decide +kernel
theorem dX6_off_38 : decode cX6_off 38 = .ok (.iload_n 1, 1) := by decide +kernel
theorem dX6_off_39 : decode cX6_off 39 = .ok (.invokevirtual 163, 3) := by decide +kernel
theorem dX6_off_42 : decode cX6_off 42 = .ok (.iload_n 2, 1) := by decide +kernel
theorem dX6_off_43 : decode cX6_off 43 = .ok (.ireturn, 1) := by decide +kernel
theorem dX6_hour_0 : decode cX6_hour 0 = .ok (.aload_n 0, 1) := by decide +kernel
theorem dX6_hour_1 : decode cX6_hour 1 = .ok (.invokevirtual 167, 3) := by decide +kernel
theorem dX6_hour_4 : decode cX6_hour 4 = .ok (.ifCond .ne 6, 3) := by decide +kernel
theorem dX6_hour_7 : decode cX6_hour 7 = .ok (.bipush (-103), 2) := by decide +kernel
theorem dX6_hour_9 : decode cX6_hour 9 = .ok (.ireturn, 1) := by decide +kernel
theorem dX6_hour_10 : decode cX6_hour 10 = .ok (.aload_n 0, 1) := by decide +kernel
theorem dX6_hour_11 : decode cX6_hour 11 = .ok (.getfield 19, 3) := by decide +kernel
theorem dX6_hour_14 : decode cX6_hour 14 = .ok (.getfield 170, 3) := by decide +kernel
theorem dX6_hour_17 : decode cX6_hour 17 = .ok (.sipush 999, 3) := by decide +kernel
theorem dX6_hour_20 : decode cX6_hour 20 = .ok (.if_icmp .lt 6, 3) := by decide +kernel
theorem dX6_hour_23 : decode cX6_hour 23 = .ok (.bipush (-104), 2) := by decide +kernel
theorem dX6_hour_25 : decode cX6_hour 25 = .ok (.ireturn, 1) := by decide +kernel
theorem dX6_hour_26 : decode cX6_hour 26 = .ok (.aload_n 0, 1) := by decide +kernel
theorem dX6_hour_27 : decode cX6_hour 27 = .ok (.getfield 19, 3) := by decide +kernel
theorem dX6_hour_30 : decode cX6_hour 30 = .ok (.invokevirtual 173, 3) := by decide +kernel
theorem dX6_hour_33 : decode cX6_hour 33 = .ok (.aload_n 0, 1) := by decide +kernel
theorem dX6_hour_34 : decode cX6_hour 34 = .ok (.getfield 19, 3) := by decide +kernel
theorem dX6_hour_37 : decode cX6_hour 37 = .ok (.getfield 170, 3) := by decide +kernel
theorem dX6_hour_40 : decode cX6_hour 40 = .ok (.ireturn, 1) := by decide +kernel
theorem dX6_book_0 : decode cX6_book 0 = .ok (.aload_n 0, 1) := by decide +kernel
theorem dX6_book_1 : decode cX6_book 1 = .ok (.getfield 19, 3) := by decide +kernel
theorem dX6_book_4 : decode cX6_book 4 = .ok (.iload_n 1, 1) := by decide +kernel
theorem dX6_book_5 : decode cX6_book 5 = .ok (.invokevirtual 91, 3) := by decide +kernel
theorem dX6_book_8 : decode cX6_book 8 = .ok (.ifCond .ne 6, 3) := by decide +kernel
theorem dX6_book_11 : decode cX6_book 11 = .ok (.bipush (-101), 2) := by decide +kernel
theorem dX6_book_13 : decode cX6_book 13 = .ok (.ireturn, 1) := by decide +kernel
theorem dX6_book_14 : decode cX6_book 14 = .ok (.iload_n 2, 1) := by decide +kernel
theorem dX6_book_15 : decode cX6_book 15 = .ok (.iconst 0, 1) := by decide +kernel
theorem dX6_book_16 : decode cX6_book 16 = .ok (.bipush 9, 2) := by decide +kernel
theorem dX6_book_18 : decode cX6_book 18 = .ok (.invokestatic 57, 3) := by decide +kernel
theorem dX6_book_21 : decode cX6_book 21 = .ok (.ifCond .ne 6, 3) := by decide +kernel
theorem dX6_book_24 : decode cX6_book 24 = .ok (.bipush (-102), 2) := by decide +kernel
theorem dX6_book_26 : decode cX6_book 26 = .ok (.ireturn, 1) := by decide +kernel
theorem dX6_book_27 : decode cX6_book 27 = .ok (.aload_n 0, 1) := by decide +kernel
theorem dX6_book_28 : decode cX6_book 28 = .ok (.getfield 19, 3) := by decide +kernel
theorem dX6_book_31 : decode cX6_book 31 = .ok (.getfield 102, 3) := by decide +kernel
theorem dX6_book_34 : decode cX6_book 34 = .ok (.iload_n 1, 1) := by decide +kernel
theorem dX6_book_35 : decode cX6_book 35 = .ok (.invokestatic 98, 3) := by decide +kernel
theorem dX6_book_38 : decode cX6_book 38 = .ok (.istore_n 3, 1) := by decide +kernel
theorem dX6_book_39 : decode cX6_book 39 = .ok (.aload_n 0, 1) := by decide +kernel
theorem dX6_book_40 : decode cX6_book 40 = .ok (.getfield 19, 3) := by decide +kernel
theorem dX6_book_43 : decode cX6_book 43 = .ok (.getfield 102, 3) := by decide +kernel
theorem dX6_book_46 : decode cX6_book 46 = .ok (.iload_n 1, 1) := by decide +kernel
theorem dX6_book_47 : decode cX6_book 47 = .ok (.iload_n 2, 1) := by decide +kernel
theorem dX6_book_48 : decode cX6_book 48 = .ok (.invokestatic 176, 3) := by decide +kernel
theorem dX6_book_51 : decode cX6_book 51 = .ok (.iload_n 3, 1) := by decide +kernel
theorem dX6_book_52 : decode cX6_book 52 = .ok (.ireturn, 1) := by decide +kernel
theorem dX6_wish_0 : decode cX6_wish 0 = .ok (.aload_n 0, 1) := by decide +kernel
theorem dX6_wish_1 : decode cX6_wish 1 = .ok (.getfield 19, 3) := by decide +kernel
theorem dX6_wish_4 : decode cX6_wish 4 = .ok (.iload_n 1, 1) := by decide +kernel
theorem dX6_wish_5 : decode cX6_wish 5 = .ok (.invokevirtual 132, 3) := by decide +kernel
theorem dX6_wish_8 : decode cX6_wish 8 = .ok (.ifCond .ne 6, 3) := by decide +kernel
theorem dX6_wish_11 : decode cX6_wish 11 = .ok (.bipush (-101), 2) := by decide +kernel
theorem dX6_wish_13 : decode cX6_wish 13 = .ok (.ireturn, 1) := by decide +kernel
theorem dX6_wish_14 : decode cX6_wish 14 = .ok (.iload_n 2, 1) := by decide +kernel
theorem dX6_wish_15 : decode cX6_wish 15 = .ok (.iconst 0, 1) := by decide +kernel
theorem dX6_wish_16 : decode cX6_wish 16 = .ok (.bipush 9, 2) := by decide +kernel
theorem dX6_wish_18 : decode cX6_wish 18 = .ok (.invokestatic 57, 3) := by decide +kernel
theorem dX6_wish_21 : decode cX6_wish 21 = .ok (.ifCond .eq 12, 3) := by decide +kernel
theorem dX6_wish_24 : decode cX6_wish 24 = .ok (.iload_n 3, 1) := by decide +kernel
theorem dX6_wish_25 : decode cX6_wish 25 = .ok (.iconst 0, 1) := by decide +kernel
theorem dX6_wish_26 : decode cX6_wish 26 = .ok (.iconst 2, 1) := by decide +kernel
theorem dX6_wish_27 : decode cX6_wish 27 = .ok (.invokestatic 57, 3) := by decide +kernel
theorem dX6_wish_30 : decode cX6_wish 30 = .ok (.ifCond .ne 6, 3) := by decide +kernel
theorem dX6_wish_33 : decode cX6_wish 33 = .ok (.bipush (-102), 2) := by decide +kernel
theorem dX6_wish_35 : decode cX6_wish 35 = .ok (.ireturn, 1) := by decide +kernel
theorem dX6_wish_36 : decode cX6_wish 36 = .ok (.aload_n 0, 1) := by decide +kernel
theorem dX6_wish_37 : decode cX6_wish 37 = .ok (.getfield 19, 3) := by decide +kernel
theorem dX6_wish_40 : decode cX6_wish 40 = .ok (.getfield 147, 3) := by decide +kernel
theorem dX6_wish_43 : decode cX6_wish 43 = .ok (.iload_n 1, 1) := by decide +kernel
theorem dX6_wish_44 : decode cX6_wish 44 = .ok (.invokestatic 98, 3) := by decide +kernel
theorem dX6_wish_47 : decode cX6_wish 47 = .ok (.istore 4, 2) := by decide +kernel
theorem dX6_wish_49 : decode cX6_wish 49 = .ok (.aload_n 0, 1) := by decide +kernel
theorem dX6_wish_50 : decode cX6_wish 50 = .ok (.getfield 19, 3) := by decide +kernel
theorem dX6_wish_53 : decode cX6_wish 53 = .ok (.getfield 135, 3) := by decide +kernel
theorem dX6_wish_56 : decode cX6_wish 56 = .ok (.iload_n 1, 1) := by decide +kernel
theorem dX6_wish_57 : decode cX6_wish 57 = .ok (.iload_n 2, 1) := by decide +kernel
theorem dX6_wish_58 : decode cX6_wish 58 = .ok (.invokestatic 176, 3) := by decide +kernel
theorem dX6_wish_61 : decode cX6_wish 61 = .ok (.aload_n 0, 1) := by decide +kernel
theorem dX6_wish_62 : decode cX6_wish 62 = .ok (.getfield 19, 3) := by decide +kernel
theorem dX6_wish_65 : decode cX6_wish 65 = .ok (.getfield 147, 3) := by decide +kernel
theorem dX6_wish_68 : decode cX6_wish 68 = .ok (.iload_n 1, 1) := by decide +kernel
theorem dX6_wish_69 : decode cX6_wish 69 = .ok (.iload_n 3, 1) := by decide +kernel
theorem dX6_wish_70 : decode cX6_wish 70 = .ok (.invokestatic 176, 3) := by decide +kernel
theorem dX6_wish_73 : decode cX6_wish 73 = .ok (.iload 4, 2) := by decide +kernel
theorem dX6_wish_75 : decode cX6_wish 75 = .ok (.ireturn, 1) := by decide +kernel
theorem dX6_mood_0 : decode cX6_mood 0 = .ok (.aload_n 0, 1) := by decide +kernel
theorem dX6_mood_1 : decode cX6_mood 1 = .ok (.getfield 19, 3) := by decide +kernel
theorem dX6_mood_4 : decode cX6_mood 4 = .ok (.iload_n 1, 1) := by decide +kernel
theorem dX6_mood_5 : decode cX6_mood 5 = .ok (.invokevirtual 132, 3) := by decide +kernel
theorem dX6_mood_8 : decode cX6_mood 8 = .ok (.ifCond .ne 6, 3) := by decide +kernel
theorem dX6_mood_11 : decode cX6_mood 11 = .ok (.bipush (-101), 2) := by decide +kernel
theorem dX6_mood_13 : decode cX6_mood 13 = .ok (.ireturn, 1) := by decide +kernel
theorem dX6_mood_14 : decode cX6_mood 14 = .ok (.iload_n 2, 1) := by decide +kernel
theorem dX6_mood_15 : decode cX6_mood 15 = .ok (.iconst 0, 1) := by decide +kernel
theorem dX6_mood_16 : decode cX6_mood 16 = .ok (.bipush 40, 2) := by decide +kernel
theorem dX6_mood_18 : decode cX6_mood 18 = .ok (.invokestatic 57, 3) := by decide +kernel
theorem dX6_mood_21 : decode cX6_mood 21 = .ok (.ifCond .ne 6, 3) := by decide +kernel
theorem dX6_mood_24 : decode cX6_mood 24 = .ok (.bipush (-102), 2) := by decide +kernel
theorem dX6_mood_26 : decode cX6_mood 26 = .ok (.ireturn, 1) := by decide +kernel
theorem dX6_mood_27 : decode cX6_mood 27 = .ok (.aload_n 0, 1) := by decide +kernel
theorem dX6_mood_28 : decode cX6_mood 28 = .ok (.getfield 19, 3) := by decide +kernel
theorem dX6_mood_31 : decode cX6_mood 31 = .ok (.iload_n 1, 1) := by decide +kernel
theorem dX6_mood_32 : decode cX6_mood 32 = .ok (.iload_n 2, 1) := by decide +kernel
theorem dX6_mood_33 : decode cX6_mood 33 = .ok (.invokevirtual 138, 3) := by decide +kernel
theorem dX6_mood_36 : decode cX6_mood 36 = .ok (.ireturn, 1) := by decide +kernel
theorem dX6_dress_0 : decode cX6_dress 0 = .ok (.iload_n 1, 1) := by decide +kernel
theorem dX6_dress_1 : decode cX6_dress 1 = .ok (.iconst 0, 1) := by decide +kernel
theorem dX6_dress_2 : decode cX6_dress 2 = .ok (.iconst 1, 1) := by decide +kernel
theorem dX6_dress_3 : decode cX6_dress 3 = .ok (.invokestatic 57, 3) := by decide +kernel
theorem dX6_dress_6 : decode cX6_dress 6 = .ok (.ifCond .ne 13, 3) := by decide +kernel
theorem dX6_dress_9 : decode cX6_dress 9 = .ok (.iload_n 1, 1) := by decide +kernel
theorem dX6_dress_10 : decode cX6_dress 10 = .ok (.invokestatic 180, 3) := by decide +kernel
theorem dX6_dress_13 : decode cX6_dress 13 = .ok (.ifCond .ne 6, 3) := by decide +kernel
theorem dX6_dress_16 : decode cX6_dress 16 = .ok (.bipush (-102), 2) := by decide +kernel
theorem dX6_dress_18 : decode cX6_dress 18 = .ok (.ireturn, 1) := by decide +kernel
theorem dX6_dress_19 : decode cX6_dress 19 = .ok (.aload_n 0, 1) := by decide +kernel
theorem dX6_dress_20 : decode cX6_dress 20 = .ok (.invokevirtual 167, 3) := by decide +kernel
theorem dX6_dress_23 : decode cX6_dress 23 = .ok (.ifCond .eq 12, 3) := by decide +kernel
theorem dX6_dress_26 : decode cX6_dress 26 = .ok (.aload_n 0, 1) := by decide +kernel
theorem dX6_dress_27 : decode cX6_dress 27 = .ok (.getfield 183, 3) := by decide +kernel
theorem dX6_dress_30 : decode cX6_dress 30 = .ok (.bipush 20, 2) := by decide +kernel
theorem dX6_dress_32 : decode cX6_dress 32 = .ok (.if_icmp .lt 6, 3) := by decide +kernel
theorem dX6_dress_35 : decode cX6_dress 35 = .ok (.bipush (-103), 2) := by decide +kernel
theorem dX6_dress_37 : decode cX6_dress 37 = .ok (.ireturn, 1) := by decide +kernel
theorem dX6_dress_38 : decode cX6_dress 38 = .ok (.aload_n 0, 1) := by decide +kernel
theorem dX6_dress_39 : decode cX6_dress 39 = .ok (.dup, 1) := by decide +kernel
theorem dX6_dress_40 : decode cX6_dress 40 = .ok (.getfield 183, 3) := by decide +kernel
theorem dX6_dress_43 : decode cX6_dress 43 = .ok (.iconst 1, 1) := by decide +kernel
theorem dX6_dress_44 : decode cX6_dress 44 = .ok (.iadd, 1) := by decide +kernel
theorem dX6_dress_45 : decode cX6_dress 45 = .ok (.putfield 183, 3) := by decide +kernel
theorem dX6_dress_48 : decode cX6_dress 48 = .ok (.aload_n 0, 1) := by decide +kernel
theorem dX6_dress_49 : decode cX6_dress 49 = .ok (.getfield 32, 3) := by decide +kernel
theorem dX6_dress_52 : decode cX6_dress 52 = .ok (.aload_n 0, 1) := by decide +kernel
theorem dX6_dress_53 : decode cX6_dress 53 = .ok (.getfield 19, 3) := by decide +kernel
theorem dX6_dress_56 : decode cX6_dress 56 = .ok (.invokevirtual 186, 3) := by decide +kernel
theorem dX6_dress_59 : decode cX6_dress 59 = .ok (.iload_n 1, 1) := by decide +kernel
theorem dX6_dress_60 : decode cX6_dress 60 = .ok (.lookupswitch 44 #[(0, 28), (1, 36)], 28) := by decide +kernel
theorem dX6_dress_88 : decode cX6_dress 88 = .ok (.aload_n 0, 1) := by decide +kernel
theorem dX6_dress_89 : decode cX6_dress 89 = .ok (.getfield 32, 3) := by decide +kernel
theorem dX6_dress_92 : decode cX6_dress 92 = .ok (.getfield 189, 3) := by decide +kernel
theorem dX6_dress_95 : decode cX6_dress 95 = .ok (.ireturn, 1) := by decide +kernel
theorem dX6_dress_96 : decode cX6_dress 96 = .ok (.aload_n 0, 1) := by decide +kernel
theorem dX6_dress_97 : decode cX6_dress 97 = .ok (.getfield 32, 3) := by decide +kernel
theorem dX6_dress_100 : decode cX6_dress 100 = .ok (.getfield 192, 3) := by decide +kernel
theorem dX6_dress_103 : decode cX6_dress 103 = .ok (.ireturn, 1) := by decide +kernel
theorem dX6_dress_104 : decode cX6_dress 104 = .ok (.aload_n 0, 1) := by decide +kernel
theorem dX6_dress_105 : decode cX6_dress 105 = .ok (.getfield 32, 3) := by decide +kernel
theorem dX6_dress_108 : decode cX6_dress 108 = .ok (.getfield 195, 3) := by decide +kernel
theorem dX6_dress_111 : decode cX6_dress 111 = .ok (.iload_n 1, 1) := by decide +kernel
theorem dX6_dress_112 : decode cX6_dress 112 = .ok (.bipush 10, 2) := by decide +kernel
theorem dX6_dress_114 : decode cX6_dress 114 = .ok (.isub, 1) := by decide +kernel
theorem dX6_dress_115 : decode cX6_dress 115 = .ok (.invokestatic 98, 3) := by decide +kernel
theorem dX6_dress_118 : decode cX6_dress 118 = .ok (.ireturn, 1) := by decide +kernel
theorem dX6_boxes_0 : decode cX6_boxes 0 = .ok (.iload_n 1, 1) := by decide +kernel
theorem dX6_boxes_1 : decode cX6_boxes 1 = .ok (.ifCond .eq 13, 3) := by decide +kernel
theorem dX6_boxes_4 : decode cX6_boxes 4 = .ok (.iload_n 1, 1) := by decide +kernel
theorem dX6_boxes_5 : decode cX6_boxes 5 = .ok (.invokestatic 180, 3) := by decide +kernel
theorem dX6_boxes_8 : decode cX6_boxes 8 = .ok (.ifCond .ne 6, 3) := by decide +kernel
theorem dX6_boxes_11 : decode cX6_boxes 11 = .ok (.bipush (-102), 2) := by decide +kernel
theorem dX6_boxes_13 : decode cX6_boxes 13 = .ok (.ireturn, 1) := by decide +kernel
theorem dX6_boxes_14 : decode cX6_boxes 14 = .ok (.aload_n 0, 1) := by decide +kernel
theorem dX6_boxes_15 : decode cX6_boxes 15 = .ok (.invokevirtual 167, 3) := by decide +kernel
theorem dX6_boxes_18 : decode cX6_boxes 18 = .ok (.ifCond .ne 6, 3) := by decide +kernel
theorem dX6_boxes_21 : decode cX6_boxes 21 = .ok (.bipush (-103), 2) := by decide +kernel
theorem dX6_boxes_23 : decode cX6_boxes 23 = .ok (.ireturn, 1) := by decide +kernel
theorem dX6_boxes_24 : decode cX6_boxes 24 = .ok (.aload_n 0, 1) := by decide +kernel
theorem dX6_boxes_25 : decode cX6_boxes 25 = .ok (.getfield 39, 3) := by decide +kernel
theorem dX6_boxes_28 : decode cX6_boxes 28 = .ok (.aload_n 0, 1) := by decide +kernel
theorem dX6_boxes_29 : decode cX6_boxes 29 = .ok (.getfield 19, 3) := by decide +kernel
theorem dX6_boxes_32 : decode cX6_boxes 32 = .ok (.invokevirtual 198, 3) := by decide +kernel
theorem dX6_boxes_35 : decode cX6_boxes 35 = .ok (.iload_n 1, 1) := by decide +kernel
theorem dX6_boxes_36 : decode cX6_boxes 36 = .ok (.ifCond .ne 13, 3) := by decide +kernel
theorem dX6_boxes_39 : decode cX6_boxes 39 = .ok (.aload_n 0, 1) := by decide +kernel
theorem dX6_boxes_40 : decode cX6_boxes 40 = .ok (.getfield 39, 3) := by decide +kernel
theorem dX6_boxes_43 : decode cX6_boxes 43 = .ok (.getfield 199, 3) := by decide +kernel
theorem dX6_boxes_46 : decode cX6_boxes 46 = .ok (.goto 17, 3) := by decide +kernel
theorem dX6_boxes_49 : decode cX6_boxes 49 = .ok (.aload_n 0, 1) := by decide +kernel
theorem dX6_boxes_50 : decode cX6_boxes 50 = .ok (.getfield 39, 3) := by decide +kernel
theorem dX6_boxes_53 : decode cX6_boxes 53 = .ok (.getfield 202, 3) := by decide +kernel
theorem dX6_boxes_56 : decode cX6_boxes 56 = .ok (.iload_n 1, 1) := by decide +kernel
theorem dX6_boxes_57 : decode cX6_boxes 57 = .ok (.bipush 10, 2) := by decide +kernel
theorem dX6_boxes_59 : decode cX6_boxes 59 = .ok (.isub, 1) := by decide +kernel
theorem dX6_boxes_60 : decode cX6_boxes 60 = .ok (.invokestatic 98, 3) := by decide +kernel
theorem dX6_boxes_63 : decode cX6_boxes 63 = .ok (.ireturn, 1) := by decide +kernel
theorem dX6_odds_0 : decode cX6_odds 0 = .ok (.aload_n 0, 1) := by decide +kernel
theorem dX6_odds_1 : decode cX6_odds 1 = .ok (.getfield 19, 3) := by decide +kernel
theorem dX6_odds_4 : decode cX6_odds 4 = .ok (.iload_n 1, 1) := by decide +kernel
theorem dX6_odds_5 : decode cX6_odds 5 = .ok (.invokevirtual 132, 3) := by decide +kernel
theorem dX6_odds_8 : decode cX6_odds 8 = .ok (.ifCond .ne 6, 3) := by decide +kernel
theorem dX6_odds_11 : decode cX6_odds 11 = .ok (.bipush (-101), 2) := by decide +kernel
theorem dX6_odds_13 : decode cX6_odds 13 = .ok (.ireturn, 1) := by decide +kernel
theorem dX6_odds_14 : decode cX6_odds 14 = .ok (.iload_n 2, 1) := by decide +kernel
theorem dX6_odds_15 : decode cX6_odds 15 = .ok (.iconst 1, 1) := by decide +kernel
theorem dX6_odds_16 : decode cX6_odds 16 = .ok (.bipush 8, 2) := by decide +kernel
theorem dX6_odds_18 : decode cX6_odds 18 = .ok (.invokestatic 57, 3) := by decide +kernel
theorem dX6_odds_21 : decode cX6_odds 21 = .ok (.ifCond .eq 23, 3) := by decide +kernel
theorem dX6_odds_24 : decode cX6_odds 24 = .ok (.iload_n 3, 1) := by decide +kernel
theorem dX6_odds_25 : decode cX6_odds 25 = .ok (.iconst 0, 1) := by decide +kernel
theorem dX6_odds_26 : decode cX6_odds 26 = .ok (.bipush 10, 2) := by decide +kernel
theorem dX6_odds_28 : decode cX6_odds 28 = .ok (.invokestatic 57, 3) := by decide +kernel
theorem dX6_odds_31 : decode cX6_odds 31 = .ok (.ifCond .eq 13, 3) := by decide +kernel
theorem dX6_odds_34 : decode cX6_odds 34 = .ok (.iload 4, 2) := by decide +kernel
theorem dX6_odds_36 : decode cX6_odds 36 = .ok (.iconst 0, 1) := by decide +kernel
theorem dX6_odds_37 : decode cX6_odds 37 = .ok (.iconst 1, 1) := by decide +kernel
theorem dX6_odds_38 : decode cX6_odds 38 = .ok (.invokestatic 57, 3) := by decide +kernel
theorem dX6_odds_41 : decode cX6_odds 41 = .ok (.ifCond .ne 6, 3) := by decide +kernel
theorem dX6_odds_44 : decode cX6_odds 44 = .ok (.bipush (-102), 2) := by decide +kernel
theorem dX6_odds_46 : decode cX6_odds 46 = .ok (.ireturn, 1) := by decide +kernel
theorem dX6_odds_47 : decode cX6_odds 47 = .ok (.aload_n 0, 1) := by decide +kernel
theorem dX6_odds_48 : decode cX6_odds 48 = .ok (.getfield 46, 3) := by decide +kernel
theorem dX6_odds_51 : decode cX6_odds 51 = .ok (.iload_n 2, 1) := by decide +kernel
theorem dX6_odds_52 : decode cX6_odds 52 = .ok (.iload_n 3, 1) := by decide +kernel
theorem dX6_odds_53 : decode cX6_odds 53 = .ok (.invokevirtual 203, 3) := by decide +kernel
theorem dX6_odds_56 : decode cX6_odds 56 = .ok (.iconst 0, 1) := by decide +kernel
theorem dX6_odds_57 : decode cX6_odds 57 = .ok (.istore 5, 2) := by decide +kernel
theorem dX6_odds_59 : decode cX6_odds 59 = .ok (.iconst 0, 1) := by decide +kernel
theorem dX6_odds_60 : decode cX6_odds 60 = .ok (.istore 6, 2) := by decide +kernel
theorem dX6_odds_62 : decode cX6_odds 62 = .ok (.iload 6, 2) := by decide +kernel
theorem dX6_odds_64 : decode cX6_odds 64 = .ok (.iload_n 2, 1) := by decide +kernel
theorem dX6_odds_65 : decode cX6_odds 65 = .ok (.if_icmp .gt 43, 3) := by decide +kernel
theorem dX6_odds_68 : decode cX6_odds 68 = .ok (.aload_n 0, 1) := by decide +kernel
theorem dX6_odds_69 : decode cX6_odds 69 = .ok (.getfield 19, 3) := by decide +kernel
theorem dX6_odds_72 : decode cX6_odds 72 = .ok (.iload_n 1, 1) := by decide +kernel
theorem dX6_odds_73 : decode cX6_odds 73 = .ok (.iload 6, 2) := by decide +kernel
theorem dX6_odds_75 : decode cX6_odds 75 = .ok (.invokevirtual 138, 3) := by decide +kernel
theorem dX6_odds_78 : decode cX6_odds 78 = .ok (.invokestatic 144, 3) := by decide +kernel
theorem dX6_odds_81 : decode cX6_odds 81 = .ok (.iconst 1, 1) := by decide +kernel
theorem dX6_odds_82 : decode cX6_odds 82 = .ok (.if_icmp .ne 20, 3) := by decide +kernel
theorem dX6_odds_85 : decode cX6_odds 85 = .ok (.iload 5, 2) := by decide +kernel
theorem dX6_odds_87 : decode cX6_odds 87 = .ok (.aload_n 0, 1) := by decide +kernel
theorem dX6_odds_88 : decode cX6_odds 88 = .ok (.getfield 46, 3) := by decide +kernel
theorem dX6_odds_91 : decode cX6_odds 91 = .ok (.getfield 207, 3) := by decide +kernel
theorem dX6_odds_94 : decode cX6_odds 94 = .ok (.iload 6, 2) := by decide +kernel
theorem dX6_odds_96 : decode cX6_odds 96 = .ok (.invokestatic 98, 3) := by decide +kernel
theorem dX6_odds_99 : decode cX6_odds 99 = .ok (.iadd, 1) := by decide +kernel
theorem dX6_odds_100 : decode cX6_odds 100 = .ok (.istore 5, 2) := by decide +kernel
theorem dX6_odds_102 : decode cX6_odds 102 = .ok (.iinc 6 1, 3) := by decide +kernel
theorem dX6_odds_105 : decode cX6_odds 105 = .ok (.goto (-43), 3) := by decide +kernel
theorem dX6_odds_108 : decode cX6_odds 108 = .ok (.aload_n 0, 1) := by decide +kernel
theorem dX6_odds_109 : decode cX6_odds 109 = .ok (.getfield 46, 3) := by decide +kernel
theorem dX6_odds_112 : decode cX6_odds 112 = .ok (.getfield 210, 3) := by decide +kernel
theorem dX6_odds_115 : decode cX6_odds 115 = .ok (.istore 6, 2) := by decide +kernel
theorem dX6_odds_117 : decode cX6_odds 117 = .ok (.iload 5, 2) := by decide +kernel
theorem dX6_odds_119 : decode cX6_odds 119 = .ok (.iload 6, 2) := by decide +kernel
theorem dX6_odds_121 : decode cX6_odds 121 = .ok (.invokestatic 213, 3) := by decide +kernel
theorem dX6_odds_124 : decode cX6_odds 124 = .ok (.istore 7, 2) := by decide +kernel
theorem dX6_odds_126 : decode cX6_odds 126 = .ok (.iload 4, 2) := by decide +kernel
theorem dX6_odds_128 : decode cX6_odds 128 = .ok (.ifCond .ne 8, 3) := by decide +kernel
theorem dX6_odds_131 : decode cX6_odds 131 = .ok (.iload 5, 2) := by decide +kernel
theorem dX6_odds_133 : decode cX6_odds 133 = .ok (.goto 5, 3) := by decide +kernel
theorem dX6_odds_136 : decode cX6_odds 136 = .ok (.iload 6, 2) := by decide +kernel
theorem dX6_odds_138 : decode cX6_odds 138 = .ok (.istore 8, 2) := by decide +kernel
theorem dX6_odds_140 : decode cX6_odds 140 = .ok (.iload 7, 2) := by decide +kernel
theorem dX6_odds_142 : decode cX6_odds 142 = .ok (.ifCond .le 11, 3) := by decide +kernel
theorem dX6_odds_145 : decode cX6_odds 145 = .ok (.iload 8, 2) := by decide +kernel
theorem dX6_odds_147 : decode cX6_odds 147 = .ok (.iload 7, 2) := by decide +kernel
theorem dX6_odds_149 : decode cX6_odds 149 = .ok (.idiv, 1) := by decide +kernel
theorem dX6_odds_150 : decode cX6_odds 150 = .ok (.goto 5, 3) := by decide +kernel
theorem dX6_odds_153 : decode cX6_odds 153 = .ok (.iload 8, 2) := by decide +kernel
theorem dX6_odds_155 : decode cX6_odds 155 = .ok (.ireturn, 1) := by decide +kernel
theorem dX6_see_0 : decode cX6_see 0 = .ok (.aload_n 0, 1) := by decide +kernel
theorem dX6_see_1 : decode cX6_see 1 = .ok (.getfield 19, 3) := by decide +kernel
theorem dX6_see_4 : decode cX6_see 4 = .ok (.iload_n 1, 1) := by decide +kernel
theorem dX6_see_5 : decode cX6_see 5 = .ok (.invokevirtual 91, 3) := by decide +kernel
theorem dX6_see_8 : decode cX6_see 8 = .ok (.ifCond .ne 6, 3) := by decide +kernel
theorem dX6_see_11 : decode cX6_see 11 = .ok (.bipush (-101), 2) := by decide +kernel
theorem dX6_see_13 : decode cX6_see 13 = .ok (.ireturn, 1) := by decide +kernel
theorem dX6_see_14 : decode cX6_see 14 = .ok (.iload_n 2, 1) := by decide +kernel
theorem dX6_see_15 : decode cX6_see 15 = .ok (.iconst 0, 1) := by decide +kernel
theorem dX6_see_16 : decode cX6_see 16 = .ok (.bipush 9, 2) := by decide +kernel
theorem dX6_see_18 : decode cX6_see 18 = .ok (.invokestatic 57, 3) := by decide +kernel
theorem dX6_see_21 : decode cX6_see 21 = .ok (.ifCond .eq 13, 3) := by decide +kernel
theorem dX6_see_24 : decode cX6_see 24 = .ok (.iload_n 3, 1) := by decide +kernel
theorem dX6_see_25 : decode cX6_see 25 = .ok (.iconst 0, 1) := by decide +kernel
theorem dX6_see_26 : decode cX6_see 26 = .ok (.bipush 9, 2) := by decide +kernel
theorem dX6_see_28 : decode cX6_see 28 = .ok (.invokestatic 57, 3) := by decide +kernel
theorem dX6_see_31 : decode cX6_see 31 = .ok (.ifCond .ne 6, 3) := by decide +kernel
theorem dX6_see_34 : decode cX6_see 34 = .ok (.bipush (-102), 2) := by decide +kernel
theorem dX6_see_36 : decode cX6_see 36 = .ok (.ireturn, 1) := by decide +kernel
theorem dX6_see_37 : decode cX6_see 37 = .ok (.aload_n 0, 1) := by decide +kernel
theorem dX6_see_38 : decode cX6_see 38 = .ok (.getfield 19, 3) := by decide +kernel
theorem dX6_see_41 : decode cX6_see 41 = .ok (.iload_n 1, 1) := by decide +kernel
theorem dX6_see_42 : decode cX6_see 42 = .ok (.iload_n 2, 1) := by decide +kernel
theorem dX6_see_43 : decode cX6_see 43 = .ok (.iload_n 3, 1) := by decide +kernel
theorem dX6_see_44 : decode cX6_see 44 = .ok (.invokevirtual 216, 3) := by decide +kernel
theorem dX6_see_47 : decode cX6_see 47 = .ok (.ifCond .eq 13, 3) := by decide +kernel
theorem dX6_see_50 : decode cX6_see 50 = .ok (.aload_n 0, 1) := by decide +kernel
theorem dX6_see_51 : decode cX6_see 51 = .ok (.getfield 19, 3) := by decide +kernel
theorem dX6_see_54 : decode cX6_see 54 = .ok (.getfield 219, 3) := by decide +kernel
theorem dX6_see_57 : decode cX6_see 57 = .ok (.goto 5, 3) := by decide +kernel
theorem dX6_see_60 : decode cX6_see 60 = .ok (.bipush (-104), 2) := by decide +kernel
theorem dX6_see_62 : decode cX6_see 62 = .ok (.ireturn, 1) := by decide +kernel
theorem dX6_forget_0 : decode cX6_forget 0 = .ok (.aload_n 0, 1) := by decide +kernel
theorem dX6_forget_1 : decode cX6_forget 1 = .ok (.getfield 19, 3) := by decide +kernel
theorem dX6_forget_4 : decode cX6_forget 4 = .ok (.getfield 219, 3) := by decide +kernel
theorem dX6_forget_7 : decode cX6_forget 7 = .ok (.istore_n 1, 1) := by decide +kernel
theorem dX6_forget_8 : decode cX6_forget 8 = .ok (.aload_n 0, 1) := by decide +kernel
theorem dX6_forget_9 : decode cX6_forget 9 = .ok (.getfield 19, 3) := by decide +kernel
theorem dX6_forget_12 : decode cX6_forget 12 = .ok (.iconst 0, 1) := by decide +kernel
theorem dX6_forget_13 : decode cX6_forget 13 = .ok (.putfield 219, 3) := by decide +kernel
theorem dX6_forget_16 : decode cX6_forget 16 = .ok (.iload_n 1, 1) := by decide +kernel
theorem dX6_forget_17 : decode cX6_forget 17 = .ok (.ireturn, 1) := by decide +kernel
theorem dX6_teas_0 : decode cX6_teas 0 = .ok (.iload_n 1, 1) := by decide +kernel
theorem dX6_teas_1 : decode cX6_teas 1 = .ok (.iconst 1, 1) := by decide +kernel
theorem dX6_teas_2 : decode cX6_teas 2 = .ok (.bipush 60, 2) := by decide +kernel
theorem dX6_teas_4 : decode cX6_teas 4 = .ok (.invokestatic 57, 3) := by decide +kernel
theorem dX6_teas_7 : decode cX6_teas 7 = .ok (.ifCond .eq 16, 3) := by decide +kernel
theorem dX6_teas_10 : decode cX6_teas 10 = .ok (.iload_n 2, 1) := by decide +kernel
theorem dX6_teas_11 : decode cX6_teas 11 = .ok (.ifCond .lt 12, 3) := by decide +kernel
theorem dX6_teas_14 : decode cX6_teas 14 = .ok (.iload_n 3, 1) := by decide +kernel
theorem dX6_teas_15 : decode cX6_teas 15 = .ok (.iconst 0, 1) := by decide +kernel
theorem dX6_teas_16 : decode cX6_teas 16 = .ok (.iconst 2, 1) := by decide +kernel
theorem dX6_teas_17 : decode cX6_teas 17 = .ok (.invokestatic 57, 3) := by decide +kernel
theorem dX6_teas_20 : decode cX6_teas 20 = .ok (.ifCond .ne 6, 3) := by decide +kernel
theorem dX6_teas_23 : decode cX6_teas 23 = .ok (.bipush (-102), 2) := by decide +kernel
theorem dX6_teas_25 : decode cX6_teas 25 = .ok (.ireturn, 1) := by decide +kernel
theorem dX6_teas_26 : decode cX6_teas 26 = .ok (.aload_n 0, 1) := by decide +kernel
theorem dX6_teas_27 : decode cX6_teas 27 = .ok (.invokevirtual 167, 3) := by decide +kernel
theorem dX6_teas_30 : decode cX6_teas 30 = .ok (.ifCond .ne 6, 3) := by decide +kernel
theorem dX6_teas_33 : decode cX6_teas 33 = .ok (.bipush (-103), 2) := by decide +kernel
theorem dX6_teas_35 : decode cX6_teas 35 = .ok (.ireturn, 1) := by decide +kernel
theorem dX6_teas_36 : decode cX6_teas 36 = .ok (.aload_n 0, 1) := by decide +kernel
theorem dX6_teas_37 : decode cX6_teas 37 = .ok (.getfield 26, 3) := by decide +kernel
theorem dX6_teas_40 : decode cX6_teas 40 = .ok (.aload_n 0, 1) := by decide +kernel
theorem dX6_teas_41 : decode cX6_teas 41 = .ok (.getfield 19, 3) := by decide +kernel
theorem dX6_teas_44 : decode cX6_teas 44 = .ok (.invokevirtual 222, 3) := by decide +kernel
theorem dX6_teas_47 : decode cX6_teas 47 = .ok (.aload_n 0, 1) := by decide +kernel
theorem dX6_teas_48 : decode cX6_teas 48 = .ok (.getfield 53, 3) := by decide +kernel
theorem dX6_teas_51 : decode cX6_teas 51 = .ok (.iload_n 2, 1) := by decide +kernel
theorem dX6_teas_52 : decode cX6_teas 52 = .ok (.putfield 225, 3) := by decide +kernel
theorem dX6_teas_55 : decode cX6_teas 55 = .ok (.iconst 0, 1) := by decide +kernel
theorem dX6_teas_56 : decode cX6_teas 56 = .ok (.istore 4, 2) := by decide +kernel
theorem dX6_teas_58 : decode cX6_teas 58 = .ok (.iconst 0, 1) := by decide +kernel
theorem dX6_teas_59 : decode cX6_teas 59 = .ok (.istore 5, 2) := by decide +kernel
theorem dX6_teas_61 : decode cX6_teas 61 = .ok (.iload 5, 2) := by decide +kernel
theorem dX6_teas_63 : decode cX6_teas 63 = .ok (.iload_n 1, 1) := by decide +kernel
theorem dX6_teas_64 : decode cX6_teas 64 = .ok (.if_icmp .ge 40, 3) := by decide +kernel
theorem dX6_teas_67 : decode cX6_teas 67 = .ok (.aload_n 0, 1) := by decide +kernel
theorem dX6_teas_68 : decode cX6_teas 68 = .ok (.getfield 26, 3) := by decide +kernel
theorem dX6_teas_71 : decode cX6_teas 71 = .ok (.aload_n 0, 1) := by decide +kernel
theorem dX6_teas_72 : decode cX6_teas 72 = .ok (.getfield 53, 3) := by decide +kernel
theorem dX6_teas_75 : decode cX6_teas 75 = .ok (.invokevirtual 228, 3) := by decide +kernel
theorem dX6_teas_78 : decode cX6_teas 78 = .ok (.aload_n 0, 1) := by decide +kernel
theorem dX6_teas_79 : decode cX6_teas 79 = .ok (.getfield 26, 3) := by decide +kernel
theorem dX6_teas_82 : decode cX6_teas 82 = .ok (.invokevirtual 173, 3) := by decide +kernel
theorem dX6_teas_85 : decode cX6_teas 85 = .ok (.iload 4, 2) := by decide +kernel
theorem dX6_teas_87 : decode cX6_teas 87 = .ok (.aload_n 0, 1) := by decide +kernel
theorem dX6_teas_88 : decode cX6_teas 88 = .ok (.getfield 26, 3) := by decide +kernel
theorem dX6_teas_91 : decode cX6_teas 91 = .ok (.iconst 1, 1) := by decide +kernel
theorem dX6_teas_92 : decode cX6_teas 92 = .ok (.invokevirtual 232, 3) := by decide +kernel
theorem dX6_teas_95 : decode cX6_teas 95 = .ok (.iadd, 1) := by decide +kernel
theorem dX6_teas_96 : decode cX6_teas 96 = .ok (.istore 4, 2) := by decide +kernel
theorem dX6_teas_98 : decode cX6_teas 98 = .ok (.iinc 5 1, 3) := by decide +kernel
theorem dX6_teas_101 : decode cX6_teas 101 = .ok (.goto (-40), 3) := by decide +kernel
theorem dX6_teas_104 : decode cX6_teas 104 = .ok (.iload_n 3, 1) := by decide +kernel
theorem dX6_teas_105 : decode cX6_teas 105 = .ok (.lookupswitch 38 #[(0, 27), (1, 30)], 27) := by decide +kernel
theorem dX6_teas_132 : decode cX6_teas 132 = .ok (.iload 4, 2) := by decide +kernel
theorem dX6_teas_134 : decode cX6_teas 134 = .ok (.ireturn, 1) := by decide +kernel
theorem dX6_teas_135 : decode cX6_teas 135 = .ok (.aload_n 0, 1) := by decide +kernel
theorem dX6_teas_136 : decode cX6_teas 136 = .ok (.getfield 26, 3) := by decide +kernel
theorem dX6_teas_139 : decode cX6_teas 139 = .ok (.invokevirtual 235, 3) := by decide +kernel
theorem dX6_teas_142 : decode cX6_teas 142 = .ok (.ireturn, 1) := by decide +kernel
theorem dX6_teas_143 : decode cX6_teas 143 = .ok (.aload_n 0, 1) := by decide +kernel
theorem dX6_teas_144 : decode cX6_teas 144 = .ok (.getfield 53, 3) := by decide +kernel
theorem dX6_teas_147 : decode cX6_teas 147 = .ok (.getfield 225, 3) := by decide +kernel
theorem dX6_teas_150 : decode cX6_teas 150 = .ok (.ireturn, 1) := by decide +kernel
theorem dX6_image_0 : decode cX6_image 0 = .ok (.aload_n 0, 1) := by decide +kernel
theorem dX6_image_1 : decode cX6_image 1 = .ok (.invokevirtual 167, 3) := by decide +kernel
theorem dX6_image_4 : decode cX6_image 4 = .ok (.ifCond .ne 6, 3) := by decide +kernel
theorem dX6_image_7 : decode cX6_image 7 = .ok (.bipush (-103), 2) := by decide +kernel
theorem dX6_image_9 : decode cX6_image 9 = .ok (.ireturn, 1) := by decide +kernel
theorem dX6_image_10 : decode cX6_image 10 = .ok (.aload_n 0, 1) := by decide +kernel
theorem dX6_image_11 : decode cX6_image 11 = .ok (.getfield 23, 3) := by decide +kernel
theorem dX6_image_14 : decode cX6_image 14 = .ok (.aload_n 0, 1) := by decide +kernel
theorem dX6_image_15 : decode cX6_image 15 = .ok (.getfield 19, 3) := by decide +kernel
theorem dX6_image_18 : decode cX6_image 18 = .ok (.invokevirtual 222, 3) := by decide +kernel
theorem dX6_image_21 : decode cX6_image 21 = .ok (.aload_n 0, 1) := by decide +kernel
theorem dX6_image_22 : decode cX6_image 22 = .ok (.iconst 1, 1) := by decide +kernel
theorem dX6_image_23 : decode cX6_image 23 = .ok (.putfield 81, 3) := by decide +kernel
theorem dX6_image_26 : decode cX6_image 26 = .ok (.aload_n 0, 1) := by decide +kernel
theorem dX6_image_27 : decode cX6_image 27 = .ok (.getfield 19, 3) := by decide +kernel
theorem dX6_image_30 : decode cX6_image 30 = .ok (.getfield 170, 3) := by decide +kernel
theorem dX6_image_33 : decode cX6_image 33 = .ok (.ireturn, 1) := by decide +kernel
theorem dX6_restore_0 : decode cX6_restore 0 = .ok (.aload_n 0, 1) := by decide +kernel
theorem dX6_restore_1 : decode cX6_restore 1 = .ok (.getfield 81, 3) := by decide +kernel
theorem dX6_restore_4 : decode cX6_restore 4 = .ok (.ifCond .ne 6, 3) := by decide +kernel
theorem dX6_restore_7 : decode cX6_restore 7 = .ok (.bipush (-103), 2) := by decide +kernel
theorem dX6_restore_9 : decode cX6_restore 9 = .ok (.ireturn, 1) := by decide +kernel
theorem dX6_restore_10 : decode cX6_restore 10 = .ok (.aload_n 0, 1) := by decide +kernel
theorem dX6_restore_11 : decode cX6_restore 11 = .ok (.getfield 19, 3) := by decide +kernel
theorem dX6_restore_14 : decode cX6_restore 14 = .ok (.aload_n 0, 1) := by decide +kernel
theorem dX6_restore_15 : decode cX6_restore 15 = .ok (.getfield 23, 3) := by decide +kernel
theorem dX6_restore_18 : decode cX6_restore 18 = .ok (.invokevirtual 222, 3) := by decide +kernel
theorem dX6_restore_21 : decode cX6_restore 21 = .ok (.aload_n 0, 1) := by decide +kernel
theorem dX6_restore_22 : decode cX6_restore 22 = .ok (.getfield 19, 3) := by decide +kernel
theorem dX6_restore_25 : decode cX6_restore 25 = .ok (.getfield 170, 3) := by decide +kernel
theorem dX6_restore_28 : decode cX6_restore 28 = .ok (.ireturn, 1) := by decide +kernel
theorem dX6_count_0 : decode cX6_count 0 = .ok (.iload_n 1, 1) := by decide +kernel
theorem dX6_count_1 : decode cX6_count 1 = .ok (.tableswitch 167 0 12 #[67, 75, 83, 91, 99, 108, 117, 125, 133, 141, 149, 157, 162], 67) := by decide +kernel
theorem dX6_count_68 : decode cX6_count 68 = .ok (.aload_n 0, 1) := by decide +kernel
theorem dX6_count_69 : decode cX6_count 69 = .ok (.getfield 19, 3) := by decide +kernel
theorem dX6_count_72 : decode cX6_count 72 = .ok (.getfield 88, 3) := by decide +kernel
theorem dX6_count_75 : decode cX6_count 75 = .ok (.ireturn, 1) := by decide +kernel
theorem dX6_count_76 : decode cX6_count 76 = .ok (.aload_n 0, 1) := by decide +kernel
theorem dX6_count_77 : decode cX6_count 77 = .ok (.getfield 19, 3) := by decide +kernel
theorem dX6_count_80 : decode cX6_count 80 = .ok (.getfield 238, 3) := by decide +kernel
theorem dX6_count_83 : decode cX6_count 83 = .ok (.ireturn, 1) := by decide +kernel
theorem dX6_count_84 : decode cX6_count 84 = .ok (.aload_n 0, 1) := by decide +kernel
theorem dX6_count_85 : decode cX6_count 85 = .ok (.getfield 19, 3) := by decide +kernel
theorem dX6_count_88 : decode cX6_count 88 = .ok (.invokevirtual 235, 3) := by decide +kernel
theorem dX6_count_91 : decode cX6_count 91 = .ok (.ireturn, 1) := by decide +kernel
theorem dX6_count_92 : decode cX6_count 92 = .ok (.aload_n 0, 1) := by decide +kernel
theorem dX6_count_93 : decode cX6_count 93 = .ok (.getfield 19, 3) := by decide +kernel
theorem dX6_count_96 : decode cX6_count 96 = .ok (.getfield 170, 3) := by decide +kernel
theorem dX6_count_99 : decode cX6_count 99 = .ok (.ireturn, 1) := by decide +kernel
theorem dX6_count_100 : decode cX6_count 100 = .ok (.aload_n 0, 1) := by decide +kernel
theorem dX6_count_101 : decode cX6_count 101 = .ok (.getfield 19, 3) := by decide +kernel
theorem dX6_count_104 : decode cX6_count 104 = .ok (.iconst 1, 1) := by decide +kernel
theorem dX6_count_105 : decode cX6_count 105 = .ok (.invokevirtual 232, 3) := by decide +kernel
theorem dX6_count_108 : decode cX6_count 108 = .ok (.ireturn, 1) := by decide +kernel
theorem dX6_count_109 : decode cX6_count 109 = .ok (.aload_n 0, 1) := by decide +kernel
theorem dX6_count_110 : decode cX6_count 110 = .ok (.getfield 19, 3) := by decide +kernel
theorem dX6_count_113 : decode cX6_count 113 = .ok (.iconst 0, 1) := by decide +kernel
theorem dX6_count_114 : decode cX6_count 114 = .ok (.invokevirtual 232, 3) := by decide +kernel
theorem dX6_count_117 : decode cX6_count 117 = .ok (.ireturn, 1) := by decide +kernel
theorem dX6_count_118 : decode cX6_count 118 = .ok (.aload_n 0, 1) := by decide +kernel
theorem dX6_count_119 : decode cX6_count 119 = .ok (.getfield 19, 3) := by decide +kernel
theorem dX6_count_122 : decode cX6_count 122 = .ok (.invokevirtual 241, 3) := by decide +kernel
theorem dX6_count_125 : decode cX6_count 125 = .ok (.ireturn, 1) := by decide +kernel
theorem dX6_count_126 : decode cX6_count 126 = .ok (.aload_n 0, 1) := by decide +kernel
theorem dX6_count_127 : decode cX6_count 127 = .ok (.getfield 19, 3) := by decide +kernel
theorem dX6_count_130 : decode cX6_count 130 = .ok (.invokevirtual 244, 3) := by decide +kernel
theorem dX6_count_133 : decode cX6_count 133 = .ok (.ireturn, 1) := by decide +kernel
theorem dX6_count_134 : decode cX6_count 134 = .ok (.aload_n 0, 1) := by decide +kernel
theorem dX6_count_135 : decode cX6_count 135 = .ok (.getfield 19, 3) := by decide +kernel
theorem dX6_count_138 : decode cX6_count 138 = .ok (.invokevirtual 247, 3) := by decide +kernel
theorem dX6_count_141 : decode cX6_count 141 = .ok (.ireturn, 1) := by decide +kernel
theorem dX6_count_142 : decode cX6_count 142 = .ok (.aload_n 0, 1) := by decide +kernel
theorem dX6_count_143 : decode cX6_count 143 = .ok (.getfield 19, 3) := by decide +kernel
theorem dX6_count_146 : decode cX6_count 146 = .ok (.getfield 219, 3) := by decide +kernel
theorem dX6_count_149 : decode cX6_count 149 = .ok (.ireturn, 1) := by decide +kernel
theorem dX6_count_150 : decode cX6_count 150 = .ok (.aload_n 0, 1) := by decide +kernel
theorem dX6_count_151 : decode cX6_count 151 = .ok (.getfield 12, 3) := by decide +kernel
theorem dX6_count_154 : decode cX6_count 154 = .ok (.getfield 65, 3) := by decide +kernel
theorem dX6_count_157 : decode cX6_count 157 = .ok (.ireturn, 1) := by decide +kernel
theorem dX6_count_158 : decode cX6_count 158 = .ok (.aload_n 0, 1) := by decide +kernel
theorem dX6_count_159 : decode cX6_count 159 = .ok (.getfield 85, 3) := by decide +kernel
theorem dX6_count_162 : decode cX6_count 162 = .ok (.ireturn, 1) := by decide +kernel
theorem dX6_count_163 : decode cX6_count 163 = .ok (.aload_n 0, 1) := by decide +kernel
theorem dX6_count_164 : decode cX6_count 164 = .ok (.getfield 183, 3) := by decide +kernel
theorem dX6_count_167 : decode cX6_count 167 = .ok (.ireturn, 1) := by decide +kernel
theorem dX6_count_168 : decode cX6_count 168 = .ok (.bipush (-102), 2) := by decide +kernel
theorem dX6_count_170 : decode cX6_count 170 = .ok (.ireturn, 1) := by decide +kernel
theorem dX6_digest_0 : decode cX6_digest 0 = .ok (.ldc2_w 250, 3) := by decide +kernel
theorem dX6_digest_3 : decode cX6_digest 3 = .ok (.lstore_n 1, 1) := by decide +kernel
theorem dX6_digest_4 : decode cX6_digest 4 = .ok (.iconst 0, 1) := by decide +kernel
theorem dX6_digest_5 : decode cX6_digest 5 = .ok (.istore_n 3, 1) := by decide +kernel
theorem dX6_digest_6 : decode cX6_digest 6 = .ok (.iload_n 3, 1) := by decide +kernel
theorem dX6_digest_7 : decode cX6_digest 7 = .ok (.aload_n 0, 1) := by decide +kernel
theorem dX6_digest_8 : decode cX6_digest 8 = .ok (.getfield 19, 3) := by decide +kernel
theorem dX6_digest_11 : decode cX6_digest 11 = .ok (.getfield 88, 3) := by decide +kernel
theorem dX6_digest_14 : decode cX6_digest 14 = .ok (.if_icmp .ge 40, 3) := by decide +kernel
theorem dX6_digest_17 : decode cX6_digest 17 = .ok (.iconst 0, 1) := by decide +kernel
theorem dX6_digest_18 : decode cX6_digest 18 = .ok (.istore 4, 2) := by decide +kernel
theorem dX6_digest_20 : decode cX6_digest 20 = .ok (.iload 4, 2) := by decide +kernel
theorem dX6_digest_22 : decode cX6_digest 22 = .ok (.bipush 8, 2) := by decide +kernel
theorem dX6_digest_24 : decode cX6_digest 24 = .ok (.if_icmp .gt 24, 3) := by decide +kernel
theorem dX6_digest_27 : decode cX6_digest 27 = .ok (.ldc2_w 252, 3) := by decide +kernel
theorem dX6_digest_30 : decode cX6_digest 30 = .ok (.lload_n 1, 1) := by decide +kernel
theorem dX6_digest_31 : decode cX6_digest 31 = .ok (.lmul, 1) := by decide +kernel
theorem dX6_digest_32 : decode cX6_digest 32 = .ok (.aload_n 0, 1) := by decide +kernel
theorem dX6_digest_33 : decode cX6_digest 33 = .ok (.iload_n 3, 1) := by decide +kernel
theorem dX6_digest_34 : decode cX6_digest 34 = .ok (.iload 4, 2) := by decide +kernel
theorem dX6_digest_36 : decode cX6_digest 36 = .ok (.invokevirtual 254, 3) := by decide +kernel
theorem dX6_digest_39 : decode cX6_digest 39 = .ok (.i2l, 1) := by decide +kernel
theorem dX6_digest_40 : decode cX6_digest 40 = .ok (.ladd, 1) := by decide +kernel
theorem dX6_digest_41 : decode cX6_digest 41 = .ok (.lstore_n 1, 1) := by decide +kernel
theorem dX6_digest_42 : decode cX6_digest 42 = .ok (.iinc 4 1, 3) := by decide +kernel
theorem dX6_digest_45 : decode cX6_digest 45 = .ok (.goto (-25), 3) := by decide +kernel
theorem dX6_digest_48 : decode cX6_digest 48 = .ok (.iinc 3 1, 3) := by decide +kernel
theorem dX6_digest_51 : decode cX6_digest 51 = .ok (.goto (-45), 3) := by decide +kernel
theorem dX6_digest_54 : decode cX6_digest 54 = .ok (.iconst 0, 1) := by decide +kernel
theorem dX6_digest_55 : decode cX6_digest 55 = .ok (.istore_n 3, 1) := by decide +kernel
theorem dX6_digest_56 : decode cX6_digest 56 = .ok (.iload_n 3, 1) := by decide +kernel
theorem dX6_digest_57 : decode cX6_digest 57 = .ok (.aload_n 0, 1) := by decide +kernel
theorem dX6_digest_58 : decode cX6_digest 58 = .ok (.getfield 19, 3) := by decide +kernel
theorem dX6_digest_61 : decode cX6_digest 61 = .ok (.getfield 238, 3) := by decide +kernel
theorem dX6_digest_64 : decode cX6_digest 64 = .ok (.if_icmp .ge 16, 3) := by decide +kernel
theorem dX6_digest_67 : decode cX6_digest 67 = .ok (.aload_n 0, 1) := by decide +kernel
theorem dX6_digest_68 : decode cX6_digest 68 = .ok (.lload_n 1, 1) := by decide +kernel
theorem dX6_digest_69 : decode cX6_digest 69 = .ok (.iload_n 3, 1) := by decide +kernel
theorem dX6_digest_70 : decode cX6_digest 70 = .ok (.invokevirtual 257, 3) := by decide +kernel
theorem dX6_digest_73 : decode cX6_digest 73 = .ok (.lstore_n 1, 1) := by decide +kernel
theorem dX6_digest_74 : decode cX6_digest 74 = .ok (.iinc 3 1, 3) := by decide +kernel
theorem dX6_digest_77 : decode cX6_digest 77 = .ok (.goto (-21), 3) := by decide +kernel
theorem dX6_digest_80 : decode cX6_digest 80 = .ok (.aload_n 0, 1) := by decide +kernel
theorem dX6_digest_81 : decode cX6_digest 81 = .ok (.invokevirtual 167, 3) := by decide +kernel
theorem dX6_digest_84 : decode cX6_digest 84 = .ok (.ifCond .eq 9, 3) := by decide +kernel
theorem dX6_digest_87 : decode cX6_digest 87 = .ok (.aload_n 0, 1) := by decide +kernel
theorem dX6_digest_88 : decode cX6_digest 88 = .ok (.lload_n 1, 1) := by decide +kernel
theorem dX6_digest_89 : decode cX6_digest 89 = .ok (.invokevirtual 261, 3) := by decide +kernel
theorem dX6_digest_92 : decode cX6_digest 92 = .ok (.lstore_n 1, 1) := by decide +kernel
theorem dX6_digest_93 : decode cX6_digest 93 = .ok (.iconst 0, 1) := by decide +kernel
theorem dX6_digest_94 : decode cX6_digest 94 = .ok (.istore_n 3, 1) := by decide +kernel
theorem dX6_digest_95 : decode cX6_digest 95 = .ok (.iload_n 3, 1) := by decide +kernel
theorem dX6_digest_96 : decode cX6_digest 96 = .ok (.aload_n 0, 1) := by decide +kernel
theorem dX6_digest_97 : decode cX6_digest 97 = .ok (.getfield 12, 3) := by decide +kernel
theorem dX6_digest_100 : decode cX6_digest 100 = .ok (.getfield 65, 3) := by decide +kernel
theorem dX6_digest_103 : decode cX6_digest 103 = .ok (.if_icmp .ge 28, 3) := by decide +kernel
theorem dX6_digest_106 : decode cX6_digest 106 = .ok (.ldc2_w 252, 3) := by decide +kernel
theorem dX6_digest_109 : decode cX6_digest 109 = .ok (.lload_n 1, 1) := by decide +kernel
theorem dX6_digest_110 : decode cX6_digest 110 = .ok (.lmul, 1) := by decide +kernel
theorem dX6_digest_111 : decode cX6_digest 111 = .ok (.aload_n 0, 1) := by decide +kernel
theorem dX6_digest_112 : decode cX6_digest 112 = .ok (.getfield 12, 3) := by decide +kernel
theorem dX6_digest_115 : decode cX6_digest 115 = .ok (.getfield 265, 3) := by decide +kernel
theorem dX6_digest_118 : decode cX6_digest 118 = .ok (.iload_n 3, 1) := by decide +kernel
theorem dX6_digest_119 : decode cX6_digest 119 = .ok (.invokestatic 98, 3) := by decide +kernel
theorem dX6_digest_122 : decode cX6_digest 122 = .ok (.i2l, 1) := by decide +kernel
theorem dX6_digest_123 : decode cX6_digest 123 = .ok (.ladd, 1) := by decide +kernel
theorem dX6_digest_124 : decode cX6_digest 124 = .ok (.lstore_n 1, 1) := by decide +kernel
theorem dX6_digest_125 : decode cX6_digest 125 = .ok (.iinc 3 1, 3) := by decide +kernel
theorem dX6_digest_128 : decode cX6_digest 128 = .ok (.goto (-33), 3) := by decide +kernel
theorem dX6_digest_131 : decode cX6_digest 131 = .ok (.iconst 0, 1) := by decide +kernel
theorem dX6_digest_132 : decode cX6_digest 132 = .ok (.istore_n 3, 1) := by decide +kernel
theorem dX6_digest_133 : decode cX6_digest 133 = .ok (.iload_n 3, 1) := by decide +kernel
theorem dX6_digest_134 : decode cX6_digest 134 = .ok (.bipush 12, 2) := by decide +kernel
theorem dX6_digest_136 : decode cX6_digest 136 = .ok (.if_icmp .gt 22, 3) := by decide +kernel
theorem dX6_digest_139 : decode cX6_digest 139 = .ok (.ldc2_w 252, 3) := by decide +kernel
theorem dX6_digest_142 : decode cX6_digest 142 = .ok (.lload_n 1, 1) := by decide +kernel
theorem dX6_digest_143 : decode cX6_digest 143 = .ok (.lmul, 1) := by decide +kernel
theorem dX6_digest_144 : decode cX6_digest 144 = .ok (.aload_n 0, 1) := by decide +kernel
theorem dX6_digest_145 : decode cX6_digest 145 = .ok (.iload_n 3, 1) := by decide +kernel
theorem dX6_digest_146 : decode cX6_digest 146 = .ok (.invokevirtual 268, 3) := by decide +kernel
theorem dX6_digest_149 : decode cX6_digest 149 = .ok (.i2l, 1) := by decide +kernel
theorem dX6_digest_150 : decode cX6_digest 150 = .ok (.ladd, 1) := by decide +kernel
theorem dX6_digest_151 : decode cX6_digest 151 = .ok (.lstore_n 1, 1) := by decide +kernel
theorem dX6_digest_152 : decode cX6_digest 152 = .ok (.iinc 3 1, 3) := by decide +kernel
theorem dX6_digest_155 : decode cX6_digest 155 = .ok (.goto (-22), 3) := by decide +kernel
theorem dX6_digest_158 : decode cX6_digest 158 = .ok (.lload_n 1, 1) := by decide +kernel
theorem dX6_digest_159 : decode cX6_digest 159 = .ok (.lreturn, 1) := by decide +kernel
theorem dX6_digestOfWearer_0 : decode cX6_digestOfWearer 0 = .ok (.lload_n 1, 1) := by decide +kernel
theorem dX6_digestOfWearer_1 : decode cX6_digestOfWearer 1 = .ok (.lstore 4, 2) := by decide +kernel
theorem dX6_digestOfWearer_3 : decode cX6_digestOfWearer 3 = .ok (.iconst 0, 1) := by decide +kernel
theorem dX6_digestOfWearer_4 : decode cX6_digestOfWearer 4 = .ok (.istore 6, 2) := by decide +kernel
theorem dX6_digestOfWearer_6 : decode cX6_digestOfWearer 6 = .ok (.iload 6, 2) := by decide +kernel
theorem dX6_digestOfWearer_8 : decode cX6_digestOfWearer 8 = .ok (.bipush 8, 2) := by decide +kernel
theorem dX6_digestOfWearer_10 : decode cX6_digestOfWearer 10 = .ok (.if_icmp .gt 26, 3) := by decide +kernel
theorem dX6_digestOfWearer_13 : decode cX6_digestOfWearer 13 = .ok (.ldc2_w 252, 3) := by decide +kernel
theorem dX6_digestOfWearer_16 : decode cX6_digestOfWearer 16 = .ok (.lload 4, 2) := by decide +kernel
theorem dX6_digestOfWearer_18 : decode cX6_digestOfWearer 18 = .ok (.lmul, 1) := by decide +kernel
theorem dX6_digestOfWearer_19 : decode cX6_digestOfWearer 19 = .ok (.aload_n 0, 1) := by decide +kernel
theorem dX6_digestOfWearer_20 : decode cX6_digestOfWearer 20 = .ok (.iload_n 3, 1) := by decide +kernel
theorem dX6_digestOfWearer_21 : decode cX6_digestOfWearer 21 = .ok (.iload 6, 2) := by decide +kernel
theorem dX6_digestOfWearer_23 : decode cX6_digestOfWearer 23 = .ok (.invokevirtual 271, 3) := by decide +kernel
theorem dX6_digestOfWearer_26 : decode cX6_digestOfWearer 26 = .ok (.i2l, 1) := by decide +kernel
theorem dX6_digestOfWearer_27 : decode cX6_digestOfWearer 27 = .ok (.ladd, 1) := by decide +kernel
theorem dX6_digestOfWearer_28 : decode cX6_digestOfWearer 28 = .ok (.lstore 4, 2) := by decide +kernel
theorem dX6_digestOfWearer_30 : decode cX6_digestOfWearer 30 = .ok (.iinc 6 1, 3) := by decide +kernel
theorem dX6_digestOfWearer_33 : decode cX6_digestOfWearer 33 = .ok (.goto (-27), 3) := by decide +kernel
theorem dX6_digestOfWearer_36 : decode cX6_digestOfWearer 36 = .ok (.ldc2_w 252, 3) := by decide +kernel
theorem dX6_digestOfWearer_39 : decode cX6_digestOfWearer 39 = .ok (.lload 4, 2) := by decide +kernel
theorem dX6_digestOfWearer_41 : decode cX6_digestOfWearer 41 = .ok (.lmul, 1) := by decide +kernel
theorem dX6_digestOfWearer_42 : decode cX6_digestOfWearer 42 = .ok (.aload_n 0, 1) := by decide +kernel
theorem dX6_digestOfWearer_43 : decode cX6_digestOfWearer 43 = .ok (.iload_n 3, 1) := by decide +kernel
theorem dX6_digestOfWearer_44 : decode cX6_digestOfWearer 44 = .ok (.iconst 5, 1) := by decide +kernel
theorem dX6_digestOfWearer_45 : decode cX6_digestOfWearer 45 = .ok (.invokevirtual 274, 3) := by decide +kernel
theorem dX6_digestOfWearer_48 : decode cX6_digestOfWearer 48 = .ok (.i2l, 1) := by decide +kernel
theorem dX6_digestOfWearer_49 : decode cX6_digestOfWearer 49 = .ok (.ladd, 1) := by decide +kernel
theorem dX6_digestOfWearer_50 : decode cX6_digestOfWearer 50 = .ok (.lstore 4, 2) := by decide +kernel
theorem dX6_digestOfWearer_52 : decode cX6_digestOfWearer 52 = .ok (.ldc2_w 252, 3) := by decide +kernel
theorem dX6_digestOfWearer_55 : decode cX6_digestOfWearer 55 = .ok (.lload 4, 2) := by decide +kernel
theorem dX6_digestOfWearer_57 : decode cX6_digestOfWearer 57 = .ok (.lmul, 1) := by decide +kernel
theorem dX6_digestOfWearer_58 : decode cX6_digestOfWearer 58 = .ok (.aload_n 0, 1) := by decide +kernel
theorem dX6_digestOfWearer_59 : decode cX6_digestOfWearer 59 = .ok (.iload_n 3, 1) := by decide +kernel
theorem dX6_digestOfWearer_60 : decode cX6_digestOfWearer 60 = .ok (.iconst 4, 1) := by decide +kernel
theorem dX6_digestOfWearer_61 : decode cX6_digestOfWearer 61 = .ok (.bipush 6, 2) := by decide +kernel
theorem dX6_digestOfWearer_63 : decode cX6_digestOfWearer 63 = .ok (.iconst 0, 1) := by decide +kernel
theorem dX6_digestOfWearer_64 : decode cX6_digestOfWearer 64 = .ok (.invokevirtual 277, 3) := by decide +kernel
theorem dX6_digestOfWearer_67 : decode cX6_digestOfWearer 67 = .ok (.i2l, 1) := by decide +kernel
theorem dX6_digestOfWearer_68 : decode cX6_digestOfWearer 68 = .ok (.ladd, 1) := by decide +kernel
theorem dX6_digestOfWearer_69 : decode cX6_digestOfWearer 69 = .ok (.lstore 4, 2) := by decide +kernel
theorem dX6_digestOfWearer_71 : decode cX6_digestOfWearer 71 = .ok (.ldc2_w 252, 3) := by decide +kernel
theorem dX6_digestOfWearer_74 : decode cX6_digestOfWearer 74 = .ok (.lload 4, 2) := by decide +kernel
theorem dX6_digestOfWearer_76 : decode cX6_digestOfWearer 76 = .ok (.lmul, 1) := by decide +kernel
theorem dX6_digestOfWearer_77 : decode cX6_digestOfWearer 77 = .ok (.aload_n 0, 1) := by decide +kernel
theorem dX6_digestOfWearer_78 : decode cX6_digestOfWearer 78 = .ok (.iload_n 3, 1) := by decide +kernel
theorem dX6_digestOfWearer_79 : decode cX6_digestOfWearer 79 = .ok (.iconst 4, 1) := by decide +kernel
theorem dX6_digestOfWearer_80 : decode cX6_digestOfWearer 80 = .ok (.bipush 6, 2) := by decide +kernel
theorem dX6_digestOfWearer_82 : decode cX6_digestOfWearer 82 = .ok (.iconst 1, 1) := by decide +kernel
theorem dX6_digestOfWearer_83 : decode cX6_digestOfWearer 83 = .ok (.invokevirtual 277, 3) := by decide +kernel
theorem dX6_digestOfWearer_86 : decode cX6_digestOfWearer 86 = .ok (.i2l, 1) := by decide +kernel
theorem dX6_digestOfWearer_87 : decode cX6_digestOfWearer 87 = .ok (.ladd, 1) := by decide +kernel
theorem dX6_digestOfWearer_88 : decode cX6_digestOfWearer 88 = .ok (.lreturn, 1) := by decide +kernel
theorem dX6_digestOfBoxes_0 : decode cX6_digestOfBoxes 0 = .ok (.aload_n 0, 1) := by decide +kernel
theorem dX6_digestOfBoxes_1 : decode cX6_digestOfBoxes 1 = .ok (.getfield 39, 3) := by decide +kernel
theorem dX6_digestOfBoxes_4 : decode cX6_digestOfBoxes 4 = .ok (.aload_n 0, 1) := by decide +kernel
theorem dX6_digestOfBoxes_5 : decode cX6_digestOfBoxes 5 = .ok (.getfield 19, 3) := by decide +kernel
theorem dX6_digestOfBoxes_8 : decode cX6_digestOfBoxes 8 = .ok (.invokevirtual 198, 3) := by decide +kernel
theorem dX6_digestOfBoxes_11 : decode cX6_digestOfBoxes 11 = .ok (.ldc2_w 252, 3) := by decide +kernel
theorem dX6_digestOfBoxes_14 : decode cX6_digestOfBoxes 14 = .ok (.lload_n 1, 1) := by decide +kernel
theorem dX6_digestOfBoxes_15 : decode cX6_digestOfBoxes 15 = .ok (.lmul, 1) := by decide +kernel
theorem dX6_digestOfBoxes_16 : decode cX6_digestOfBoxes 16 = .ok (.aload_n 0, 1) := by decide +kernel
theorem dX6_digestOfBoxes_17 : decode cX6_digestOfBoxes 17 = .ok (.getfield 39, 3) := by decide +kernel
theorem dX6_digestOfBoxes_20 : decode cX6_digestOfBoxes 20 = .ok (.getfield 199, 3) := by decide +kernel
theorem dX6_digestOfBoxes_23 : decode cX6_digestOfBoxes 23 = .ok (.i2l, 1) := by decide +kernel
theorem dX6_digestOfBoxes_24 : decode cX6_digestOfBoxes 24 = .ok (.ladd, 1) := by decide +kernel
theorem dX6_digestOfBoxes_25 : decode cX6_digestOfBoxes 25 = .ok (.lstore_n 3, 1) := by decide +kernel
theorem dX6_digestOfBoxes_26 : decode cX6_digestOfBoxes 26 = .ok (.iconst 0, 1) := by decide +kernel
theorem dX6_digestOfBoxes_27 : decode cX6_digestOfBoxes 27 = .ok (.istore 5, 2) := by decide +kernel
theorem dX6_digestOfBoxes_29 : decode cX6_digestOfBoxes 29 = .ok (.iload 5, 2) := by decide +kernel
theorem dX6_digestOfBoxes_31 : decode cX6_digestOfBoxes 31 = .ok (.bipush 6, 2) := by decide +kernel
theorem dX6_digestOfBoxes_33 : decode cX6_digestOfBoxes 33 = .ok (.if_icmp .ge 29, 3) := by decide +kernel
theorem dX6_digestOfBoxes_36 : decode cX6_digestOfBoxes 36 = .ok (.ldc2_w 252, 3) := by decide +kernel
theorem dX6_digestOfBoxes_39 : decode cX6_digestOfBoxes 39 = .ok (.lload_n 3, 1) := by decide +kernel
theorem dX6_digestOfBoxes_40 : decode cX6_digestOfBoxes 40 = .ok (.lmul, 1) := by decide +kernel
theorem dX6_digestOfBoxes_41 : decode cX6_digestOfBoxes 41 = .ok (.aload_n 0, 1) := by decide +kernel
theorem dX6_digestOfBoxes_42 : decode cX6_digestOfBoxes 42 = .ok (.getfield 39, 3) := by decide +kernel
theorem dX6_digestOfBoxes_45 : decode cX6_digestOfBoxes 45 = .ok (.getfield 202, 3) := by decide +kernel
theorem dX6_digestOfBoxes_48 : decode cX6_digestOfBoxes 48 = .ok (.iload 5, 2) := by decide +kernel
theorem dX6_digestOfBoxes_50 : decode cX6_digestOfBoxes 50 = .ok (.invokestatic 98, 3) := by decide +kernel
theorem dX6_digestOfBoxes_53 : decode cX6_digestOfBoxes 53 = .ok (.i2l, 1) := by decide +kernel
theorem dX6_digestOfBoxes_54 : decode cX6_digestOfBoxes 54 = .ok (.ladd, 1) := by decide +kernel
theorem dX6_digestOfBoxes_55 : decode cX6_digestOfBoxes 55 = .ok (.lstore_n 3, 1) := by decide +kernel
theorem dX6_digestOfBoxes_56 : decode cX6_digestOfBoxes 56 = .ok (.iinc 5 1, 3) := by decide +kernel
theorem dX6_digestOfBoxes_59 : decode cX6_digestOfBoxes 59 = .ok (.goto (-30), 3) := by decide +kernel
theorem dX6_digestOfBoxes_62 : decode cX6_digestOfBoxes 62 = .ok (.lload_n 3, 1) := by decide +kernel
theorem dX6_digestOfBoxes_63 : decode cX6_digestOfBoxes 63 = .ok (.lreturn, 1) := by decide +kernel
theorem dX6_hasShop_0 : decode cX6_hasShop 0 = .ok (.aload_n 0, 1) := by decide +kernel
theorem dX6_hasShop_1 : decode cX6_hasShop 1 = .ok (.getfield 19, 3) := by decide +kernel
theorem dX6_hasShop_4 : decode cX6_hasShop 4 = .ok (.getfield 88, 3) := by decide +kernel
theorem dX6_hasShop_7 : decode cX6_hasShop 7 = .ok (.ifCond .le 7, 3) := by decide +kernel
theorem dX6_hasShop_10 : decode cX6_hasShop 10 = .ok (.iconst 1, 1) := by decide +kernel
theorem dX6_hasShop_11 : decode cX6_hasShop 11 = .ok (.goto 4, 3) := by decide +kernel
theorem dX6_hasShop_14 : decode cX6_hasShop 14 = .ok (.iconst 0, 1) := by decide +kernel
theorem dX6_hasShop_15 : decode cX6_hasShop 15 = .ok (.ireturn, 1) := by decide +kernel
theorem dX6_asksOfGlove_0 : decode cX6_asksOfGlove 0 = .ok (.iload_n 0, 1) := by decide +kernel
theorem dX6_asksOfGlove_1 : decode cX6_asksOfGlove 1 = .ok (.bipush 10, 2) := by decide +kernel
theorem dX6_asksOfGlove_3 : decode cX6_asksOfGlove 3 = .ok (.bipush 15, 2) := by decide +kernel
theorem dX6_asksOfGlove_5 : decode cX6_asksOfGlove 5 = .ok (.invokestatic 57, 3) := by decide +kernel
theorem dX6_asksOfGlove_8 : decode cX6_asksOfGlove 8 = .ok (.ireturn, 1) := by decide +kernel
theorem dX6_within_0 : decode cX6_within 0 = .ok (.iload_n 0, 1) := by decide +kernel
theorem dX6_within_1 : decode cX6_within 1 = .ok (.iload_n 1, 1) := by decide +kernel
theorem dX6_within_2 : decode cX6_within 2 = .ok (.if_icmp .lt 12, 3) := by decide +kernel
theorem dX6_within_5 : decode cX6_within 5 = .ok (.iload_n 0, 1) := by decide +kernel
theorem dX6_within_6 : decode cX6_within 6 = .ok (.iload_n 2, 1) := by decide +kernel
theorem dX6_within_7 : decode cX6_within 7 = .ok (.if_icmp .gt 7, 3) := by decide +kernel
theorem dX6_within_10 : decode cX6_within 10 = .ok (.iconst 1, 1) := by decide +kernel
theorem dX6_within_11 : decode cX6_within 11 = .ok (.goto 4, 3) := by decide +kernel
theorem dX6_within_14 : decode cX6_within 14 = .ok (.iconst 0, 1) := by decide +kernel
theorem dX6_within_15 : decode cX6_within 15 = .ok (.ireturn, 1) := by decide +kernel
theorem dX6_at_0 : decode cX6_at 0 = .ok (.aload_n 0, 1) := by decide +kernel
theorem dX6_at_1 : decode cX6_at 1 = .ok (.ifnull 19, 3) := by decide +kernel
theorem dX6_at_4 : decode cX6_at 4 = .ok (.iload_n 1, 1) := by decide +kernel
theorem dX6_at_5 : decode cX6_at 5 = .ok (.ifCond .lt 15, 3) := by decide +kernel
theorem dX6_at_8 : decode cX6_at 8 = .ok (.iload_n 1, 1) := by decide +kernel
theorem dX6_at_9 : decode cX6_at 9 = .ok (.aload_n 0, 1) := by decide +kernel
theorem dX6_at_10 : decode cX6_at 10 = .ok (.arraylength, 1) := by decide +kernel
theorem dX6_at_11 : decode cX6_at 11 = .ok (.if_icmp .ge 9, 3) := by decide +kernel
theorem dX6_at_14 : decode cX6_at 14 = .ok (.aload_n 0, 1) := by decide +kernel
theorem dX6_at_15 : decode cX6_at 15 = .ok (.iload_n 1, 1) := by decide +kernel
theorem dX6_at_16 : decode cX6_at 16 = .ok (.iaload, 1) := by decide +kernel
theorem dX6_at_17 : decode cX6_at 17 = .ok (.goto 4, 3) := by decide +kernel
theorem dX6_at_20 : decode cX6_at 20 = .ok (.iconst 0, 1) := by decide +kernel
theorem dX6_at_21 : decode cX6_at 21 = .ok (.ireturn, 1) := by decide +kernel
theorem dX6_put_0 : decode cX6_put 0 = .ok (.aload_n 0, 1) := by decide +kernel
theorem dX6_put_1 : decode cX6_put 1 = .ok (.ifnull 17, 3) := by decide +kernel
theorem dX6_put_4 : decode cX6_put 4 = .ok (.iload_n 1, 1) := by decide +kernel
theorem dX6_put_5 : decode cX6_put 5 = .ok (.ifCond .lt 13, 3) := by decide +kernel
theorem dX6_put_8 : decode cX6_put 8 = .ok (.iload_n 1, 1) := by decide +kernel
theorem dX6_put_9 : decode cX6_put 9 = .ok (.aload_n 0, 1) := by decide +kernel
theorem dX6_put_10 : decode cX6_put 10 = .ok (.arraylength, 1) := by decide +kernel
theorem dX6_put_11 : decode cX6_put 11 = .ok (.if_icmp .ge 7, 3) := by decide +kernel
theorem dX6_put_14 : decode cX6_put 14 = .ok (.aload_n 0, 1) := by decide +kernel
theorem dX6_put_15 : decode cX6_put 15 = .ok (.iload_n 1, 1) := by decide +kernel
theorem dX6_put_16 : decode cX6_put 16 = .ok (.iload_n 2, 1) := by decide +kernel
theorem dX6_put_17 : decode cX6_put 17 = .ok (.iastore, 1) := by decide +kernel
theorem dX6_put_18 : decode cX6_put 18 = .ok (.return_, 1) := by decide +kernel
theorem dX6_copyRow_0 : decode cX6_copyRow 0 = .ok (.aload_n 0, 1) := by decide +kernel
theorem dX6_copyRow_1 : decode cX6_copyRow 1 = .ok (.ifnull 21, 3) := by decide +kernel
theorem dX6_copyRow_4 : decode cX6_copyRow 4 = .ok (.aload_n 1, 1) := by decide +kernel
theorem dX6_copyRow_5 : decode cX6_copyRow 5 = .ok (.ifnull 17, 3) := by decide +kernel
theorem dX6_copyRow_8 : decode cX6_copyRow 8 = .ok (.aload_n 0, 1) := by decide +kernel
theorem dX6_copyRow_9 : decode cX6_copyRow 9 = .ok (.iconst 0, 1) := by decide +kernel
theorem dX6_copyRow_10 : decode cX6_copyRow 10 = .ok (.aload_n 1, 1) := by decide +kernel
theorem dX6_copyRow_11 : decode cX6_copyRow 11 = .ok (.iconst 0, 1) := by decide +kernel
theorem dX6_copyRow_12 : decode cX6_copyRow 12 = .ok (.aload_n 0, 1) := by decide +kernel
theorem dX6_copyRow_13 : decode cX6_copyRow 13 = .ok (.arraylength, 1) := by decide +kernel
theorem dX6_copyRow_14 : decode cX6_copyRow 14 = .ok (.aload_n 1, 1) := by decide +kernel
theorem dX6_copyRow_15 : decode cX6_copyRow 15 = .ok (.arraylength, 1) := by decide +kernel
theorem dX6_copyRow_16 : decode cX6_copyRow 16 = .ok (.invokestatic 281, 3) := by decide +kernel
theorem dX6_copyRow_19 : decode cX6_copyRow 19 = .ok (.invokestatic 286, 3) := by decide +kernel
theorem dX6_copyRow_22 : decode cX6_copyRow 22 = .ok (.return_, 1) := by decide +kernel
theorem dX6_hasBit_0 : decode cX6_hasBit 0 = .ok (.iload_n 0, 1) := by decide +kernel
theorem dX6_hasBit_1 : decode cX6_hasBit 1 = .ok (.iload_n 1, 1) := by decide +kernel
theorem dX6_hasBit_2 : decode cX6_hasBit 2 = .ok (.ishr, 1) := by decide +kernel
theorem dX6_hasBit_3 : decode cX6_hasBit 3 = .ok (.iconst 1, 1) := by decide +kernel
theorem dX6_hasBit_4 : decode cX6_hasBit 4 = .ok (.iand, 1) := by decide +kernel
theorem dX6_hasBit_5 : decode cX6_hasBit 5 = .ok (.ifCond .eq 7, 3) := by decide +kernel
theorem dX6_hasBit_8 : decode cX6_hasBit 8 = .ok (.iconst 1, 1) := by decide +kernel
theorem dX6_hasBit_9 : decode cX6_hasBit 9 = .ok (.goto 4, 3) := by decide +kernel
theorem dX6_hasBit_12 : decode cX6_hasBit 12 = .ok (.iconst 0, 1) := by decide +kernel
theorem dX6_hasBit_13 : decode cX6_hasBit 13 = .ok (.ireturn, 1) := by decide +kernel
theorem dX6_kindOf_0 : decode cX6_kindOf 0 = .ok (.iload_n 0, 1) := by decide +kernel
theorem dX6_kindOf_1 : decode cX6_kindOf 1 = .ok (.tableswitch 73 100 111 #[67, 73, 73, 63, 73, 73, 73, 65, 71, 73, 73, 69], 63) := by decide +kernel
theorem dX6_kindOf_64 : decode cX6_kindOf 64 = .ok (.iconst 0, 1) := by decide +kernel
theorem dX6_kindOf_65 : decode cX6_kindOf 65 = .ok (.ireturn, 1) := by decide +kernel
theorem dX6_kindOf_66 : decode cX6_kindOf 66 = .ok (.iconst 1, 1) := by decide +kernel
theorem dX6_kindOf_67 : decode cX6_kindOf 67 = .ok (.ireturn, 1) := by decide +kernel
theorem dX6_kindOf_68 : decode cX6_kindOf 68 = .ok (.iconst 2, 1) := by decide +kernel
theorem dX6_kindOf_69 : decode cX6_kindOf 69 = .ok (.ireturn, 1) := by decide +kernel
theorem dX6_kindOf_70 : decode cX6_kindOf 70 = .ok (.iconst 3, 1) := by decide +kernel
theorem dX6_kindOf_71 : decode cX6_kindOf 71 = .ok (.ireturn, 1) := by decide +kernel
theorem dX6_kindOf_72 : decode cX6_kindOf 72 = .ok (.iconst 4, 1) := by decide +kernel
theorem dX6_kindOf_73 : decode cX6_kindOf 73 = .ok (.ireturn, 1) := by decide +kernel
theorem dX6_kindOf_74 : decode cX6_kindOf 74 = .ok (.iconst (-1), 1) := by decide +kernel
theorem dX6_kindOf_75 : decode cX6_kindOf 75 = .ok (.ireturn, 1) := by decide +kernel
theorem dX6_isOfKind_0 : decode cX6_isOfKind 0 = .ok (.iload_n 1, 1) := by decide +kernel
theorem dX6_isOfKind_1 : decode cX6_isOfKind 1 = .ok (.ifCond .eq 18, 3) := by decide +kernel
theorem dX6_isOfKind_4 : decode cX6_isOfKind 4 = .ok (.iload_n 0, 1) := by decide +kernel
theorem dX6_isOfKind_5 : decode cX6_isOfKind 5 = .ok (.iload_n 1, 1) := by decide +kernel
theorem dX6_isOfKind_6 : decode cX6_isOfKind 6 = .ok (.if_icmp .eq 13, 3) := by decide +kernel
theorem dX6_isOfKind_9 : decode cX6_isOfKind 9 = .ok (.iload_n 0, 1) := by decide +kernel
theorem dX6_isOfKind_10 : decode cX6_isOfKind 10 = .ok (.iconst 4, 1) := by decide +kernel
theorem dX6_isOfKind_11 : decode cX6_isOfKind 11 = .ok (.if_icmp .ne 12, 3) := by decide +kernel
theorem dX6_isOfKind_14 : decode cX6_isOfKind 14 = .ok (.iload_n 1, 1) := by decide +kernel
theorem dX6_isOfKind_15 : decode cX6_isOfKind 15 = .ok (.iconst 1, 1) := by decide +kernel
theorem dX6_isOfKind_16 : decode cX6_isOfKind 16 = .ok (.if_icmp .ne 7, 3) := by decide +kernel
theorem dX6_isOfKind_19 : decode cX6_isOfKind 19 = .ok (.iconst 1, 1) := by decide +kernel
theorem dX6_isOfKind_20 : decode cX6_isOfKind 20 = .ok (.goto 4, 3) := by decide +kernel
theorem dX6_isOfKind_23 : decode cX6_isOfKind 23 = .ok (.iconst 0, 1) := by decide +kernel
theorem dX6_isOfKind_24 : decode cX6_isOfKind 24 = .ok (.ireturn, 1) := by decide +kernel
theorem dX6_ageOf_0 : decode cX6_ageOf 0 = .ok (.iload_n 0, 1) := by decide +kernel
theorem dX6_ageOf_1 : decode cX6_ageOf 1 = .ok (.bipush 20, 2) := by decide +kernel
theorem dX6_ageOf_3 : decode cX6_ageOf 3 = .ok (.if_icmp .ge 7, 3) := by decide +kernel
theorem dX6_ageOf_6 : decode cX6_ageOf 6 = .ok (.iload_n 0, 1) := by decide +kernel
theorem dX6_ageOf_7 : decode cX6_ageOf 7 = .ok (.goto 5, 3) := by decide +kernel
theorem dX6_ageOf_10 : decode cX6_ageOf 10 = .ok (.bipush 20, 2) := by decide +kernel
theorem dX6_ageOf_12 : decode cX6_ageOf 12 = .ok (.ireturn, 1) := by decide +kernel
theorem dX6_temperOf_0 : decode cX6_temperOf 0 = .ok (.iload_n 0, 1) := by decide +kernel
theorem dX6_temperOf_1 : decode cX6_temperOf 1 = .ok (.tableswitch 94 1 4 #[31, 69, 81, 48], 31) := by decide +kernel
theorem dX6_temperOf_32 : decode cX6_temperOf 32 = .ok (.iload_n 1, 1) := by decide +kernel
theorem dX6_temperOf_33 : decode cX6_temperOf 33 = .ok (.iload_n 2, 1) := by decide +kernel
theorem dX6_temperOf_34 : decode cX6_temperOf 34 = .ok (.iadd, 1) := by decide +kernel
theorem dX6_temperOf_35 : decode cX6_temperOf 35 = .ok (.bipush 9, 2) := by decide +kernel
theorem dX6_temperOf_37 : decode cX6_temperOf 37 = .ok (.if_icmp .ge 9, 3) := by decide +kernel
theorem dX6_temperOf_40 : decode cX6_temperOf 40 = .ok (.iload_n 1, 1) := by decide +kernel
theorem dX6_temperOf_41 : decode cX6_temperOf 41 = .ok (.iload_n 2, 1) := by decide +kernel
theorem dX6_temperOf_42 : decode cX6_temperOf 42 = .ok (.iadd, 1) := by decide +kernel
theorem dX6_temperOf_43 : decode cX6_temperOf 43 = .ok (.goto 5, 3) := by decide +kernel
theorem dX6_temperOf_46 : decode cX6_temperOf 46 = .ok (.bipush 9, 2) := by decide +kernel
theorem dX6_temperOf_48 : decode cX6_temperOf 48 = .ok (.ireturn, 1) := by decide +kernel
theorem dX6_temperOf_49 : decode cX6_temperOf 49 = .ok (.iload_n 1, 1) := by decide +kernel
theorem dX6_temperOf_50 : decode cX6_temperOf 50 = .ok (.iconst 2, 1) := by decide +kernel
theorem dX6_temperOf_51 : decode cX6_temperOf 51 = .ok (.iload_n 2, 1) := by decide +kernel
theorem dX6_temperOf_52 : decode cX6_temperOf 52 = .ok (.imul, 1) := by decide +kernel
theorem dX6_temperOf_53 : decode cX6_temperOf 53 = .ok (.iadd, 1) := by decide +kernel
theorem dX6_temperOf_54 : decode cX6_temperOf 54 = .ok (.bipush 9, 2) := by decide +kernel
theorem dX6_temperOf_56 : decode cX6_temperOf 56 = .ok (.if_icmp .ge 11, 3) := by decide +kernel
theorem dX6_temperOf_59 : decode cX6_temperOf 59 = .ok (.iload_n 1, 1) := by decide +kernel
theorem dX6_temperOf_60 : decode cX6_temperOf 60 = .ok (.iconst 2, 1) := by decide +kernel
theorem dX6_temperOf_61 : decode cX6_temperOf 61 = .ok (.iload_n 2, 1) := by decide +kernel
theorem dX6_temperOf_62 : decode cX6_temperOf 62 = .ok (.imul, 1) := by decide +kernel
theorem dX6_temperOf_63 : decode cX6_temperOf 63 = .ok (.iadd, 1) := by decide +kernel
theorem dX6_temperOf_64 : decode cX6_temperOf 64 = .ok (.goto 5, 3) := by decide +kernel
theorem dX6_temperOf_67 : decode cX6_temperOf 67 = .ok (.bipush 9, 2) := by decide +kernel
theorem dX6_temperOf_69 : decode cX6_temperOf 69 = .ok (.ireturn, 1) := by decide +kernel
theorem dX6_temperOf_70 : decode cX6_temperOf 70 = .ok (.iload_n 2, 1) := by decide +kernel
theorem dX6_temperOf_71 : decode cX6_temperOf 71 = .ok (.iconst 2, 1) := by decide +kernel
theorem dX6_temperOf_72 : decode cX6_temperOf 72 = .ok (.irem, 1) := by decide +kernel
theorem dX6_temperOf_73 : decode cX6_temperOf 73 = .ok (.ifCond .eq 7, 3) := by decide +kernel
theorem dX6_temperOf_76 : decode cX6_temperOf 76 = .ok (.iload_n 1, 1) := by decide +kernel
theorem dX6_temperOf_77 : decode cX6_temperOf 77 = .ok (.goto 4, 3) := by decide +kernel
theorem dX6_temperOf_80 : decode cX6_temperOf 80 = .ok (.iconst 0, 1) := by decide +kernel
theorem dX6_temperOf_81 : decode cX6_temperOf 81 = .ok (.ireturn, 1) := by decide +kernel
theorem dX6_temperOf_82 : decode cX6_temperOf 82 = .ok (.iload_n 1, 1) := by decide +kernel
theorem dX6_temperOf_83 : decode cX6_temperOf 83 = .ok (.iload_n 2, 1) := by decide +kernel
theorem dX6_temperOf_84 : decode cX6_temperOf 84 = .ok (.if_icmp .le 9, 3) := by decide +kernel
theorem dX6_temperOf_87 : decode cX6_temperOf 87 = .ok (.iload_n 1, 1) := by decide +kernel
theorem dX6_temperOf_88 : decode cX6_temperOf 88 = .ok (.iload_n 2, 1) := by decide +kernel
theorem dX6_temperOf_89 : decode cX6_temperOf 89 = .ok (.isub, 1) := by decide +kernel
theorem dX6_temperOf_90 : decode cX6_temperOf 90 = .ok (.goto 4, 3) := by decide +kernel
theorem dX6_temperOf_93 : decode cX6_temperOf 93 = .ok (.iconst 0, 1) := by decide +kernel
theorem dX6_temperOf_94 : decode cX6_temperOf 94 = .ok (.ireturn, 1) := by decide +kernel
theorem dX6_temperOf_95 : decode cX6_temperOf 95 = .ok (.iload_n 1, 1) := by decide +kernel
theorem dX6_temperOf_96 : decode cX6_temperOf 96 = .ok (.ireturn, 1) := by decide +kernel
theorem dX6_doing_0 : decode cX6_doing 0 = .ok (.iload_n 0, 1) := by decide +kernel
theorem dX6_doing_1 : decode cX6_doing 1 = .ok (.bipush 8, 2) := by decide +kernel
theorem dX6_doing_3 : decode cX6_doing 3 = .ok (.if_icmp .gt 5, 3) := by decide +kernel
theorem dX6_doing_6 : decode cX6_doing 6 = .ok (.iconst 0, 1) := by decide +kernel
theorem dX6_doing_7 : decode cX6_doing 7 = .ok (.ireturn, 1) := by decide +kernel
theorem dX6_doing_8 : decode cX6_doing 8 = .ok (.iload_n 0, 1) := by decide +kernel
theorem dX6_doing_9 : decode cX6_doing 9 = .ok (.bipush 15, 2) := by decide +kernel
theorem dX6_doing_11 : decode cX6_doing 11 = .ok (.if_icmp .lt 7, 3) := by decide +kernel
theorem dX6_doing_14 : decode cX6_doing 14 = .ok (.iconst 1, 1) := by decide +kernel
theorem dX6_doing_15 : decode cX6_doing 15 = .ok (.goto 4, 3) := by decide +kernel
theorem dX6_doing_18 : decode cX6_doing 18 = .ok (.iconst 2, 1) := by decide +kernel
theorem dX6_doing_19 : decode cX6_doing 19 = .ok (.ireturn, 1) := by decide +kernel
theorem dX6_commonDivisor_0 : decode cX6_commonDivisor 0 = .ok (.iload_n 0, 1) := by decide +kernel
theorem dX6_commonDivisor_1 : decode cX6_commonDivisor 1 = .ok (.istore_n 2, 1) := by decide +kernel
theorem dX6_commonDivisor_2 : decode cX6_commonDivisor 2 = .ok (.iload_n 1, 1) := by decide +kernel
theorem dX6_commonDivisor_3 : decode cX6_commonDivisor 3 = .ok (.istore_n 3, 1) := by decide +kernel
theorem dX6_commonDivisor_4 : decode cX6_commonDivisor 4 = .ok (.iconst 0, 1) := by decide +kernel
theorem dX6_commonDivisor_5 : decode cX6_commonDivisor 5 = .ok (.istore 4, 2) := by decide +kernel
theorem dX6_commonDivisor_7 : decode cX6_commonDivisor 7 = .ok (.iload 4, 2) := by decide +kernel
theorem dX6_commonDivisor_9 : decode cX6_commonDivisor 9 = .ok (.bipush 64, 2) := by decide +kernel
theorem dX6_commonDivisor_11 : decode cX6_commonDivisor 11 = .ok (.if_icmp .ge 23, 3) := by decide +kernel
theorem dX6_commonDivisor_14 : decode cX6_commonDivisor 14 = .ok (.iload_n 3, 1) := by decide +kernel
theorem dX6_commonDivisor_15 : decode cX6_commonDivisor 15 = .ok (.ifCond .le 19, 3) := by decide +kernel
theorem dX6_commonDivisor_18 : decode cX6_commonDivisor 18 = .ok (.iload_n 2, 1) := by decide +kernel
theorem dX6_commonDivisor_19 : decode cX6_commonDivisor 19 = .ok (.iload_n 3, 1) := by decide +kernel
theorem dX6_commonDivisor_20 : decode cX6_commonDivisor 20 = .ok (.irem, 1) := by decide +kernel
theorem dX6_commonDivisor_21 : decode cX6_commonDivisor 21 = .ok (.istore 5, 2) := by decide +kernel
theorem dX6_commonDivisor_23 : decode cX6_commonDivisor 23 = .ok (.iload_n 3, 1) := by decide +kernel
theorem dX6_commonDivisor_24 : decode cX6_commonDivisor 24 = .ok (.istore_n 2, 1) := by decide +kernel
theorem dX6_commonDivisor_25 : decode cX6_commonDivisor 25 = .ok (.iload 5, 2) := by decide +kernel
theorem dX6_commonDivisor_27 : decode cX6_commonDivisor 27 = .ok (.istore_n 3, 1) := by decide +kernel
theorem dX6_commonDivisor_28 : decode cX6_commonDivisor 28 = .ok (.iinc 4 1, 3) := by decide +kernel
theorem dX6_commonDivisor_31 : decode cX6_commonDivisor 31 = .ok (.goto (-24), 3) := by decide +kernel
theorem dX6_commonDivisor_34 : decode cX6_commonDivisor 34 = .ok (.iload_n 2, 1) := by decide +kernel
theorem dX6_commonDivisor_35 : decode cX6_commonDivisor 35 = .ok (.ireturn, 1) := by decide +kernel
theorem dX7_init_0 : decode cX7_init 0 = .ok (.aload_n 0, 1) := by decide +kernel
theorem dX7_init_1 : decode cX7_init 1 = .ok (.invokespecial 1, 3) := by decide +kernel
theorem dX7_init_4 : decode cX7_init 4 = .ok (.aload_n 0, 1) := by decide +kernel
theorem dX7_init_5 : decode cX7_init 5 = .ok (.bipush 6, 2) := by decide +kernel
theorem dX7_init_7 : decode cX7_init 7 = .ok (.newarray .int, 2) := by decide +kernel
theorem dX7_init_9 : decode cX7_init 9 = .ok (.putfield 7, 3) := by decide +kernel
theorem dX7_init_12 : decode cX7_init 12 = .ok (.aload_n 0, 1) := by decide +kernel
theorem dX7_init_13 : decode cX7_init 13 = .ok (.bipush 6, 2) := by decide +kernel
theorem dX7_init_15 : decode cX7_init 15 = .ok (.newarray .int, 2) := by decide +kernel
theorem dX7_init_17 : decode cX7_init 17 = .ok (.putfield 13, 3) := by decide +kernel
theorem dX7_init_20 : decode cX7_init 20 = .ok (.aload_n 0, 1) := by decide +kernel
theorem dX7_init_21 : decode cX7_init 21 = .ok (.bipush 6, 2) := by decide +kernel
theorem dX7_init_23 : decode cX7_init 23 = .ok (.newarray .int, 2) := by decide +kernel
theorem dX7_init_25 : decode cX7_init 25 = .ok (.putfield 16, 3) := by decide +kernel
theorem dX7_init_28 : decode cX7_init 28 = .ok (.aload_n 0, 1) := by decide +kernel
theorem dX7_init_29 : decode cX7_init 29 = .ok (.bipush 6, 2) := by decide +kernel
theorem dX7_init_31 : decode cX7_init 31 = .ok (.newarray .int, 2) := by decide +kernel
theorem dX7_init_33 : decode cX7_init 33 = .ok (.putfield 19, 3) := by decide +kernel
theorem dX7_init_36 : decode cX7_init 36 = .ok (.aload_n 0, 1) := by decide +kernel
theorem dX7_init_37 : decode cX7_init 37 = .ok (.iconst 3, 1) := by decide +kernel
theorem dX7_init_38 : decode cX7_init 38 = .ok (.newarray .int, 2) := by decide +kernel
theorem dX7_init_40 : decode cX7_init 40 = .ok (.putfield 22, 3) := by decide +kernel
theorem dX7_init_43 : decode cX7_init 43 = .ok (.aload_n 0, 1) := by decide +kernel
theorem dX7_init_44 : decode cX7_init 44 = .ok (.iconst 3, 1) := by decide +kernel
theorem dX7_init_45 : decode cX7_init 45 = .ok (.newarray .int, 2) := by decide +kernel
theorem dX7_init_47 : decode cX7_init 47 = .ok (.putfield 25, 3) := by decide +kernel
theorem dX7_init_50 : decode cX7_init 50 = .ok (.aload_n 0, 1) := by decide +kernel
theorem dX7_init_51 : decode cX7_init 51 = .ok (.bipush 8, 2) := by decide +kernel
theorem dX7_init_53 : decode cX7_init 53 = .ok (.newarray .int, 2) := by decide +kernel
theorem dX7_init_55 : decode cX7_init 55 = .ok (.putfield 28, 3) := by decide +kernel
theorem dX7_init_58 : decode cX7_init 58 = .ok (.aload_n 0, 1) := by decide +kernel
theorem dX7_init_59 : decode cX7_init 59 = .ok (.bipush 8, 2) := by decide +kernel
theorem dX7_init_61 : decode cX7_init 61 = .ok (.newarray .int, 2) := by decide +kernel
theorem dX7_init_63 : decode cX7_init 63 = .ok (.putfield 31, 3) := by decide +kernel
theorem dX7_init_66 : decode cX7_init 66 = .ok (.aload_n 0, 1) := by decide +kernel
theorem dX7_init_67 : decode cX7_init 67 = .ok (.bipush 8, 2) := by decide +kernel
theorem dX7_init_69 : decode cX7_init 69 = .ok (.newarray .int, 2) := by decide +kernel
theorem dX7_init_71 : decode cX7_init 71 = .ok (.putfield 34, 3) := by decide +kernel
theorem dX7_init_74 : decode cX7_init 74 = .ok (.aload_n 0, 1) := by decide +kernel
theorem dX7_init_75 : decode cX7_init 75 = .ok (.bipush 26, 2) := by decide +kernel
theorem dX7_init_77 : decode cX7_init 77 = .ok (.newarray .byte, 2) := by decide +kernel
theorem dX7_init_79 : decode cX7_init 79 = .ok (.putfield 37, 3) := by decide +kernel
theorem dX7_init_82 : decode cX7_init 82 = .ok (.aload_n 0, 1) := by decide +kernel
theorem dX7_init_83 : decode cX7_init 83 = .ok (.bipush 6, 2) := by decide +kernel
theorem dX7_init_85 : decode cX7_init 85 = .ok (.newarray .int, 2) := by decide +kernel
theorem dX7_init_87 : decode cX7_init 87 = .ok (.putfield 41, 3) := by decide +kernel
theorem dX7_init_90 : decode cX7_init 90 = .ok (.aload_n 0, 1) := by decide +kernel
theorem dX7_init_91 : decode cX7_init 91 = .ok (.bipush 6, 2) := by decide +kernel
theorem dX7_init_93 : decode cX7_init 93 = .ok (.newarray .int, 2) := by decide +kernel
theorem dX7_init_95 : decode cX7_init 95 = .ok (.putfield 44, 3) := by decide +kernel
theorem dX7_init_98 : decode cX7_init 98 = .ok (.aload_n 0, 1) := by decide +kernel
theorem dX7_init_99 : decode cX7_init 99 = .ok (.bipush 6, 2) := by decide +kernel
theorem dX7_init_101 : decode cX7_init 101 = .ok (.newarray .int, 2) := by decide +kernel
theorem dX7_init_103 : decode cX7_init 103 = .ok (.putfield 47, 3) := by decide +kernel
theorem dX7_init_106 : decode cX7_init 106 = .ok (.aload_n 0, 1) := by decide +kernel
theorem dX7_init_107 : decode cX7_init 107 = .ok (.bipush 6, 2) := by decide +kernel
theorem dX7_init_109 : decode cX7_init 109 = .ok (.newarray .int, 2) := by decide +kernel
theorem dX7_init_111 : decode cX7_init 111 = .ok (.putfield 50, 3) := by decide +kernel
theorem dX7_init_114 : decode cX7_init 114 = .ok (.aload_n 0, 1) := by decide +kernel
theorem dX7_init_115 : decode cX7_init 115 = .ok (.bipush 6, 2) := by decide +kernel
theorem dX7_init_117 : decode cX7_init 117 = .ok (.newarray .int, 2) := by decide +kernel
theorem dX7_init_119 : decode cX7_init 119 = .ok (.putfield 53, 3) := by decide +kernel
theorem dX7_init_122 : decode cX7_init 122 = .ok (.aload_n 0, 1) := by decide +kernel
theorem dX7_init_123 : decode cX7_init 123 = .ok (.bipush 6, 2) := by decide +kernel
theorem dX7_init_125 : decode cX7_init 125 = .ok (.newarray .int, 2) := by decide +kernel
theorem dX7_init_127 : decode cX7_init 127 = .ok (.putfield 56, 3) := by decide +kernel
theorem dX7_init_130 : decode cX7_init 130 = .ok (.aload_n 0, 1) := by decide +kernel
theorem dX7_init_131 : decode cX7_init 131 = .ok (.bipush 6, 2) := by decide +kernel
theorem dX7_init_133 : decode cX7_init 133 = .ok (.newarray .int, 2) := by decide +kernel
theorem dX7_init_135 : decode cX7_init 135 = .ok (.putfield 59, 3) := by decide +kernel
theorem dX7_init_138 : decode cX7_init 138 = .ok (.aload_n 0, 1) := by decide +kernel
theorem dX7_init_139 : decode cX7_init 139 = .ok (.iconst 3, 1) := by decide +kernel
theorem dX7_init_140 : decode cX7_init 140 = .ok (.newarray .int, 2) := by decide +kernel
theorem dX7_init_142 : decode cX7_init 142 = .ok (.putfield 62, 3) := by decide +kernel
theorem dX7_init_145 : decode cX7_init 145 = .ok (.aload_n 0, 1) := by decide +kernel
theorem dX7_init_146 : decode cX7_init 146 = .ok (.iconst 3, 1) := by decide +kernel
theorem dX7_init_147 : decode cX7_init 147 = .ok (.newarray .int, 2) := by decide +kernel
theorem dX7_init_149 : decode cX7_init 149 = .ok (.putfield 65, 3) := by decide +kernel
theorem dX7_init_152 : decode cX7_init 152 = .ok (.aload_n 0, 1) := by decide +kernel
theorem dX7_init_153 : decode cX7_init 153 = .ok (.bipush 8, 2) := by decide +kernel
theorem dX7_init_155 : decode cX7_init 155 = .ok (.newarray .int, 2) := by decide +kernel
theorem dX7_init_157 : decode cX7_init 157 = .ok (.putfield 68, 3) := by decide +kernel
theorem dX7_init_160 : decode cX7_init 160 = .ok (.aload_n 0, 1) := by decide +kernel
theorem dX7_init_161 : decode cX7_init 161 = .ok (.bipush 8, 2) := by decide +kernel
theorem dX7_init_163 : decode cX7_init 163 = .ok (.newarray .int, 2) := by decide +kernel
theorem dX7_init_165 : decode cX7_init 165 = .ok (.putfield 71, 3) := by decide +kernel
theorem dX7_init_168 : decode cX7_init 168 = .ok (.aload_n 0, 1) := by decide +kernel
theorem dX7_init_169 : decode cX7_init 169 = .ok (.bipush 8, 2) := by decide +kernel
theorem dX7_init_171 : decode cX7_init 171 = .ok (.newarray .int, 2) := by decide +kernel
theorem dX7_init_173 : decode cX7_init 173 = .ok (.putfield 74, 3) := by decide +kernel
theorem dX7_init_176 : decode cX7_init 176 = .ok (.return_, 1) := by decide +kernel
theorem dX7_within_0 : decode cX7_within 0 = .ok (.iload_n 0, 1) := by decide +kernel
theorem dX7_within_1 : decode cX7_within 1 = .ok (.iload_n 1, 1) := by decide +kernel
theorem dX7_within_2 : decode cX7_within 2 = .ok (.if_icmp .lt 12, 3) := by decide +kernel
theorem dX7_within_5 : decode cX7_within 5 = .ok (.iload_n 0, 1) := by decide +kernel
theorem dX7_within_6 : decode cX7_within 6 = .ok (.iload_n 2, 1) := by decide +kernel
theorem dX7_within_7 : decode cX7_within 7 = .ok (.if_icmp .gt 7, 3) := by decide +kernel
theorem dX7_within_10 : decode cX7_within 10 = .ok (.iconst 1, 1) := by decide +kernel
theorem dX7_within_11 : decode cX7_within 11 = .ok (.goto 4, 3) := by decide +kernel
theorem dX7_within_14 : decode cX7_within 14 = .ok (.iconst 0, 1) := by decide +kernel
theorem dX7_within_15 : decode cX7_within 15 = .ok (.ireturn, 1) := by decide +kernel
theorem dX7_isIn_0 : decode cX7_isIn 0 = .ok (.iload_n 0, 1) := by decide +kernel
theorem dX7_isIn_1 : decode cX7_isIn 1 = .ok (.iload_n 1, 1) := by decide +kernel
theorem dX7_isIn_2 : decode cX7_isIn 2 = .ok (.ishr, 1) := by decide +kernel
theorem dX7_isIn_3 : decode cX7_isIn 3 = .ok (.iconst 1, 1) := by decide +kernel
theorem dX7_isIn_4 : decode cX7_isIn 4 = .ok (.iand, 1) := by decide +kernel
theorem dX7_isIn_5 : decode cX7_isIn 5 = .ok (.iconst 1, 1) := by decide +kernel
theorem dX7_isIn_6 : decode cX7_isIn 6 = .ok (.if_icmp .ne 7, 3) := by decide +kernel
theorem dX7_isIn_9 : decode cX7_isIn 9 = .ok (.iconst 1, 1) := by decide +kernel
theorem dX7_isIn_10 : decode cX7_isIn 10 = .ok (.goto 4, 3) := by decide +kernel
theorem dX7_isIn_13 : decode cX7_isIn 13 = .ok (.iconst 0, 1) := by decide +kernel
theorem dX7_isIn_14 : decode cX7_isIn 14 = .ok (.ireturn, 1) := by decide +kernel
theorem dX7_size_0 : decode cX7_size 0 = .ok (.iconst 0, 1) := by decide +kernel
theorem dX7_size_1 : decode cX7_size 1 = .ok (.istore_n 1, 1) := by decide +kernel
theorem dX7_size_2 : decode cX7_size 2 = .ok (.iconst 0, 1) := by decide +kernel
theorem dX7_size_3 : decode cX7_size 3 = .ok (.istore_n 2, 1) := by decide +kernel
theorem dX7_size_4 : decode cX7_size 4 = .ok (.iload_n 2, 1) := by decide +kernel
theorem dX7_size_5 : decode cX7_size 5 = .ok (.bipush 10, 2) := by decide +kernel
theorem dX7_size_7 : decode cX7_size 7 = .ok (.if_icmp .ge 17, 3) := by decide +kernel
theorem dX7_size_10 : decode cX7_size 10 = .ok (.iload_n 1, 1) := by decide +kernel
theorem dX7_size_11 : decode cX7_size 11 = .ok (.iload_n 0, 1) := by decide +kernel
theorem dX7_size_12 : decode cX7_size 12 = .ok (.iload_n 2, 1) := by decide +kernel
theorem dX7_size_13 : decode cX7_size 13 = .ok (.ishr, 1) := by decide +kernel
theorem dX7_size_14 : decode cX7_size 14 = .ok (.iconst 1, 1) := by decide +kernel
theorem dX7_size_15 : decode cX7_size 15 = .ok (.iand, 1) := by decide +kernel
theorem dX7_size_16 : decode cX7_size 16 = .ok (.iadd, 1) := by decide +kernel
theorem dX7_size_17 : decode cX7_size 17 = .ok (.istore_n 1, 1) := by decide +kernel
theorem dX7_size_18 : decode cX7_size 18 = .ok (.iinc 2 1, 3) := by decide +kernel
theorem dX7_size_21 : decode cX7_size 21 = .ok (.goto (-17), 3) := by decide +kernel
theorem dX7_size_24 : decode cX7_size 24 = .ok (.iload_n 1, 1) := by decide +kernel
theorem dX7_size_25 : decode cX7_size 25 = .ok (.ireturn, 1) := by decide +kernel
theorem dX7_divisor_0 : decode cX7_divisor 0 = .ok (.iload_n 0, 1) := by decide +kernel
theorem dX7_divisor_1 : decode cX7_divisor 1 = .ok (.istore_n 2, 1) := by decide +kernel
theorem dX7_divisor_2 : decode cX7_divisor 2 = .ok (.iload_n 1, 1) := by decide +kernel
theorem dX7_divisor_3 : decode cX7_divisor 3 = .ok (.istore_n 3, 1) := by decide +kernel
theorem dX7_divisor_4 : decode cX7_divisor 4 = .ok (.iload_n 3, 1) := by decide +kernel
theorem dX7_divisor_5 : decode cX7_divisor 5 = .ok (.ifCond .eq 16, 3) := by decide +kernel
theorem dX7_divisor_8 : decode cX7_divisor 8 = .ok (.iload_n 2, 1) := by decide +kernel
theorem dX7_divisor_9 : decode cX7_divisor 9 = .ok (.iload_n 3, 1) := by decide +kernel
theorem dX7_divisor_10 : decode cX7_divisor 10 = .ok (.irem, 1) := by decide +kernel
theorem dX7_divisor_11 : decode cX7_divisor 11 = .ok (.istore 4, 2) := by decide +kernel
theorem dX7_divisor_13 : decode cX7_divisor 13 = .ok (.iload_n 3, 1) := by decide +kernel
theorem dX7_divisor_14 : decode cX7_divisor 14 = .ok (.istore_n 2, 1) := by decide +kernel
theorem dX7_divisor_15 : decode cX7_divisor 15 = .ok (.iload 4, 2) := by decide +kernel
theorem dX7_divisor_17 : decode cX7_divisor 17 = .ok (.istore_n 3, 1) := by decide +kernel
theorem dX7_divisor_18 : decode cX7_divisor 18 = .ok (.goto (-14), 3) := by decide +kernel
theorem dX7_divisor_21 : decode cX7_divisor 21 = .ok (.iload_n 2, 1) := by decide +kernel
theorem dX7_divisor_22 : decode cX7_divisor 22 = .ok (.ireturn, 1) := by decide +kernel
theorem dX7_letter_0 : decode cX7_letter 0 = .ok (.iload_n 1, 1) := by decide +kernel
theorem dX7_letter_1 : decode cX7_letter 1 = .ok (.bipush 32, 2) := by decide +kernel
theorem dX7_letter_3 : decode cX7_letter 3 = .ok (.bipush 126, 2) := by decide +kernel
theorem dX7_letter_5 : decode cX7_letter 5 = .ok (.invokestatic 77, 3) := by decide +kernel
theorem dX7_letter_8 : decode cX7_letter 8 = .ok (.ifCond .ne 6, 3) := by decide +kernel
theorem dX7_letter_11 : decode cX7_letter 11 = .ok (.bipush (-102), 2) := by decide +kernel
theorem dX7_letter_13 : decode cX7_letter 13 = .ok (.ireturn, 1) := by decide +kernel
theorem dX7_letter_14 : decode cX7_letter 14 = .ok (.aload_n 0, 1) := by decide +kernel
theorem dX7_letter_15 : decode cX7_letter 15 = .ok (.getfield 81, 3) := by decide +kernel
theorem dX7_letter_18 : decode cX7_letter 18 = .ok (.bipush 26, 2) := by decide +kernel
theorem dX7_letter_20 : decode cX7_letter 20 = .ok (.if_icmp .ne 6, 3) := by decide +kernel
theorem dX7_letter_23 : decode cX7_letter 23 = .ok (.bipush (-104), 2) := by decide +kernel
theorem dX7_letter_25 : decode cX7_letter 25 = .ok (.ireturn, 1) := by decide +kernel
theorem dX7_letter_26 : decode cX7_letter 26 = .ok (.aload_n 0, 1) := by decide +kernel
theorem dX7_letter_27 : decode cX7_letter 27 = .ok (.getfield 37, 3) := by decide +kernel
theorem dX7_letter_30 : decode cX7_letter 30 = .ok (.aload_n 0, 1) := by decide +kernel
theorem dX7_letter_31 : decode cX7_letter 31 = .ok (.getfield 81, 3) := by decide +kernel
theorem dX7_letter_34 : decode cX7_letter 34 = .ok (.iload_n 1, 1) := by decide +kernel
theorem dX7_letter_35 : decode cX7_letter 35 = .ok (.i2b, 1) := by decide +kernel
theorem dX7_letter_36 : decode cX7_letter 36 = .ok (.bastore, 1) := by decide +kernel
theorem dX7_letter_37 : decode cX7_letter 37 = .ok (.aload_n 0, 1) := by decide +kernel
theorem dX7_letter_38 : decode cX7_letter 38 = .ok (.dup, 1) := by decide +kernel
theorem dX7_letter_39 : decode cX7_letter 39 = .ok (.getfield 81, 3) := by decide +kernel
theorem dX7_letter_42 : decode cX7_letter 42 = .ok (.iconst 1, 1) := by decide +kernel
theorem dX7_letter_43 : decode cX7_letter 43 = .ok (.iadd, 1) := by decide +kernel
theorem dX7_letter_44 : decode cX7_letter 44 = .ok (.putfield 81, 3) := by decide +kernel
theorem dX7_letter_47 : decode cX7_letter 47 = .ok (.aload_n 0, 1) := by decide +kernel
theorem dX7_letter_48 : decode cX7_letter 48 = .ok (.getfield 81, 3) := by decide +kernel
theorem dX7_letter_51 : decode cX7_letter 51 = .ok (.ireturn, 1) := by decide +kernel
theorem dX7_blank_0 : decode cX7_blank 0 = .ok (.aload_n 0, 1) := by decide +kernel
theorem dX7_blank_1 : decode cX7_blank 1 = .ok (.getfield 81, 3) := by decide +kernel
theorem dX7_blank_4 : decode cX7_blank 4 = .ok (.istore_n 1, 1) := by decide +kernel
theorem dX7_blank_5 : decode cX7_blank 5 = .ok (.aload_n 0, 1) := by decide +kernel
theorem dX7_blank_6 : decode cX7_blank 6 = .ok (.iconst 0, 1) := by decide +kernel
theorem dX7_blank_7 : decode cX7_blank 7 = .ok (.putfield 81, 3) := by decide +kernel
theorem dX7_blank_10 : decode cX7_blank 10 = .ok (.iload_n 1, 1) := by decide +kernel
theorem dX7_blank_11 : decode cX7_blank 11 = .ok (.ireturn, 1) := by decide +kernel
theorem dX7_kindBy_0 : decode cX7_kindBy 0 = .ok (.iload_n 0, 1) := by decide +kernel
theorem dX7_kindBy_1 : decode cX7_kindBy 1 = .ok (.tableswitch 73 100 111 #[67, 73, 73, 63, 73, 73, 73, 65, 71, 73, 73, 69], 63) := by decide +kernel
theorem dX7_kindBy_64 : decode cX7_kindBy 64 = .ok (.iconst 0, 1) := by decide +kernel
theorem dX7_kindBy_65 : decode cX7_kindBy 65 = .ok (.ireturn, 1) := by decide +kernel
theorem dX7_kindBy_66 : decode cX7_kindBy 66 = .ok (.iconst 1, 1) := by decide +kernel
theorem dX7_kindBy_67 : decode cX7_kindBy 67 = .ok (.ireturn, 1) := by decide +kernel
theorem dX7_kindBy_68 : decode cX7_kindBy 68 = .ok (.iconst 2, 1) := by decide +kernel
theorem dX7_kindBy_69 : decode cX7_kindBy 69 = .ok (.ireturn, 1) := by decide +kernel
theorem dX7_kindBy_70 : decode cX7_kindBy 70 = .ok (.iconst 3, 1) := by decide +kernel
theorem dX7_kindBy_71 : decode cX7_kindBy 71 = .ok (.ireturn, 1) := by decide +kernel
theorem dX7_kindBy_72 : decode cX7_kindBy 72 = .ok (.iconst 4, 1) := by decide +kernel
theorem dX7_kindBy_73 : decode cX7_kindBy 73 = .ok (.ireturn, 1) := by decide +kernel
theorem dX7_kindBy_74 : decode cX7_kindBy 74 = .ok (.iconst (-1), 1) := by decide +kernel
theorem dX7_kindBy_75 : decode cX7_kindBy 75 = .ok (.ireturn, 1) := by decide +kernel
theorem dX7_at_0 : decode cX7_at 0 = .ok (.iload_n 1, 1) := by decide +kernel
theorem dX7_at_1 : decode cX7_at 1 = .ok (.aload_n 0, 1) := by decide +kernel
theorem dX7_at_2 : decode cX7_at 2 = .ok (.getfield 81, 3) := by decide +kernel
theorem dX7_at_5 : decode cX7_at 5 = .ok (.if_icmp .ge 12, 3) := by decide +kernel
theorem dX7_at_8 : decode cX7_at 8 = .ok (.aload_n 0, 1) := by decide +kernel
theorem dX7_at_9 : decode cX7_at 9 = .ok (.getfield 37, 3) := by decide +kernel
theorem dX7_at_12 : decode cX7_at 12 = .ok (.iload_n 1, 1) := by decide +kernel
theorem dX7_at_13 : decode cX7_at 13 = .ok (.baload, 1) := by decide +kernel
theorem dX7_at_14 : decode cX7_at 14 = .ok (.goto 4, 3) := by decide +kernel
theorem dX7_at_17 : decode cX7_at 17 = .ok (.iconst 0, 1) := by decide +kernel
theorem dX7_at_18 : decode cX7_at 18 = .ok (.ireturn, 1) := by decide +kernel
theorem dX7_isFigure_0 : decode cX7_isFigure 0 = .ok (.aload_n 0, 1) := by decide +kernel
theorem dX7_isFigure_1 : decode cX7_isFigure 1 = .ok (.iload_n 1, 1) := by decide +kernel
theorem dX7_isFigure_2 : decode cX7_isFigure 2 = .ok (.invokevirtual 85, 3) := by decide +kernel
theorem dX7_isFigure_5 : decode cX7_isFigure 5 = .ok (.bipush 48, 2) := by decide +kernel
theorem dX7_isFigure_7 : decode cX7_isFigure 7 = .ok (.isub, 1) := by decide +kernel
theorem dX7_isFigure_8 : decode cX7_isFigure 8 = .ok (.iconst 0, 1) := by decide +kernel
theorem dX7_isFigure_9 : decode cX7_isFigure 9 = .ok (.bipush 9, 2) := by decide +kernel
theorem dX7_isFigure_11 : decode cX7_isFigure 11 = .ok (.invokestatic 77, 3) := by decide +kernel
theorem dX7_isFigure_14 : decode cX7_isFigure 14 = .ok (.ireturn, 1) := by decide +kernel
theorem dX7_readWearers_0 : decode cX7_readWearers 0 = .ok (.iload_n 1, 1) := by decide +kernel
theorem dX7_readWearers_1 : decode cX7_readWearers 1 = .ok (.istore_n 2, 1) := by decide +kernel
theorem dX7_readWearers_2 : decode cX7_readWearers 2 = .ok (.aload_n 0, 1) := by decide +kernel
theorem dX7_readWearers_3 : decode cX7_readWearers 3 = .ok (.getfield 89, 3) := by decide +kernel
theorem dX7_readWearers_6 : decode cX7_readWearers 6 = .ok (.iconst 3, 1) := by decide +kernel
theorem dX7_readWearers_7 : decode cX7_readWearers 7 = .ok (.if_icmp .ge 27, 3) := by decide +kernel
theorem dX7_readWearers_10 : decode cX7_readWearers 10 = .ok (.aload_n 0, 1) := by decide +kernel
theorem dX7_readWearers_11 : decode cX7_readWearers 11 = .ok (.iload_n 2, 1) := by decide +kernel
theorem dX7_readWearers_12 : decode cX7_readWearers 12 = .ok (.invokevirtual 92, 3) := by decide +kernel
theorem dX7_readWearers_15 : decode cX7_readWearers 15 = .ok (.ifCond .eq 19, 3) := by decide +kernel
theorem dX7_readWearers_18 : decode cX7_readWearers 18 = .ok (.aload_n 0, 1) := by decide +kernel
theorem dX7_readWearers_19 : decode cX7_readWearers 19 = .ok (.dup, 1) := by decide +kernel
theorem dX7_readWearers_20 : decode cX7_readWearers 20 = .ok (.getfield 89, 3) := by decide +kernel
theorem dX7_readWearers_23 : decode cX7_readWearers 23 = .ok (.iconst 1, 1) := by decide +kernel
theorem dX7_readWearers_24 : decode cX7_readWearers 24 = .ok (.iadd, 1) := by decide +kernel
theorem dX7_readWearers_25 : decode cX7_readWearers 25 = .ok (.putfield 89, 3) := by decide +kernel
theorem dX7_readWearers_28 : decode cX7_readWearers 28 = .ok (.iinc 2 1, 3) := by decide +kernel
theorem dX7_readWearers_31 : decode cX7_readWearers 31 = .ok (.goto (-29), 3) := by decide +kernel
theorem dX7_readWearers_34 : decode cX7_readWearers 34 = .ok (.aload_n 0, 1) := by decide +kernel
theorem dX7_readWearers_35 : decode cX7_readWearers 35 = .ok (.aload_n 0, 1) := by decide +kernel
theorem dX7_readWearers_36 : decode cX7_readWearers 36 = .ok (.getfield 89, 3) := by decide +kernel
theorem dX7_readWearers_39 : decode cX7_readWearers 39 = .ok (.ifCond .le 15, 3) := by decide +kernel
theorem dX7_readWearers_42 : decode cX7_readWearers 42 = .ok (.iload_n 2, 1) := by decide +kernel
theorem dX7_readWearers_43 : decode cX7_readWearers 43 = .ok (.aload_n 0, 1) := by decide +kernel
theorem dX7_readWearers_44 : decode cX7_readWearers 44 = .ok (.getfield 81, 3) := by decide +kernel
theorem dX7_readWearers_47 : decode cX7_readWearers 47 = .ok (.if_icmp .ne 7, 3) := by decide +kernel
theorem dX7_readWearers_50 : decode cX7_readWearers 50 = .ok (.iconst 1, 1) := by decide +kernel
theorem dX7_readWearers_51 : decode cX7_readWearers 51 = .ok (.goto 4, 3) := by decide +kernel
theorem dX7_readWearers_54 : decode cX7_readWearers 54 = .ok (.iconst 0, 1) := by decide +kernel
theorem dX7_readWearers_55 : decode cX7_readWearers 55 = .ok (.putfield 96, 3) := by decide +kernel
theorem dX7_readWearers_58 : decode cX7_readWearers 58 = .ok (.iload_n 2, 1) := by decide +kernel
theorem dX7_readWearers_59 : decode cX7_readWearers 59 = .ok (.ireturn, 1) := by decide +kernel
theorem dX7_read_0 : decode cX7_read 0 = .ok (.aload_n 0, 1) := by decide +kernel
theorem dX7_read_1 : decode cX7_read 1 = .ok (.iconst 0, 1) := by decide +kernel
theorem dX7_read_2 : decode cX7_read 2 = .ok (.putfield 96, 3) := by decide +kernel
theorem dX7_read_5 : decode cX7_read 5 = .ok (.aload_n 0, 1) := by decide +kernel
theorem dX7_read_6 : decode cX7_read 6 = .ok (.iconst 0, 1) := by decide +kernel
theorem dX7_read_7 : decode cX7_read 7 = .ok (.putfield 100, 3) := by decide +kernel
theorem dX7_read_10 : decode cX7_read 10 = .ok (.aload_n 0, 1) := by decide +kernel
theorem dX7_read_11 : decode cX7_read 11 = .ok (.iconst 0, 1) := by decide +kernel
theorem dX7_read_12 : decode cX7_read 12 = .ok (.putfield 89, 3) := by decide +kernel
theorem dX7_read_15 : decode cX7_read 15 = .ok (.iconst 0, 1) := by decide +kernel
theorem dX7_read_16 : decode cX7_read 16 = .ok (.istore_n 1, 1) := by decide +kernel
theorem dX7_read_17 : decode cX7_read 17 = .ok (.aload_n 0, 1) := by decide +kernel
theorem dX7_read_18 : decode cX7_read 18 = .ok (.getfield 100, 3) := by decide +kernel
theorem dX7_read_21 : decode cX7_read 21 = .ok (.bipush 6, 2) := by decide +kernel
theorem dX7_read_23 : decode cX7_read 23 = .ok (.if_icmp .ge 97, 3) := by decide +kernel
theorem dX7_read_26 : decode cX7_read 26 = .ok (.aload_n 0, 1) := by decide +kernel
theorem dX7_read_27 : decode cX7_read 27 = .ok (.iload_n 1, 1) := by decide +kernel
theorem dX7_read_28 : decode cX7_read 28 = .ok (.invokevirtual 85, 3) := by decide +kernel
theorem dX7_read_31 : decode cX7_read 31 = .ok (.invokestatic 103, 3) := by decide +kernel
theorem dX7_read_34 : decode cX7_read 34 = .ok (.iconst (-1), 1) := by decide +kernel
theorem dX7_read_35 : decode cX7_read 35 = .ok (.if_icmp .ne 5, 3) := by decide +kernel
theorem dX7_read_38 : decode cX7_read 38 = .ok (.iload_n 1, 1) := by decide +kernel
theorem dX7_read_39 : decode cX7_read 39 = .ok (.ireturn, 1) := by decide +kernel
theorem dX7_read_40 : decode cX7_read 40 = .ok (.aload_n 0, 1) := by decide +kernel
theorem dX7_read_41 : decode cX7_read 41 = .ok (.iload_n 1, 1) := by decide +kernel
theorem dX7_read_42 : decode cX7_read 42 = .ok (.iconst 1, 1) := by decide +kernel
theorem dX7_read_43 : decode cX7_read 43 = .ok (.iadd, 1) := by decide +kernel
theorem dX7_read_44 : decode cX7_read 44 = .ok (.invokevirtual 92, 3) := by decide +kernel
theorem dX7_read_47 : decode cX7_read 47 = .ok (.ifCond .ne 7, 3) := by decide +kernel
theorem dX7_read_50 : decode cX7_read 50 = .ok (.iload_n 1, 1) := by decide +kernel
theorem dX7_read_51 : decode cX7_read 51 = .ok (.iconst 1, 1) := by decide +kernel
theorem dX7_read_52 : decode cX7_read 52 = .ok (.iadd, 1) := by decide +kernel
theorem dX7_read_53 : decode cX7_read 53 = .ok (.ireturn, 1) := by decide +kernel
theorem dX7_read_54 : decode cX7_read 54 = .ok (.aload_n 0, 1) := by decide +kernel
theorem dX7_read_55 : decode cX7_read 55 = .ok (.dup, 1) := by decide +kernel
theorem dX7_read_56 : decode cX7_read 56 = .ok (.getfield 100, 3) := by decide +kernel
theorem dX7_read_59 : decode cX7_read 59 = .ok (.iconst 1, 1) := by decide +kernel
theorem dX7_read_60 : decode cX7_read 60 = .ok (.iadd, 1) := by decide +kernel
theorem dX7_read_61 : decode cX7_read 61 = .ok (.putfield 100, 3) := by decide +kernel
theorem dX7_read_64 : decode cX7_read 64 = .ok (.iinc 1 2, 3) := by decide +kernel
theorem dX7_read_67 : decode cX7_read 67 = .ok (.aload_n 0, 1) := by decide +kernel
theorem dX7_read_68 : decode cX7_read 68 = .ok (.iload_n 1, 1) := by decide +kernel
theorem dX7_read_69 : decode cX7_read 69 = .ok (.invokevirtual 85, 3) := by decide +kernel
theorem dX7_read_72 : decode cX7_read 72 = .ok (.bipush 59, 2) := by decide +kernel
theorem dX7_read_74 : decode cX7_read 74 = .ok (.if_icmp .ne 19, 3) := by decide +kernel
theorem dX7_read_77 : decode cX7_read 77 = .ok (.aload_n 0, 1) := by decide +kernel
theorem dX7_read_78 : decode cX7_read 78 = .ok (.getfield 100, 3) := by decide +kernel
theorem dX7_read_81 : decode cX7_read 81 = .ok (.iconst 1, 1) := by decide +kernel
theorem dX7_read_82 : decode cX7_read 82 = .ok (.if_icmp .le 11, 3) := by decide +kernel
theorem dX7_read_85 : decode cX7_read 85 = .ok (.aload_n 0, 1) := by decide +kernel
theorem dX7_read_86 : decode cX7_read 86 = .ok (.iload_n 1, 1) := by decide +kernel
theorem dX7_read_87 : decode cX7_read 87 = .ok (.iconst 1, 1) := by decide +kernel
theorem dX7_read_88 : decode cX7_read 88 = .ok (.iadd, 1) := by decide +kernel
theorem dX7_read_89 : decode cX7_read 89 = .ok (.invokevirtual 106, 3) := by decide +kernel
theorem dX7_read_92 : decode cX7_read 92 = .ok (.ireturn, 1) := by decide +kernel
theorem dX7_read_93 : decode cX7_read 93 = .ok (.aload_n 0, 1) := by decide +kernel
theorem dX7_read_94 : decode cX7_read 94 = .ok (.getfield 100, 3) := by decide +kernel
theorem dX7_read_97 : decode cX7_read 97 = .ok (.bipush 6, 2) := by decide +kernel
theorem dX7_read_99 : decode cX7_read 99 = .ok (.if_icmp .eq 13, 3) := by decide +kernel
theorem dX7_read_102 : decode cX7_read 102 = .ok (.aload_n 0, 1) := by decide +kernel
theorem dX7_read_103 : decode cX7_read 103 = .ok (.iload_n 1, 1) := by decide +kernel
theorem dX7_read_104 : decode cX7_read 104 = .ok (.invokevirtual 85, 3) := by decide +kernel
