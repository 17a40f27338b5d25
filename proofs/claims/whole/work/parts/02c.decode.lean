theorem dX7_read_107 : decode cX7_read 107 = .ok (.bipush 44, 2) := by decide +kernel
theorem dX7_read_109 : decode cX7_read 109 = .ok (.if_icmp .eq 5, 3) := by decide +kernel
theorem dX7_read_112 : decode cX7_read 112 = .ok (.iload_n 1, 1) := by decide +kernel
theorem dX7_read_113 : decode cX7_read 113 = .ok (.ireturn, 1) := by decide +kernel
theorem dX7_read_114 : decode cX7_read 114 = .ok (.iinc 1 1, 3) := by decide +kernel
theorem dX7_read_117 : decode cX7_read 117 = .ok (.goto (-100), 3) := by decide +kernel
theorem dX7_read_120 : decode cX7_read 120 = .ok (.iload_n 1, 1) := by decide +kernel
theorem dX7_read_121 : decode cX7_read 121 = .ok (.ireturn, 1) := by decide +kernel
theorem dX7_fault_0 : decode cX7_fault 0 = .ok (.aload_n 0, 1) := by decide +kernel
theorem dX7_fault_1 : decode cX7_fault 1 = .ok (.invokevirtual 109, 3) := by decide +kernel
theorem dX7_fault_4 : decode cX7_fault 4 = .ok (.ireturn, 1) := by decide +kernel
theorem dX7_shop_0 : decode cX7_shop 0 = .ok (.aload_n 0, 1) := by decide +kernel
theorem dX7_shop_1 : decode cX7_shop 1 = .ok (.invokevirtual 109, 3) := by decide +kernel
theorem dX7_shop_4 : decode cX7_shop 4 = .ok (.pop, 1) := by decide +kernel
theorem dX7_shop_5 : decode cX7_shop 5 = .ok (.aload_n 0, 1) := by decide +kernel
theorem dX7_shop_6 : decode cX7_shop 6 = .ok (.getfield 96, 3) := by decide +kernel
theorem dX7_shop_9 : decode cX7_shop 9 = .ok (.ifCond .ne 6, 3) := by decide +kernel
theorem dX7_shop_12 : decode cX7_shop 12 = .ok (.bipush (-103), 2) := by decide +kernel
theorem dX7_shop_14 : decode cX7_shop 14 = .ok (.ireturn, 1) := by decide +kernel
theorem dX7_shop_15 : decode cX7_shop 15 = .ok (.aload_n 0, 1) := by decide +kernel
theorem dX7_shop_16 : decode cX7_shop 16 = .ok (.aload_n 0, 1) := by decide +kernel
theorem dX7_shop_17 : decode cX7_shop 17 = .ok (.getfield 100, 3) := by decide +kernel
theorem dX7_shop_20 : decode cX7_shop 20 = .ok (.putfield 113, 3) := by decide +kernel
theorem dX7_shop_23 : decode cX7_shop 23 = .ok (.aload_n 0, 1) := by decide +kernel
theorem dX7_shop_24 : decode cX7_shop 24 = .ok (.aload_n 0, 1) := by decide +kernel
theorem dX7_shop_25 : decode cX7_shop 25 = .ok (.getfield 89, 3) := by decide +kernel
theorem dX7_shop_28 : decode cX7_shop 28 = .ok (.putfield 116, 3) := by decide +kernel
theorem dX7_shop_31 : decode cX7_shop 31 = .ok (.iconst 0, 1) := by decide +kernel
theorem dX7_shop_32 : decode cX7_shop 32 = .ok (.istore_n 1, 1) := by decide +kernel
theorem dX7_shop_33 : decode cX7_shop 33 = .ok (.iload_n 1, 1) := by decide +kernel
theorem dX7_shop_34 : decode cX7_shop 34 = .ok (.aload_n 0, 1) := by decide +kernel
theorem dX7_shop_35 : decode cX7_shop 35 = .ok (.getfield 113, 3) := by decide +kernel
theorem dX7_shop_38 : decode cX7_shop 38 = .ok (.if_icmp .ge 59, 3) := by decide +kernel
theorem dX7_shop_41 : decode cX7_shop 41 = .ok (.aload_n 0, 1) := by decide +kernel
theorem dX7_shop_42 : decode cX7_shop 42 = .ok (.getfield 7, 3) := by decide +kernel
theorem dX7_shop_45 : decode cX7_shop 45 = .ok (.iload_n 1, 1) := by decide +kernel
theorem dX7_shop_46 : decode cX7_shop 46 = .ok (.aload_n 0, 1) := by decide +kernel
theorem dX7_shop_47 : decode cX7_shop 47 = .ok (.getfield 37, 3) := by decide +kernel
theorem dX7_shop_50 : decode cX7_shop 50 = .ok (.iconst 3, 1) := by decide +kernel
theorem dX7_shop_51 : decode cX7_shop 51 = .ok (.iload_n 1, 1) := by decide +kernel
theorem dX7_shop_52 : decode cX7_shop 52 = .ok (.imul, 1) := by decide +kernel
theorem dX7_shop_53 : decode cX7_shop 53 = .ok (.baload, 1) := by decide +kernel
theorem dX7_shop_54 : decode cX7_shop 54 = .ok (.invokestatic 103, 3) := by decide +kernel
theorem dX7_shop_57 : decode cX7_shop 57 = .ok (.iastore, 1) := by decide +kernel
theorem dX7_shop_58 : decode cX7_shop 58 = .ok (.aload_n 0, 1) := by decide +kernel
theorem dX7_shop_59 : decode cX7_shop 59 = .ok (.getfield 13, 3) := by decide +kernel
theorem dX7_shop_62 : decode cX7_shop 62 = .ok (.iload_n 1, 1) := by decide +kernel
theorem dX7_shop_63 : decode cX7_shop 63 = .ok (.aload_n 0, 1) := by decide +kernel
theorem dX7_shop_64 : decode cX7_shop 64 = .ok (.getfield 37, 3) := by decide +kernel
theorem dX7_shop_67 : decode cX7_shop 67 = .ok (.iconst 3, 1) := by decide +kernel
theorem dX7_shop_68 : decode cX7_shop 68 = .ok (.iload_n 1, 1) := by decide +kernel
theorem dX7_shop_69 : decode cX7_shop 69 = .ok (.imul, 1) := by decide +kernel
theorem dX7_shop_70 : decode cX7_shop 70 = .ok (.iconst 1, 1) := by decide +kernel
theorem dX7_shop_71 : decode cX7_shop 71 = .ok (.iadd, 1) := by decide +kernel
theorem dX7_shop_72 : decode cX7_shop 72 = .ok (.baload, 1) := by decide +kernel
theorem dX7_shop_73 : decode cX7_shop 73 = .ok (.bipush 48, 2) := by decide +kernel
theorem dX7_shop_75 : decode cX7_shop 75 = .ok (.isub, 1) := by decide +kernel
theorem dX7_shop_76 : decode cX7_shop 76 = .ok (.iastore, 1) := by decide +kernel
theorem dX7_shop_77 : decode cX7_shop 77 = .ok (.aload_n 0, 1) := by decide +kernel
theorem dX7_shop_78 : decode cX7_shop 78 = .ok (.getfield 16, 3) := by decide +kernel
theorem dX7_shop_81 : decode cX7_shop 81 = .ok (.iload_n 1, 1) := by decide +kernel
theorem dX7_shop_82 : decode cX7_shop 82 = .ok (.iconst 0, 1) := by decide +kernel
theorem dX7_shop_83 : decode cX7_shop 83 = .ok (.iastore, 1) := by decide +kernel
theorem dX7_shop_84 : decode cX7_shop 84 = .ok (.aload_n 0, 1) := by decide +kernel
theorem dX7_shop_85 : decode cX7_shop 85 = .ok (.getfield 19, 3) := by decide +kernel
theorem dX7_shop_88 : decode cX7_shop 88 = .ok (.iload_n 1, 1) := by decide +kernel
theorem dX7_shop_89 : decode cX7_shop 89 = .ok (.iconst (-1), 1) := by decide +kernel
theorem dX7_shop_90 : decode cX7_shop 90 = .ok (.iastore, 1) := by decide +kernel
theorem dX7_shop_91 : decode cX7_shop 91 = .ok (.iinc 1 1, 3) := by decide +kernel
theorem dX7_shop_94 : decode cX7_shop 94 = .ok (.goto (-61), 3) := by decide +kernel
theorem dX7_shop_97 : decode cX7_shop 97 = .ok (.iconst 0, 1) := by decide +kernel
theorem dX7_shop_98 : decode cX7_shop 98 = .ok (.istore_n 1, 1) := by decide +kernel
theorem dX7_shop_99 : decode cX7_shop 99 = .ok (.iload_n 1, 1) := by decide +kernel
theorem dX7_shop_100 : decode cX7_shop 100 = .ok (.aload_n 0, 1) := by decide +kernel
theorem dX7_shop_101 : decode cX7_shop 101 = .ok (.getfield 116, 3) := by decide +kernel
theorem dX7_shop_104 : decode cX7_shop 104 = .ok (.if_icmp .ge 38, 3) := by decide +kernel
theorem dX7_shop_107 : decode cX7_shop 107 = .ok (.aload_n 0, 1) := by decide +kernel
theorem dX7_shop_108 : decode cX7_shop 108 = .ok (.getfield 22, 3) := by decide +kernel
theorem dX7_shop_111 : decode cX7_shop 111 = .ok (.iload_n 1, 1) := by decide +kernel
theorem dX7_shop_112 : decode cX7_shop 112 = .ok (.aload_n 0, 1) := by decide +kernel
theorem dX7_shop_113 : decode cX7_shop 113 = .ok (.getfield 37, 3) := by decide +kernel
theorem dX7_shop_116 : decode cX7_shop 116 = .ok (.iconst 3, 1) := by decide +kernel
theorem dX7_shop_117 : decode cX7_shop 117 = .ok (.aload_n 0, 1) := by decide +kernel
theorem dX7_shop_118 : decode cX7_shop 118 = .ok (.getfield 113, 3) := by decide +kernel
theorem dX7_shop_121 : decode cX7_shop 121 = .ok (.imul, 1) := by decide +kernel
theorem dX7_shop_122 : decode cX7_shop 122 = .ok (.iload_n 1, 1) := by decide +kernel
theorem dX7_shop_123 : decode cX7_shop 123 = .ok (.iadd, 1) := by decide +kernel
theorem dX7_shop_124 : decode cX7_shop 124 = .ok (.baload, 1) := by decide +kernel
theorem dX7_shop_125 : decode cX7_shop 125 = .ok (.bipush 48, 2) := by decide +kernel
theorem dX7_shop_127 : decode cX7_shop 127 = .ok (.isub, 1) := by decide +kernel
theorem dX7_shop_128 : decode cX7_shop 128 = .ok (.iastore, 1) := by decide +kernel
theorem dX7_shop_129 : decode cX7_shop 129 = .ok (.aload_n 0, 1) := by decide +kernel
theorem dX7_shop_130 : decode cX7_shop 130 = .ok (.getfield 25, 3) := by decide +kernel
theorem dX7_shop_133 : decode cX7_shop 133 = .ok (.iload_n 1, 1) := by decide +kernel
theorem dX7_shop_134 : decode cX7_shop 134 = .ok (.iconst 2, 1) := by decide +kernel
theorem dX7_shop_135 : decode cX7_shop 135 = .ok (.iastore, 1) := by decide +kernel
theorem dX7_shop_136 : decode cX7_shop 136 = .ok (.iinc 1 1, 3) := by decide +kernel
theorem dX7_shop_139 : decode cX7_shop 139 = .ok (.goto (-40), 3) := by decide +kernel
theorem dX7_shop_142 : decode cX7_shop 142 = .ok (.aload_n 0, 1) := by decide +kernel
theorem dX7_shop_143 : decode cX7_shop 143 = .ok (.iconst 0, 1) := by decide +kernel
theorem dX7_shop_144 : decode cX7_shop 144 = .ok (.putfield 119, 3) := by decide +kernel
theorem dX7_shop_147 : decode cX7_shop 147 = .ok (.aload_n 0, 1) := by decide +kernel
theorem dX7_shop_148 : decode cX7_shop 148 = .ok (.dup, 1) := by decide +kernel
theorem dX7_shop_149 : decode cX7_shop 149 = .ok (.getfield 122, 3) := by decide +kernel
theorem dX7_shop_152 : decode cX7_shop 152 = .ok (.iconst 1, 1) := by decide +kernel
theorem dX7_shop_153 : decode cX7_shop 153 = .ok (.iadd, 1) := by decide +kernel
theorem dX7_shop_154 : decode cX7_shop 154 = .ok (.putfield 122, 3) := by decide +kernel
theorem dX7_shop_157 : decode cX7_shop 157 = .ok (.aload_n 0, 1) := by decide +kernel
theorem dX7_shop_158 : decode cX7_shop 158 = .ok (.iconst 0, 1) := by decide +kernel
theorem dX7_shop_159 : decode cX7_shop 159 = .ok (.putfield 125, 3) := by decide +kernel
theorem dX7_shop_162 : decode cX7_shop 162 = .ok (.aload_n 0, 1) := by decide +kernel
theorem dX7_shop_163 : decode cX7_shop 163 = .ok (.iconst 0, 1) := by decide +kernel
theorem dX7_shop_164 : decode cX7_shop 164 = .ok (.putfield 81, 3) := by decide +kernel
theorem dX7_shop_167 : decode cX7_shop 167 = .ok (.aload_n 0, 1) := by decide +kernel
theorem dX7_shop_168 : decode cX7_shop 168 = .ok (.getfield 113, 3) := by decide +kernel
theorem dX7_shop_171 : decode cX7_shop 171 = .ok (.ireturn, 1) := by decide +kernel
theorem dX7_isGlove_0 : decode cX7_isGlove 0 = .ok (.iload_n 1, 1) := by decide +kernel
theorem dX7_isGlove_1 : decode cX7_isGlove 1 = .ok (.iconst 0, 1) := by decide +kernel
theorem dX7_isGlove_2 : decode cX7_isGlove 2 = .ok (.aload_n 0, 1) := by decide +kernel
theorem dX7_isGlove_3 : decode cX7_isGlove 3 = .ok (.getfield 113, 3) := by decide +kernel
theorem dX7_isGlove_6 : decode cX7_isGlove 6 = .ok (.iconst 1, 1) := by decide +kernel
theorem dX7_isGlove_7 : decode cX7_isGlove 7 = .ok (.isub, 1) := by decide +kernel
theorem dX7_isGlove_8 : decode cX7_isGlove 8 = .ok (.invokestatic 77, 3) := by decide +kernel
theorem dX7_isGlove_11 : decode cX7_isGlove 11 = .ok (.ireturn, 1) := by decide +kernel
theorem dX7_isWearer_0 : decode cX7_isWearer 0 = .ok (.iload_n 1, 1) := by decide +kernel
theorem dX7_isWearer_1 : decode cX7_isWearer 1 = .ok (.iconst 0, 1) := by decide +kernel
theorem dX7_isWearer_2 : decode cX7_isWearer 2 = .ok (.aload_n 0, 1) := by decide +kernel
theorem dX7_isWearer_3 : decode cX7_isWearer 3 = .ok (.getfield 116, 3) := by decide +kernel
theorem dX7_isWearer_6 : decode cX7_isWearer 6 = .ok (.iconst 1, 1) := by decide +kernel
theorem dX7_isWearer_7 : decode cX7_isWearer 7 = .ok (.isub, 1) := by decide +kernel
theorem dX7_isWearer_8 : decode cX7_isWearer 8 = .ok (.invokestatic 77, 3) := by decide +kernel
theorem dX7_isWearer_11 : decode cX7_isWearer 11 = .ok (.ireturn, 1) := by decide +kernel
theorem dX7_temperBy_0 : decode cX7_temperBy 0 = .ok (.aload_n 0, 1) := by decide +kernel
theorem dX7_temperBy_1 : decode cX7_temperBy 1 = .ok (.getfield 7, 3) := by decide +kernel
theorem dX7_temperBy_4 : decode cX7_temperBy 4 = .ok (.iload_n 1, 1) := by decide +kernel
theorem dX7_temperBy_5 : decode cX7_temperBy 5 = .ok (.iaload, 1) := by decide +kernel
theorem dX7_temperBy_6 : decode cX7_temperBy 6 = .ok (.tableswitch 94 1 4 #[30, 47, 60, 73], 30) := by decide +kernel
theorem dX7_temperBy_36 : decode cX7_temperBy 36 = .ok (.iload_n 2, 1) := by decide +kernel
theorem dX7_temperBy_37 : decode cX7_temperBy 37 = .ok (.iload_n 3, 1) := by decide +kernel
theorem dX7_temperBy_38 : decode cX7_temperBy 38 = .ok (.iadd, 1) := by decide +kernel
theorem dX7_temperBy_39 : decode cX7_temperBy 39 = .ok (.bipush 9, 2) := by decide +kernel
theorem dX7_temperBy_41 : decode cX7_temperBy 41 = .ok (.if_icmp .le 8, 3) := by decide +kernel
theorem dX7_temperBy_44 : decode cX7_temperBy 44 = .ok (.bipush 9, 2) := by decide +kernel
theorem dX7_temperBy_46 : decode cX7_temperBy 46 = .ok (.goto 6, 3) := by decide +kernel
theorem dX7_temperBy_49 : decode cX7_temperBy 49 = .ok (.iload_n 2, 1) := by decide +kernel
theorem dX7_temperBy_50 : decode cX7_temperBy 50 = .ok (.iload_n 3, 1) := by decide +kernel
theorem dX7_temperBy_51 : decode cX7_temperBy 51 = .ok (.iadd, 1) := by decide +kernel
theorem dX7_temperBy_52 : decode cX7_temperBy 52 = .ok (.ireturn, 1) := by decide +kernel
theorem dX7_temperBy_53 : decode cX7_temperBy 53 = .ok (.iload_n 3, 1) := by decide +kernel
theorem dX7_temperBy_54 : decode cX7_temperBy 54 = .ok (.iconst 2, 1) := by decide +kernel
theorem dX7_temperBy_55 : decode cX7_temperBy 55 = .ok (.irem, 1) := by decide +kernel
theorem dX7_temperBy_56 : decode cX7_temperBy 56 = .ok (.iconst 1, 1) := by decide +kernel
theorem dX7_temperBy_57 : decode cX7_temperBy 57 = .ok (.if_icmp .ne 7, 3) := by decide +kernel
theorem dX7_temperBy_60 : decode cX7_temperBy 60 = .ok (.iload_n 2, 1) := by decide +kernel
theorem dX7_temperBy_61 : decode cX7_temperBy 61 = .ok (.goto 4, 3) := by decide +kernel
theorem dX7_temperBy_64 : decode cX7_temperBy 64 = .ok (.iconst 0, 1) := by decide +kernel
theorem dX7_temperBy_65 : decode cX7_temperBy 65 = .ok (.ireturn, 1) := by decide +kernel
theorem dX7_temperBy_66 : decode cX7_temperBy 66 = .ok (.iload_n 2, 1) := by decide +kernel
theorem dX7_temperBy_67 : decode cX7_temperBy 67 = .ok (.iload_n 3, 1) := by decide +kernel
theorem dX7_temperBy_68 : decode cX7_temperBy 68 = .ok (.if_icmp .le 9, 3) := by decide +kernel
theorem dX7_temperBy_71 : decode cX7_temperBy 71 = .ok (.iload_n 2, 1) := by decide +kernel
theorem dX7_temperBy_72 : decode cX7_temperBy 72 = .ok (.iload_n 3, 1) := by decide +kernel
theorem dX7_temperBy_73 : decode cX7_temperBy 73 = .ok (.isub, 1) := by decide +kernel
theorem dX7_temperBy_74 : decode cX7_temperBy 74 = .ok (.goto 4, 3) := by decide +kernel
theorem dX7_temperBy_77 : decode cX7_temperBy 77 = .ok (.iconst 0, 1) := by decide +kernel
theorem dX7_temperBy_78 : decode cX7_temperBy 78 = .ok (.ireturn, 1) := by decide +kernel
theorem dX7_temperBy_79 : decode cX7_temperBy 79 = .ok (.iload_n 2, 1) := by decide +kernel
theorem dX7_temperBy_80 : decode cX7_temperBy 80 = .ok (.iconst 2, 1) := by decide +kernel
theorem dX7_temperBy_81 : decode cX7_temperBy 81 = .ok (.iload_n 3, 1) := by decide +kernel
theorem dX7_temperBy_82 : decode cX7_temperBy 82 = .ok (.imul, 1) := by decide +kernel
theorem dX7_temperBy_83 : decode cX7_temperBy 83 = .ok (.iadd, 1) := by decide +kernel
theorem dX7_temperBy_84 : decode cX7_temperBy 84 = .ok (.bipush 9, 2) := by decide +kernel
theorem dX7_temperBy_86 : decode cX7_temperBy 86 = .ok (.if_icmp .le 8, 3) := by decide +kernel
theorem dX7_temperBy_89 : decode cX7_temperBy 89 = .ok (.bipush 9, 2) := by decide +kernel
theorem dX7_temperBy_91 : decode cX7_temperBy 91 = .ok (.goto 8, 3) := by decide +kernel
theorem dX7_temperBy_94 : decode cX7_temperBy 94 = .ok (.iload_n 2, 1) := by decide +kernel
theorem dX7_temperBy_95 : decode cX7_temperBy 95 = .ok (.iconst 2, 1) := by decide +kernel
theorem dX7_temperBy_96 : decode cX7_temperBy 96 = .ok (.iload_n 3, 1) := by decide +kernel
theorem dX7_temperBy_97 : decode cX7_temperBy 97 = .ok (.imul, 1) := by decide +kernel
theorem dX7_temperBy_98 : decode cX7_temperBy 98 = .ok (.iadd, 1) := by decide +kernel
theorem dX7_temperBy_99 : decode cX7_temperBy 99 = .ok (.ireturn, 1) := by decide +kernel
theorem dX7_temperBy_100 : decode cX7_temperBy 100 = .ok (.iload_n 2, 1) := by decide +kernel
theorem dX7_temperBy_101 : decode cX7_temperBy 101 = .ok (.ireturn, 1) := by decide +kernel
theorem dX7_aged_0 : decode cX7_aged 0 = .ok (.aload_n 0, 1) := by decide +kernel
theorem dX7_aged_1 : decode cX7_aged 1 = .ok (.getfield 16, 3) := by decide +kernel
theorem dX7_aged_4 : decode cX7_aged 4 = .ok (.iload_n 1, 1) := by decide +kernel
theorem dX7_aged_5 : decode cX7_aged 5 = .ok (.iaload, 1) := by decide +kernel
theorem dX7_aged_6 : decode cX7_aged 6 = .ok (.iload_n 2, 1) := by decide +kernel
theorem dX7_aged_7 : decode cX7_aged 7 = .ok (.iadd, 1) := by decide +kernel
theorem dX7_aged_8 : decode cX7_aged 8 = .ok (.bipush 20, 2) := by decide +kernel
theorem dX7_aged_10 : decode cX7_aged 10 = .ok (.if_icmp .le 8, 3) := by decide +kernel
theorem dX7_aged_13 : decode cX7_aged 13 = .ok (.bipush 20, 2) := by decide +kernel
theorem dX7_aged_15 : decode cX7_aged 15 = .ok (.goto 11, 3) := by decide +kernel
theorem dX7_aged_18 : decode cX7_aged 18 = .ok (.aload_n 0, 1) := by decide +kernel
theorem dX7_aged_19 : decode cX7_aged 19 = .ok (.getfield 16, 3) := by decide +kernel
theorem dX7_aged_22 : decode cX7_aged 22 = .ok (.iload_n 1, 1) := by decide +kernel
theorem dX7_aged_23 : decode cX7_aged 23 = .ok (.iaload, 1) := by decide +kernel
theorem dX7_aged_24 : decode cX7_aged 24 = .ok (.iload_n 2, 1) := by decide +kernel
theorem dX7_aged_25 : decode cX7_aged 25 = .ok (.iadd, 1) := by decide +kernel
theorem dX7_aged_26 : decode cX7_aged 26 = .ok (.ireturn, 1) := by decide +kernel
theorem dX7_temperBehind_0 : decode cX7_temperBehind 0 = .ok (.aload_n 0, 1) := by decide +kernel
theorem dX7_temperBehind_1 : decode cX7_temperBehind 1 = .ok (.iload_n 1, 1) := by decide +kernel
theorem dX7_temperBehind_2 : decode cX7_temperBehind 2 = .ok (.aload_n 0, 1) := by decide +kernel
theorem dX7_temperBehind_3 : decode cX7_temperBehind 3 = .ok (.getfield 13, 3) := by decide +kernel
theorem dX7_temperBehind_6 : decode cX7_temperBehind 6 = .ok (.iload_n 1, 1) := by decide +kernel
theorem dX7_temperBehind_7 : decode cX7_temperBehind 7 = .ok (.iaload, 1) := by decide +kernel
theorem dX7_temperBehind_8 : decode cX7_temperBehind 8 = .ok (.aload_n 0, 1) := by decide +kernel
theorem dX7_temperBehind_9 : decode cX7_temperBehind 9 = .ok (.iload_n 1, 1) := by decide +kernel
theorem dX7_temperBehind_10 : decode cX7_temperBehind 10 = .ok (.iload_n 2, 1) := by decide +kernel
theorem dX7_temperBehind_11 : decode cX7_temperBehind 11 = .ok (.invokevirtual 128, 3) := by decide +kernel
theorem dX7_temperBehind_14 : decode cX7_temperBehind 14 = .ok (.invokevirtual 132, 3) := by decide +kernel
theorem dX7_temperBehind_17 : decode cX7_temperBehind 17 = .ok (.ireturn, 1) := by decide +kernel
theorem dX7_quarrel_0 : decode cX7_quarrel 0 = .ok (.aload_n 0, 1) := by decide +kernel
theorem dX7_quarrel_1 : decode cX7_quarrel 1 = .ok (.iload_n 1, 1) := by decide +kernel
theorem dX7_quarrel_2 : decode cX7_quarrel 2 = .ok (.iload_n 3, 1) := by decide +kernel
theorem dX7_quarrel_3 : decode cX7_quarrel 3 = .ok (.invokevirtual 136, 3) := by decide +kernel
theorem dX7_quarrel_6 : decode cX7_quarrel 6 = .ok (.aload_n 0, 1) := by decide +kernel
theorem dX7_quarrel_7 : decode cX7_quarrel 7 = .ok (.iload_n 2, 1) := by decide +kernel
theorem dX7_quarrel_8 : decode cX7_quarrel 8 = .ok (.iload_n 3, 1) := by decide +kernel
theorem dX7_quarrel_9 : decode cX7_quarrel 9 = .ok (.invokevirtual 136, 3) := by decide +kernel
theorem dX7_quarrel_12 : decode cX7_quarrel 12 = .ok (.isub, 1) := by decide +kernel
theorem dX7_quarrel_13 : decode cX7_quarrel 13 = .ok (.istore 4, 2) := by decide +kernel
theorem dX7_quarrel_15 : decode cX7_quarrel 15 = .ok (.iload 4, 2) := by decide +kernel
theorem dX7_quarrel_17 : decode cX7_quarrel 17 = .ok (.iconst 4, 1) := by decide +kernel
theorem dX7_quarrel_18 : decode cX7_quarrel 18 = .ok (.if_icmp .ge 10, 3) := by decide +kernel
theorem dX7_quarrel_21 : decode cX7_quarrel 21 = .ok (.iload 4, 2) := by decide +kernel
theorem dX7_quarrel_23 : decode cX7_quarrel 23 = .ok (.bipush (-4), 2) := by decide +kernel
theorem dX7_quarrel_25 : decode cX7_quarrel 25 = .ok (.if_icmp .gt 7, 3) := by decide +kernel
theorem dX7_quarrel_28 : decode cX7_quarrel 28 = .ok (.iconst 1, 1) := by decide +kernel
theorem dX7_quarrel_29 : decode cX7_quarrel 29 = .ok (.goto 4, 3) := by decide +kernel
theorem dX7_quarrel_32 : decode cX7_quarrel 32 = .ok (.iconst 0, 1) := by decide +kernel
theorem dX7_quarrel_33 : decode cX7_quarrel 33 = .ok (.ireturn, 1) := by decide +kernel
theorem dX7_wornBy_0 : decode cX7_wornBy 0 = .ok (.iconst 0, 1) := by decide +kernel
theorem dX7_wornBy_1 : decode cX7_wornBy 1 = .ok (.istore_n 2, 1) := by decide +kernel
theorem dX7_wornBy_2 : decode cX7_wornBy 2 = .ok (.iconst 0, 1) := by decide +kernel
theorem dX7_wornBy_3 : decode cX7_wornBy 3 = .ok (.istore_n 3, 1) := by decide +kernel
theorem dX7_wornBy_4 : decode cX7_wornBy 4 = .ok (.iload_n 3, 1) := by decide +kernel
theorem dX7_wornBy_5 : decode cX7_wornBy 5 = .ok (.aload_n 0, 1) := by decide +kernel
theorem dX7_wornBy_6 : decode cX7_wornBy 6 = .ok (.getfield 113, 3) := by decide +kernel
theorem dX7_wornBy_9 : decode cX7_wornBy 9 = .ok (.if_icmp .ge 41, 3) := by decide +kernel
theorem dX7_wornBy_12 : decode cX7_wornBy 12 = .ok (.iload_n 2, 1) := by decide +kernel
theorem dX7_wornBy_13 : decode cX7_wornBy 13 = .ok (.aload_n 0, 1) := by decide +kernel
theorem dX7_wornBy_14 : decode cX7_wornBy 14 = .ok (.getfield 19, 3) := by decide +kernel
theorem dX7_wornBy_17 : decode cX7_wornBy 17 = .ok (.iload_n 3, 1) := by decide +kernel
theorem dX7_wornBy_18 : decode cX7_wornBy 18 = .ok (.iaload, 1) := by decide +kernel
theorem dX7_wornBy_19 : decode cX7_wornBy 19 = .ok (.iconst (-1), 1) := by decide +kernel
theorem dX7_wornBy_20 : decode cX7_wornBy 20 = .ok (.if_icmp .eq 21, 3) := by decide +kernel
theorem dX7_wornBy_23 : decode cX7_wornBy 23 = .ok (.aload_n 0, 1) := by decide +kernel
theorem dX7_wornBy_24 : decode cX7_wornBy 24 = .ok (.getfield 19, 3) := by decide +kernel
theorem dX7_wornBy_27 : decode cX7_wornBy 27 = .ok (.iload_n 3, 1) := by decide +kernel
theorem dX7_wornBy_28 : decode cX7_wornBy 28 = .ok (.iaload, 1) := by decide +kernel
theorem dX7_wornBy_29 : decode cX7_wornBy 29 = .ok (.iconst 2, 1) := by decide +kernel
theorem dX7_wornBy_30 : decode cX7_wornBy 30 = .ok (.idiv, 1) := by decide +kernel
theorem dX7_wornBy_31 : decode cX7_wornBy 31 = .ok (.iload_n 1, 1) := by decide +kernel
theorem dX7_wornBy_32 : decode cX7_wornBy 32 = .ok (.if_icmp .ne 9, 3) := by decide +kernel
theorem dX7_wornBy_35 : decode cX7_wornBy 35 = .ok (.iconst 1, 1) := by decide +kernel
theorem dX7_wornBy_36 : decode cX7_wornBy 36 = .ok (.iload_n 3, 1) := by decide +kernel
theorem dX7_wornBy_37 : decode cX7_wornBy 37 = .ok (.ishl, 1) := by decide +kernel
theorem dX7_wornBy_38 : decode cX7_wornBy 38 = .ok (.goto 4, 3) := by decide +kernel
theorem dX7_wornBy_41 : decode cX7_wornBy 41 = .ok (.iconst 0, 1) := by decide +kernel
theorem dX7_wornBy_42 : decode cX7_wornBy 42 = .ok (.ior, 1) := by decide +kernel
theorem dX7_wornBy_43 : decode cX7_wornBy 43 = .ok (.istore_n 2, 1) := by decide +kernel
theorem dX7_wornBy_44 : decode cX7_wornBy 44 = .ok (.iinc 3 1, 3) := by decide +kernel
theorem dX7_wornBy_47 : decode cX7_wornBy 47 = .ok (.goto (-43), 3) := by decide +kernel
theorem dX7_wornBy_50 : decode cX7_wornBy 50 = .ok (.iload_n 2, 1) := by decide +kernel
theorem dX7_wornBy_51 : decode cX7_wornBy 51 = .ok (.ireturn, 1) := by decide +kernel
theorem dX7_moodWith_0 : decode cX7_moodWith 0 = .ok (.aload_n 0, 1) := by decide +kernel
theorem dX7_moodWith_1 : decode cX7_moodWith 1 = .ok (.getfield 22, 3) := by decide +kernel
theorem dX7_moodWith_4 : decode cX7_moodWith 4 = .ok (.iload_n 1, 1) := by decide +kernel
theorem dX7_moodWith_5 : decode cX7_moodWith 5 = .ok (.iaload, 1) := by decide +kernel
theorem dX7_moodWith_6 : decode cX7_moodWith 6 = .ok (.istore 4, 2) := by decide +kernel
theorem dX7_moodWith_8 : decode cX7_moodWith 8 = .ok (.iconst 0, 1) := by decide +kernel
theorem dX7_moodWith_9 : decode cX7_moodWith 9 = .ok (.istore 5, 2) := by decide +kernel
theorem dX7_moodWith_11 : decode cX7_moodWith 11 = .ok (.iconst 0, 1) := by decide +kernel
theorem dX7_moodWith_12 : decode cX7_moodWith 12 = .ok (.istore 6, 2) := by decide +kernel
theorem dX7_moodWith_14 : decode cX7_moodWith 14 = .ok (.iload 6, 2) := by decide +kernel
theorem dX7_moodWith_16 : decode cX7_moodWith 16 = .ok (.aload_n 0, 1) := by decide +kernel
theorem dX7_moodWith_17 : decode cX7_moodWith 17 = .ok (.getfield 113, 3) := by decide +kernel
theorem dX7_moodWith_20 : decode cX7_moodWith 20 = .ok (.if_icmp .ge 92, 3) := by decide +kernel
theorem dX7_moodWith_23 : decode cX7_moodWith 23 = .ok (.iload 4, 2) := by decide +kernel
theorem dX7_moodWith_25 : decode cX7_moodWith 25 = .ok (.iload_n 2, 1) := by decide +kernel
theorem dX7_moodWith_26 : decode cX7_moodWith 26 = .ok (.iload 6, 2) := by decide +kernel
theorem dX7_moodWith_28 : decode cX7_moodWith 28 = .ok (.invokestatic 139, 3) := by decide +kernel
theorem dX7_moodWith_31 : decode cX7_moodWith 31 = .ok (.ifCond .eq 13, 3) := by decide +kernel
theorem dX7_moodWith_34 : decode cX7_moodWith 34 = .ok (.aload_n 0, 1) := by decide +kernel
theorem dX7_moodWith_35 : decode cX7_moodWith 35 = .ok (.iload 6, 2) := by decide +kernel
theorem dX7_moodWith_37 : decode cX7_moodWith 37 = .ok (.iload_n 3, 1) := by decide +kernel
theorem dX7_moodWith_38 : decode cX7_moodWith 38 = .ok (.invokevirtual 136, 3) := by decide +kernel
theorem dX7_moodWith_41 : decode cX7_moodWith 41 = .ok (.goto 4, 3) := by decide +kernel
theorem dX7_moodWith_44 : decode cX7_moodWith 44 = .ok (.iconst 0, 1) := by decide +kernel
theorem dX7_moodWith_45 : decode cX7_moodWith 45 = .ok (.iadd, 1) := by decide +kernel
theorem dX7_moodWith_46 : decode cX7_moodWith 46 = .ok (.istore 4, 2) := by decide +kernel
theorem dX7_moodWith_48 : decode cX7_moodWith 48 = .ok (.iconst 0, 1) := by decide +kernel
theorem dX7_moodWith_49 : decode cX7_moodWith 49 = .ok (.istore 7, 2) := by decide +kernel
theorem dX7_moodWith_51 : decode cX7_moodWith 51 = .ok (.iload 7, 2) := by decide +kernel
theorem dX7_moodWith_53 : decode cX7_moodWith 53 = .ok (.iload 6, 2) := by decide +kernel
theorem dX7_moodWith_55 : decode cX7_moodWith 55 = .ok (.if_icmp .ge 51, 3) := by decide +kernel
theorem dX7_moodWith_58 : decode cX7_moodWith 58 = .ok (.iload 5, 2) := by decide +kernel
theorem dX7_moodWith_60 : decode cX7_moodWith 60 = .ok (.ifCond .ne 33, 3) := by decide +kernel
theorem dX7_moodWith_63 : decode cX7_moodWith 63 = .ok (.iload_n 2, 1) := by decide +kernel
theorem dX7_moodWith_64 : decode cX7_moodWith 64 = .ok (.iload 6, 2) := by decide +kernel
theorem dX7_moodWith_66 : decode cX7_moodWith 66 = .ok (.invokestatic 139, 3) := by decide +kernel
theorem dX7_moodWith_69 : decode cX7_moodWith 69 = .ok (.ifCond .eq 28, 3) := by decide +kernel
theorem dX7_moodWith_72 : decode cX7_moodWith 72 = .ok (.iload_n 2, 1) := by decide +kernel
theorem dX7_moodWith_73 : decode cX7_moodWith 73 = .ok (.iload 7, 2) := by decide +kernel
theorem dX7_moodWith_75 : decode cX7_moodWith 75 = .ok (.invokestatic 139, 3) := by decide +kernel
theorem dX7_moodWith_78 : decode cX7_moodWith 78 = .ok (.ifCond .eq 19, 3) := by decide +kernel
theorem dX7_moodWith_81 : decode cX7_moodWith 81 = .ok (.aload_n 0, 1) := by decide +kernel
theorem dX7_moodWith_82 : decode cX7_moodWith 82 = .ok (.iload 6, 2) := by decide +kernel
theorem dX7_moodWith_84 : decode cX7_moodWith 84 = .ok (.iload 7, 2) := by decide +kernel
theorem dX7_moodWith_86 : decode cX7_moodWith 86 = .ok (.iload_n 3, 1) := by decide +kernel
theorem dX7_moodWith_87 : decode cX7_moodWith 87 = .ok (.invokevirtual 143, 3) := by decide +kernel
theorem dX7_moodWith_90 : decode cX7_moodWith 90 = .ok (.ifCond .eq 7, 3) := by decide +kernel
theorem dX7_moodWith_93 : decode cX7_moodWith 93 = .ok (.iconst 1, 1) := by decide +kernel
theorem dX7_moodWith_94 : decode cX7_moodWith 94 = .ok (.goto 4, 3) := by decide +kernel
theorem dX7_moodWith_97 : decode cX7_moodWith 97 = .ok (.iconst 0, 1) := by decide +kernel
theorem dX7_moodWith_98 : decode cX7_moodWith 98 = .ok (.istore 5, 2) := by decide +kernel
theorem dX7_moodWith_100 : decode cX7_moodWith 100 = .ok (.iinc 7 1, 3) := by decide +kernel
theorem dX7_moodWith_103 : decode cX7_moodWith 103 = .ok (.goto (-52), 3) := by decide +kernel
theorem dX7_moodWith_106 : decode cX7_moodWith 106 = .ok (.iinc 6 1, 3) := by decide +kernel
theorem dX7_moodWith_109 : decode cX7_moodWith 109 = .ok (.goto (-95), 3) := by decide +kernel
theorem dX7_moodWith_112 : decode cX7_moodWith 112 = .ok (.iload 4, 2) := by decide +kernel
theorem dX7_moodWith_114 : decode cX7_moodWith 114 = .ok (.iload 5, 2) := by decide +kernel
theorem dX7_moodWith_116 : decode cX7_moodWith 116 = .ok (.ifCond .eq 7, 3) := by decide +kernel
theorem dX7_moodWith_119 : decode cX7_moodWith 119 = .ok (.iconst 3, 1) := by decide +kernel
theorem dX7_moodWith_120 : decode cX7_moodWith 120 = .ok (.goto 4, 3) := by decide +kernel
theorem dX7_moodWith_123 : decode cX7_moodWith 123 = .ok (.iconst 0, 1) := by decide +kernel
theorem dX7_moodWith_124 : decode cX7_moodWith 124 = .ok (.iadd, 1) := by decide +kernel
theorem dX7_moodWith_125 : decode cX7_moodWith 125 = .ok (.ireturn, 1) := by decide +kernel
theorem dX7_moodNow_0 : decode cX7_moodNow 0 = .ok (.aload_n 0, 1) := by decide +kernel
theorem dX7_moodNow_1 : decode cX7_moodNow 1 = .ok (.iload_n 1, 1) := by decide +kernel
theorem dX7_moodNow_2 : decode cX7_moodNow 2 = .ok (.aload_n 0, 1) := by decide +kernel
theorem dX7_moodNow_3 : decode cX7_moodNow 3 = .ok (.iload_n 1, 1) := by decide +kernel
theorem dX7_moodNow_4 : decode cX7_moodNow 4 = .ok (.invokevirtual 146, 3) := by decide +kernel
theorem dX7_moodNow_7 : decode cX7_moodNow 7 = .ok (.iconst 0, 1) := by decide +kernel
theorem dX7_moodNow_8 : decode cX7_moodNow 8 = .ok (.invokevirtual 149, 3) := by decide +kernel
theorem dX7_moodNow_11 : decode cX7_moodNow 11 = .ok (.ireturn, 1) := by decide +kernel
theorem dX7_doesBy_0 : decode cX7_doesBy 0 = .ok (.iload_n 0, 1) := by decide +kernel
theorem dX7_doesBy_1 : decode cX7_doesBy 1 = .ok (.bipush 8, 2) := by decide +kernel
theorem dX7_doesBy_3 : decode cX7_doesBy 3 = .ok (.if_icmp .gt 7, 3) := by decide +kernel
theorem dX7_doesBy_6 : decode cX7_doesBy 6 = .ok (.iconst 0, 1) := by decide +kernel
theorem dX7_doesBy_7 : decode cX7_doesBy 7 = .ok (.goto 14, 3) := by decide +kernel
theorem dX7_doesBy_10 : decode cX7_doesBy 10 = .ok (.iload_n 0, 1) := by decide +kernel
theorem dX7_doesBy_11 : decode cX7_doesBy 11 = .ok (.bipush 15, 2) := by decide +kernel
theorem dX7_doesBy_13 : decode cX7_doesBy 13 = .ok (.if_icmp .lt 7, 3) := by decide +kernel
theorem dX7_doesBy_16 : decode cX7_doesBy 16 = .ok (.iconst 1, 1) := by decide +kernel
theorem dX7_doesBy_17 : decode cX7_doesBy 17 = .ok (.goto 4, 3) := by decide +kernel
theorem dX7_doesBy_20 : decode cX7_doesBy 20 = .ok (.iconst 2, 1) := by decide +kernel
theorem dX7_doesBy_21 : decode cX7_doesBy 21 = .ok (.ireturn, 1) := by decide +kernel
theorem dX7_isWished_0 : decode cX7_isWished 0 = .ok (.aload_n 0, 1) := by decide +kernel
theorem dX7_isWished_1 : decode cX7_isWished 1 = .ok (.getfield 25, 3) := by decide +kernel
theorem dX7_isWished_4 : decode cX7_isWished 4 = .ok (.iload_n 1, 1) := by decide +kernel
theorem dX7_isWished_5 : decode cX7_isWished 5 = .ok (.iaload, 1) := by decide +kernel
theorem dX7_isWished_6 : decode cX7_isWished 6 = .ok (.iconst 2, 1) := by decide +kernel
theorem dX7_isWished_7 : decode cX7_isWished 7 = .ok (.if_icmp .eq 16, 3) := by decide +kernel
theorem dX7_isWished_10 : decode cX7_isWished 10 = .ok (.iload_n 2, 1) := by decide +kernel
theorem dX7_isWished_11 : decode cX7_isWished 11 = .ok (.invokestatic 152, 3) := by decide +kernel
theorem dX7_isWished_14 : decode cX7_isWished 14 = .ok (.aload_n 0, 1) := by decide +kernel
theorem dX7_isWished_15 : decode cX7_isWished 15 = .ok (.getfield 25, 3) := by decide +kernel
theorem dX7_isWished_18 : decode cX7_isWished 18 = .ok (.iload_n 1, 1) := by decide +kernel
theorem dX7_isWished_19 : decode cX7_isWished 19 = .ok (.iaload, 1) := by decide +kernel
theorem dX7_isWished_20 : decode cX7_isWished 20 = .ok (.if_icmp .ne 7, 3) := by decide +kernel
theorem dX7_isWished_23 : decode cX7_isWished 23 = .ok (.iconst 1, 1) := by decide +kernel
theorem dX7_isWished_24 : decode cX7_isWished 24 = .ok (.goto 4, 3) := by decide +kernel
theorem dX7_isWished_27 : decode cX7_isWished 27 = .ok (.iconst 0, 1) := by decide +kernel
theorem dX7_isWished_28 : decode cX7_isWished 28 = .ok (.ireturn, 1) := by decide +kernel
theorem dX7_quarrels_0 : decode cX7_quarrels 0 = .ok (.iconst 0, 1) := by decide +kernel
theorem dX7_quarrels_1 : decode cX7_quarrels 1 = .ok (.istore_n 2, 1) := by decide +kernel
theorem dX7_quarrels_2 : decode cX7_quarrels 2 = .ok (.iconst 0, 1) := by decide +kernel
theorem dX7_quarrels_3 : decode cX7_quarrels 3 = .ok (.istore_n 3, 1) := by decide +kernel
theorem dX7_quarrels_4 : decode cX7_quarrels 4 = .ok (.iload_n 3, 1) := by decide +kernel
theorem dX7_quarrels_5 : decode cX7_quarrels 5 = .ok (.aload_n 0, 1) := by decide +kernel
theorem dX7_quarrels_6 : decode cX7_quarrels 6 = .ok (.getfield 113, 3) := by decide +kernel
theorem dX7_quarrels_9 : decode cX7_quarrels 9 = .ok (.if_icmp .ge 34, 3) := by decide +kernel
theorem dX7_quarrels_12 : decode cX7_quarrels 12 = .ok (.iload_n 2, 1) := by decide +kernel
theorem dX7_quarrels_13 : decode cX7_quarrels 13 = .ok (.iload_n 3, 1) := by decide +kernel
theorem dX7_quarrels_14 : decode cX7_quarrels 14 = .ok (.iload_n 1, 1) := by decide +kernel
theorem dX7_quarrels_15 : decode cX7_quarrels 15 = .ok (.if_icmp .eq 19, 3) := by decide +kernel
theorem dX7_quarrels_18 : decode cX7_quarrels 18 = .ok (.aload_n 0, 1) := by decide +kernel
theorem dX7_quarrels_19 : decode cX7_quarrels 19 = .ok (.iload_n 1, 1) := by decide +kernel
theorem dX7_quarrels_20 : decode cX7_quarrels 20 = .ok (.iload_n 3, 1) := by decide +kernel
theorem dX7_quarrels_21 : decode cX7_quarrels 21 = .ok (.iconst 0, 1) := by decide +kernel
theorem dX7_quarrels_22 : decode cX7_quarrels 22 = .ok (.invokevirtual 143, 3) := by decide +kernel
theorem dX7_quarrels_25 : decode cX7_quarrels 25 = .ok (.ifCond .eq 9, 3) := by decide +kernel
theorem dX7_quarrels_28 : decode cX7_quarrels 28 = .ok (.iconst 1, 1) := by decide +kernel
theorem dX7_quarrels_29 : decode cX7_quarrels 29 = .ok (.iload_n 3, 1) := by decide +kernel
theorem dX7_quarrels_30 : decode cX7_quarrels 30 = .ok (.ishl, 1) := by decide +kernel
theorem dX7_quarrels_31 : decode cX7_quarrels 31 = .ok (.goto 4, 3) := by decide +kernel
theorem dX7_quarrels_34 : decode cX7_quarrels 34 = .ok (.iconst 0, 1) := by decide +kernel
theorem dX7_quarrels_35 : decode cX7_quarrels 35 = .ok (.ior, 1) := by decide +kernel
theorem dX7_quarrels_36 : decode cX7_quarrels 36 = .ok (.istore_n 2, 1) := by decide +kernel
theorem dX7_quarrels_37 : decode cX7_quarrels 37 = .ok (.iinc 3 1, 3) := by decide +kernel
theorem dX7_quarrels_40 : decode cX7_quarrels 40 = .ok (.goto (-36), 3) := by decide +kernel
theorem dX7_quarrels_43 : decode cX7_quarrels 43 = .ok (.iload_n 2, 1) := by decide +kernel
theorem dX7_quarrels_44 : decode cX7_quarrels 44 = .ok (.ireturn, 1) := by decide +kernel
theorem dX7_gloveNow_0 : decode cX7_gloveNow 0 = .ok (.iload_n 2, 1) := by decide +kernel
theorem dX7_gloveNow_1 : decode cX7_gloveNow 1 = .ok (.tableswitch 133 0 7 #[47, 54, 61, 68, 75, 98, 121, 127], 47) := by decide +kernel
theorem dX7_gloveNow_48 : decode cX7_gloveNow 48 = .ok (.aload_n 0, 1) := by decide +kernel
theorem dX7_gloveNow_49 : decode cX7_gloveNow 49 = .ok (.getfield 7, 3) := by decide +kernel
theorem dX7_gloveNow_52 : decode cX7_gloveNow 52 = .ok (.iload_n 1, 1) := by decide +kernel
theorem dX7_gloveNow_53 : decode cX7_gloveNow 53 = .ok (.iaload, 1) := by decide +kernel
theorem dX7_gloveNow_54 : decode cX7_gloveNow 54 = .ok (.ireturn, 1) := by decide +kernel
theorem dX7_gloveNow_55 : decode cX7_gloveNow 55 = .ok (.aload_n 0, 1) := by decide +kernel
theorem dX7_gloveNow_56 : decode cX7_gloveNow 56 = .ok (.getfield 13, 3) := by decide +kernel
theorem dX7_gloveNow_59 : decode cX7_gloveNow 59 = .ok (.iload_n 1, 1) := by decide +kernel
theorem dX7_gloveNow_60 : decode cX7_gloveNow 60 = .ok (.iaload, 1) := by decide +kernel
theorem dX7_gloveNow_61 : decode cX7_gloveNow 61 = .ok (.ireturn, 1) := by decide +kernel
theorem dX7_gloveNow_62 : decode cX7_gloveNow 62 = .ok (.aload_n 0, 1) := by decide +kernel
theorem dX7_gloveNow_63 : decode cX7_gloveNow 63 = .ok (.getfield 16, 3) := by decide +kernel
theorem dX7_gloveNow_66 : decode cX7_gloveNow 66 = .ok (.iload_n 1, 1) := by decide +kernel
theorem dX7_gloveNow_67 : decode cX7_gloveNow 67 = .ok (.iaload, 1) := by decide +kernel
theorem dX7_gloveNow_68 : decode cX7_gloveNow 68 = .ok (.ireturn, 1) := by decide +kernel
theorem dX7_gloveNow_69 : decode cX7_gloveNow 69 = .ok (.aload_n 0, 1) := by decide +kernel
theorem dX7_gloveNow_70 : decode cX7_gloveNow 70 = .ok (.iload_n 1, 1) := by decide +kernel
theorem dX7_gloveNow_71 : decode cX7_gloveNow 71 = .ok (.iconst 0, 1) := by decide +kernel
theorem dX7_gloveNow_72 : decode cX7_gloveNow 72 = .ok (.invokevirtual 136, 3) := by decide +kernel
theorem dX7_gloveNow_75 : decode cX7_gloveNow 75 = .ok (.ireturn, 1) := by decide +kernel
theorem dX7_gloveNow_76 : decode cX7_gloveNow 76 = .ok (.aload_n 0, 1) := by decide +kernel
theorem dX7_gloveNow_77 : decode cX7_gloveNow 77 = .ok (.getfield 19, 3) := by decide +kernel
theorem dX7_gloveNow_80 : decode cX7_gloveNow 80 = .ok (.iload_n 1, 1) := by decide +kernel
theorem dX7_gloveNow_81 : decode cX7_gloveNow 81 = .ok (.iaload, 1) := by decide +kernel
theorem dX7_gloveNow_82 : decode cX7_gloveNow 82 = .ok (.iconst (-1), 1) := by decide +kernel
theorem dX7_gloveNow_83 : decode cX7_gloveNow 83 = .ok (.if_icmp .ne 7, 3) := by decide +kernel
theorem dX7_gloveNow_86 : decode cX7_gloveNow 86 = .ok (.iconst (-1), 1) := by decide +kernel
theorem dX7_gloveNow_87 : decode cX7_gloveNow 87 = .ok (.goto 11, 3) := by decide +kernel
theorem dX7_gloveNow_90 : decode cX7_gloveNow 90 = .ok (.aload_n 0, 1) := by decide +kernel
theorem dX7_gloveNow_91 : decode cX7_gloveNow 91 = .ok (.getfield 19, 3) := by decide +kernel
theorem dX7_gloveNow_94 : decode cX7_gloveNow 94 = .ok (.iload_n 1, 1) := by decide +kernel
theorem dX7_gloveNow_95 : decode cX7_gloveNow 95 = .ok (.iaload, 1) := by decide +kernel
theorem dX7_gloveNow_96 : decode cX7_gloveNow 96 = .ok (.iconst 2, 1) := by decide +kernel
theorem dX7_gloveNow_97 : decode cX7_gloveNow 97 = .ok (.idiv, 1) := by decide +kernel
theorem dX7_gloveNow_98 : decode cX7_gloveNow 98 = .ok (.ireturn, 1) := by decide +kernel
theorem dX7_gloveNow_99 : decode cX7_gloveNow 99 = .ok (.aload_n 0, 1) := by decide +kernel
theorem dX7_gloveNow_100 : decode cX7_gloveNow 100 = .ok (.getfield 19, 3) := by decide +kernel
theorem dX7_gloveNow_103 : decode cX7_gloveNow 103 = .ok (.iload_n 1, 1) := by decide +kernel
theorem dX7_gloveNow_104 : decode cX7_gloveNow 104 = .ok (.iaload, 1) := by decide +kernel
theorem dX7_gloveNow_105 : decode cX7_gloveNow 105 = .ok (.iconst (-1), 1) := by decide +kernel
theorem dX7_gloveNow_106 : decode cX7_gloveNow 106 = .ok (.if_icmp .ne 7, 3) := by decide +kernel
theorem dX7_gloveNow_109 : decode cX7_gloveNow 109 = .ok (.iconst (-1), 1) := by decide +kernel
theorem dX7_gloveNow_110 : decode cX7_gloveNow 110 = .ok (.goto 11, 3) := by decide +kernel
theorem dX7_gloveNow_113 : decode cX7_gloveNow 113 = .ok (.aload_n 0, 1) := by decide +kernel
theorem dX7_gloveNow_114 : decode cX7_gloveNow 114 = .ok (.getfield 19, 3) := by decide +kernel
theorem dX7_gloveNow_117 : decode cX7_gloveNow 117 = .ok (.iload_n 1, 1) := by decide +kernel
theorem dX7_gloveNow_118 : decode cX7_gloveNow 118 = .ok (.iaload, 1) := by decide +kernel
theorem dX7_gloveNow_119 : decode cX7_gloveNow 119 = .ok (.iconst 2, 1) := by decide +kernel
theorem dX7_gloveNow_120 : decode cX7_gloveNow 120 = .ok (.irem, 1) := by decide +kernel
theorem dX7_gloveNow_121 : decode cX7_gloveNow 121 = .ok (.ireturn, 1) := by decide +kernel
theorem dX7_gloveNow_122 : decode cX7_gloveNow 122 = .ok (.aload_n 0, 1) := by decide +kernel
theorem dX7_gloveNow_123 : decode cX7_gloveNow 123 = .ok (.iload_n 1, 1) := by decide +kernel
theorem dX7_gloveNow_124 : decode cX7_gloveNow 124 = .ok (.invokevirtual 155, 3) := by decide +kernel
theorem dX7_gloveNow_127 : decode cX7_gloveNow 127 = .ok (.ireturn, 1) := by decide +kernel
theorem dX7_gloveNow_128 : decode cX7_gloveNow 128 = .ok (.aload_n 0, 1) := by decide +kernel
theorem dX7_gloveNow_129 : decode cX7_gloveNow 129 = .ok (.iload_n 1, 1) := by decide +kernel
theorem dX7_gloveNow_130 : decode cX7_gloveNow 130 = .ok (.invokevirtual 158, 3) := by decide +kernel
theorem dX7_gloveNow_133 : decode cX7_gloveNow 133 = .ok (.ireturn, 1) := by decide +kernel
theorem dX7_gloveNow_134 : decode cX7_gloveNow 134 = .ok (.aload_n 0, 1) := by decide +kernel
theorem dX7_gloveNow_135 : decode cX7_gloveNow 135 = .ok (.iload_n 1, 1) := by decide +kernel
theorem dX7_gloveNow_136 : decode cX7_gloveNow 136 = .ok (.invokevirtual 161, 3) := by decide +kernel
theorem dX7_gloveNow_139 : decode cX7_gloveNow 139 = .ok (.ireturn, 1) := by decide +kernel
theorem dX7_glove_0 : decode cX7_glove 0 = .ok (.aload_n 0, 1) := by decide +kernel
theorem dX7_glove_1 : decode cX7_glove 1 = .ok (.iload_n 1, 1) := by decide +kernel
theorem dX7_glove_2 : decode cX7_glove 2 = .ok (.invokevirtual 164, 3) := by decide +kernel
theorem dX7_glove_5 : decode cX7_glove 5 = .ok (.ifCond .ne 8, 3) := by decide +kernel
theorem dX7_glove_8 : decode cX7_glove 8 = .ok (.bipush (-101), 2) := by decide +kernel
theorem dX7_glove_10 : decode cX7_glove 10 = .ok (.goto 24, 3) := by decide +kernel
theorem dX7_glove_13 : decode cX7_glove 13 = .ok (.iload_n 2, 1) := by decide +kernel
theorem dX7_glove_14 : decode cX7_glove 14 = .ok (.iconst 0, 1) := by decide +kernel
theorem dX7_glove_15 : decode cX7_glove 15 = .ok (.bipush 8, 2) := by decide +kernel
theorem dX7_glove_17 : decode cX7_glove 17 = .ok (.invokestatic 77, 3) := by decide +kernel
theorem dX7_glove_20 : decode cX7_glove 20 = .ok (.ifCond .eq 12, 3) := by decide +kernel
theorem dX7_glove_23 : decode cX7_glove 23 = .ok (.aload_n 0, 1) := by decide +kernel
theorem dX7_glove_24 : decode cX7_glove 24 = .ok (.iload_n 1, 1) := by decide +kernel
theorem dX7_glove_25 : decode cX7_glove 25 = .ok (.iload_n 2, 1) := by decide +kernel
theorem dX7_glove_26 : decode cX7_glove 26 = .ok (.invokevirtual 167, 3) := by decide +kernel
theorem dX7_glove_29 : decode cX7_glove 29 = .ok (.goto 5, 3) := by decide +kernel
theorem dX7_glove_32 : decode cX7_glove 32 = .ok (.bipush (-102), 2) := by decide +kernel
theorem dX7_glove_34 : decode cX7_glove 34 = .ok (.ireturn, 1) := by decide +kernel
theorem dX7_as_0 : decode cX7_as 0 = .ok (.aload_n 0, 1) := by decide +kernel
theorem dX7_as_1 : decode cX7_as 1 = .ok (.iload_n 1, 1) := by decide +kernel
theorem dX7_as_2 : decode cX7_as 2 = .ok (.invokevirtual 164, 3) := by decide +kernel
theorem dX7_as_5 : decode cX7_as 5 = .ok (.ifCond .ne 6, 3) := by decide +kernel
theorem dX7_as_8 : decode cX7_as 8 = .ok (.bipush (-101), 2) := by decide +kernel
theorem dX7_as_10 : decode cX7_as 10 = .ok (.ireturn, 1) := by decide +kernel
theorem dX7_as_11 : decode cX7_as 11 = .ok (.iload_n 2, 1) := by decide +kernel
theorem dX7_as_12 : decode cX7_as 12 = .ok (.iconst 0, 1) := by decide +kernel
theorem dX7_as_13 : decode cX7_as 13 = .ok (.iconst 4, 1) := by decide +kernel
theorem dX7_as_14 : decode cX7_as 14 = .ok (.invokestatic 77, 3) := by decide +kernel
theorem dX7_as_17 : decode cX7_as 17 = .ok (.ifCond .ne 6, 3) := by decide +kernel
theorem dX7_as_20 : decode cX7_as 20 = .ok (.bipush (-102), 2) := by decide +kernel
theorem dX7_as_22 : decode cX7_as 22 = .ok (.ireturn, 1) := by decide +kernel
theorem dX7_as_23 : decode cX7_as 23 = .ok (.aload_n 0, 1) := by decide +kernel
theorem dX7_as_24 : decode cX7_as 24 = .ok (.getfield 7, 3) := by decide +kernel
theorem dX7_as_27 : decode cX7_as 27 = .ok (.iload_n 1, 1) := by decide +kernel
theorem dX7_as_28 : decode cX7_as 28 = .ok (.iaload, 1) := by decide +kernel
theorem dX7_as_29 : decode cX7_as 29 = .ok (.istore_n 3, 1) := by decide +kernel
theorem dX7_as_30 : decode cX7_as 30 = .ok (.iload_n 2, 1) := by decide +kernel
theorem dX7_as_31 : decode cX7_as 31 = .ok (.ifCond .eq 18, 3) := by decide +kernel
theorem dX7_as_34 : decode cX7_as 34 = .ok (.iload_n 3, 1) := by decide +kernel
theorem dX7_as_35 : decode cX7_as 35 = .ok (.iload_n 2, 1) := by decide +kernel
theorem dX7_as_36 : decode cX7_as 36 = .ok (.if_icmp .eq 13, 3) := by decide +kernel
theorem dX7_as_39 : decode cX7_as 39 = .ok (.iload_n 2, 1) := by decide +kernel
theorem dX7_as_40 : decode cX7_as 40 = .ok (.iconst 1, 1) := by decide +kernel
theorem dX7_as_41 : decode cX7_as 41 = .ok (.if_icmp .ne 12, 3) := by decide +kernel
theorem dX7_as_44 : decode cX7_as 44 = .ok (.iload_n 3, 1) := by decide +kernel
theorem dX7_as_45 : decode cX7_as 45 = .ok (.iconst 4, 1) := by decide +kernel
theorem dX7_as_46 : decode cX7_as 46 = .ok (.if_icmp .ne 7, 3) := by decide +kernel
theorem dX7_as_49 : decode cX7_as 49 = .ok (.iload_n 1, 1) := by decide +kernel
theorem dX7_as_50 : decode cX7_as 50 = .ok (.goto 4, 3) := by decide +kernel
theorem dX7_as_53 : decode cX7_as 53 = .ok (.iconst (-1), 1) := by decide +kernel
theorem dX7_as_54 : decode cX7_as 54 = .ok (.ireturn, 1) := by decide +kernel
theorem dX7_onHand_0 : decode cX7_onHand 0 = .ok (.iconst (-1), 1) := by decide +kernel
theorem dX7_onHand_1 : decode cX7_onHand 1 = .ok (.istore_n 2, 1) := by decide +kernel
theorem dX7_onHand_2 : decode cX7_onHand 2 = .ok (.iconst 0, 1) := by decide +kernel
theorem dX7_onHand_3 : decode cX7_onHand 3 = .ok (.istore_n 3, 1) := by decide +kernel
theorem dX7_onHand_4 : decode cX7_onHand 4 = .ok (.iload_n 3, 1) := by decide +kernel
theorem dX7_onHand_5 : decode cX7_onHand 5 = .ok (.aload_n 0, 1) := by decide +kernel
theorem dX7_onHand_6 : decode cX7_onHand 6 = .ok (.getfield 113, 3) := by decide +kernel
theorem dX7_onHand_9 : decode cX7_onHand 9 = .ok (.if_icmp .ge 25, 3) := by decide +kernel
theorem dX7_onHand_12 : decode cX7_onHand 12 = .ok (.aload_n 0, 1) := by decide +kernel
theorem dX7_onHand_13 : decode cX7_onHand 13 = .ok (.getfield 19, 3) := by decide +kernel
theorem dX7_onHand_16 : decode cX7_onHand 16 = .ok (.iload_n 3, 1) := by decide +kernel
theorem dX7_onHand_17 : decode cX7_onHand 17 = .ok (.iaload, 1) := by decide +kernel
theorem dX7_onHand_18 : decode cX7_onHand 18 = .ok (.iload_n 1, 1) := by decide +kernel
theorem dX7_onHand_19 : decode cX7_onHand 19 = .ok (.if_icmp .ne 7, 3) := by decide +kernel
theorem dX7_onHand_22 : decode cX7_onHand 22 = .ok (.iload_n 3, 1) := by decide +kernel
theorem dX7_onHand_23 : decode cX7_onHand 23 = .ok (.goto 4, 3) := by decide +kernel
theorem dX7_onHand_26 : decode cX7_onHand 26 = .ok (.iload_n 2, 1) := by decide +kernel
theorem dX7_onHand_27 : decode cX7_onHand 27 = .ok (.istore_n 2, 1) := by decide +kernel
theorem dX7_onHand_28 : decode cX7_onHand 28 = .ok (.iinc 3 1, 3) := by decide +kernel
theorem dX7_onHand_31 : decode cX7_onHand 31 = .ok (.goto (-27), 3) := by decide +kernel
theorem dX7_onHand_34 : decode cX7_onHand 34 = .ok (.iload_n 2, 1) := by decide +kernel
theorem dX7_onHand_35 : decode cX7_onHand 35 = .ok (.ireturn, 1) := by decide +kernel
theorem dX7_wearerNow_0 : decode cX7_wearerNow 0 = .ok (.iload_n 2, 1) := by decide +kernel
theorem dX7_wearerNow_1 : decode cX7_wearerNow 1 = .ok (.tableswitch 103 0 6 #[43, 50, 56, 56, 68, 77, 84], 43) := by decide +kernel
theorem dX7_wearerNow_44 : decode cX7_wearerNow 44 = .ok (.aload_n 0, 1) := by decide +kernel
theorem dX7_wearerNow_45 : decode cX7_wearerNow 45 = .ok (.getfield 22, 3) := by decide +kernel
theorem dX7_wearerNow_48 : decode cX7_wearerNow 48 = .ok (.iload_n 1, 1) := by decide +kernel
theorem dX7_wearerNow_49 : decode cX7_wearerNow 49 = .ok (.iaload, 1) := by decide +kernel
theorem dX7_wearerNow_50 : decode cX7_wearerNow 50 = .ok (.ireturn, 1) := by decide +kernel
theorem dX7_wearerNow_51 : decode cX7_wearerNow 51 = .ok (.aload_n 0, 1) := by decide +kernel
theorem dX7_wearerNow_52 : decode cX7_wearerNow 52 = .ok (.iload_n 1, 1) := by decide +kernel
theorem dX7_wearerNow_53 : decode cX7_wearerNow 53 = .ok (.invokevirtual 170, 3) := by decide +kernel
theorem dX7_wearerNow_56 : decode cX7_wearerNow 56 = .ok (.ireturn, 1) := by decide +kernel
theorem dX7_wearerNow_57 : decode cX7_wearerNow 57 = .ok (.aload_n 0, 1) := by decide +kernel
theorem dX7_wearerNow_58 : decode cX7_wearerNow 58 = .ok (.iconst 2, 1) := by decide +kernel
theorem dX7_wearerNow_59 : decode cX7_wearerNow 59 = .ok (.iload_n 1, 1) := by decide +kernel
theorem dX7_wearerNow_60 : decode cX7_wearerNow 60 = .ok (.imul, 1) := by decide +kernel
theorem dX7_wearerNow_61 : decode cX7_wearerNow 61 = .ok (.iload_n 2, 1) := by decide +kernel
theorem dX7_wearerNow_62 : decode cX7_wearerNow 62 = .ok (.iadd, 1) := by decide +kernel
theorem dX7_wearerNow_63 : decode cX7_wearerNow 63 = .ok (.iconst 2, 1) := by decide +kernel
theorem dX7_wearerNow_64 : decode cX7_wearerNow 64 = .ok (.isub, 1) := by decide +kernel
theorem dX7_wearerNow_65 : decode cX7_wearerNow 65 = .ok (.invokevirtual 173, 3) := by decide +kernel
theorem dX7_wearerNow_68 : decode cX7_wearerNow 68 = .ok (.ireturn, 1) := by decide +kernel
theorem dX7_wearerNow_69 : decode cX7_wearerNow 69 = .ok (.aload_n 0, 1) := by decide +kernel
theorem dX7_wearerNow_70 : decode cX7_wearerNow 70 = .ok (.iload_n 1, 1) := by decide +kernel
theorem dX7_wearerNow_71 : decode cX7_wearerNow 71 = .ok (.invokevirtual 170, 3) := by decide +kernel
theorem dX7_wearerNow_74 : decode cX7_wearerNow 74 = .ok (.invokestatic 152, 3) := by decide +kernel
theorem dX7_wearerNow_77 : decode cX7_wearerNow 77 = .ok (.ireturn, 1) := by decide +kernel
theorem dX7_wearerNow_78 : decode cX7_wearerNow 78 = .ok (.aload_n 0, 1) := by decide +kernel
theorem dX7_wearerNow_79 : decode cX7_wearerNow 79 = .ok (.getfield 25, 3) := by decide +kernel
theorem dX7_wearerNow_82 : decode cX7_wearerNow 82 = .ok (.iload_n 1, 1) := by decide +kernel
theorem dX7_wearerNow_83 : decode cX7_wearerNow 83 = .ok (.iaload, 1) := by decide +kernel
theorem dX7_wearerNow_84 : decode cX7_wearerNow 84 = .ok (.ireturn, 1) := by decide +kernel
theorem dX7_wearerNow_85 : decode cX7_wearerNow 85 = .ok (.aload_n 0, 1) := by decide +kernel
theorem dX7_wearerNow_86 : decode cX7_wearerNow 86 = .ok (.iload_n 1, 1) := by decide +kernel
theorem dX7_wearerNow_87 : decode cX7_wearerNow 87 = .ok (.aload_n 0, 1) := by decide +kernel
theorem dX7_wearerNow_88 : decode cX7_wearerNow 88 = .ok (.iload_n 1, 1) := by decide +kernel
theorem dX7_wearerNow_89 : decode cX7_wearerNow 89 = .ok (.invokevirtual 170, 3) := by decide +kernel
theorem dX7_wearerNow_92 : decode cX7_wearerNow 92 = .ok (.invokevirtual 176, 3) := by decide +kernel
theorem dX7_wearerNow_95 : decode cX7_wearerNow 95 = .ok (.ifCond .eq 7, 3) := by decide +kernel
theorem dX7_wearerNow_98 : decode cX7_wearerNow 98 = .ok (.iconst 1, 1) := by decide +kernel
theorem dX7_wearerNow_99 : decode cX7_wearerNow 99 = .ok (.goto 4, 3) := by decide +kernel
theorem dX7_wearerNow_102 : decode cX7_wearerNow 102 = .ok (.iconst 0, 1) := by decide +kernel
theorem dX7_wearerNow_103 : decode cX7_wearerNow 103 = .ok (.ireturn, 1) := by decide +kernel
theorem dX7_wearerNow_104 : decode cX7_wearerNow 104 = .ok (.aload_n 0, 1) := by decide +kernel
theorem dX7_wearerNow_105 : decode cX7_wearerNow 105 = .ok (.iload_n 1, 1) := by decide +kernel
theorem dX7_wearerNow_106 : decode cX7_wearerNow 106 = .ok (.iload_n 2, 1) := by decide +kernel
theorem dX7_wearerNow_107 : decode cX7_wearerNow 107 = .ok (.bipush 7, 2) := by decide +kernel
theorem dX7_wearerNow_109 : decode cX7_wearerNow 109 = .ok (.isub, 1) := by decide +kernel
theorem dX7_wearerNow_110 : decode cX7_wearerNow 110 = .ok (.invokevirtual 179, 3) := by decide +kernel
theorem dX7_wearerNow_113 : decode cX7_wearerNow 113 = .ok (.ireturn, 1) := by decide +kernel
theorem dX7_wearer_0 : decode cX7_wearer 0 = .ok (.aload_n 0, 1) := by decide +kernel
theorem dX7_wearer_1 : decode cX7_wearer 1 = .ok (.iload_n 1, 1) := by decide +kernel
theorem dX7_wearer_2 : decode cX7_wearer 2 = .ok (.invokevirtual 182, 3) := by decide +kernel
theorem dX7_wearer_5 : decode cX7_wearer 5 = .ok (.ifCond .ne 8, 3) := by decide +kernel
theorem dX7_wearer_8 : decode cX7_wearer 8 = .ok (.bipush (-101), 2) := by decide +kernel
theorem dX7_wearer_10 : decode cX7_wearer 10 = .ok (.goto 24, 3) := by decide +kernel
theorem dX7_wearer_13 : decode cX7_wearer 13 = .ok (.iload_n 2, 1) := by decide +kernel
theorem dX7_wearer_14 : decode cX7_wearer 14 = .ok (.iconst 0, 1) := by decide +kernel
theorem dX7_wearer_15 : decode cX7_wearer 15 = .ok (.bipush 8, 2) := by decide +kernel
theorem dX7_wearer_17 : decode cX7_wearer 17 = .ok (.invokestatic 77, 3) := by decide +kernel
theorem dX7_wearer_20 : decode cX7_wearer 20 = .ok (.ifCond .eq 12, 3) := by decide +kernel
theorem dX7_wearer_23 : decode cX7_wearer 23 = .ok (.aload_n 0, 1) := by decide +kernel
theorem dX7_wearer_24 : decode cX7_wearer 24 = .ok (.iload_n 1, 1) := by decide +kernel
theorem dX7_wearer_25 : decode cX7_wearer 25 = .ok (.iload_n 2, 1) := by decide +kernel
theorem dX7_wearer_26 : decode cX7_wearer 26 = .ok (.invokevirtual 185, 3) := by decide +kernel
theorem dX7_wearer_29 : decode cX7_wearer 29 = .ok (.goto 5, 3) := by decide +kernel
theorem dX7_wearer_32 : decode cX7_wearer 32 = .ok (.bipush (-102), 2) := by decide +kernel
theorem dX7_wearer_34 : decode cX7_wearer 34 = .ok (.ireturn, 1) := by decide +kernel
theorem dX7_wear_0 : decode cX7_wear 0 = .ok (.aload_n 0, 1) := by decide +kernel
theorem dX7_wear_1 : decode cX7_wear 1 = .ok (.iload_n 1, 1) := by decide +kernel
theorem dX7_wear_2 : decode cX7_wear 2 = .ok (.invokevirtual 164, 3) := by decide +kernel
theorem dX7_wear_5 : decode cX7_wear 5 = .ok (.ifCond .eq 11, 3) := by decide +kernel
theorem dX7_wear_8 : decode cX7_wear 8 = .ok (.aload_n 0, 1) := by decide +kernel
theorem dX7_wear_9 : decode cX7_wear 9 = .ok (.iload_n 2, 1) := by decide +kernel
theorem dX7_wear_10 : decode cX7_wear 10 = .ok (.invokevirtual 182, 3) := by decide +kernel
theorem dX7_wear_13 : decode cX7_wear 13 = .ok (.ifCond .ne 6, 3) := by decide +kernel
theorem dX7_wear_16 : decode cX7_wear 16 = .ok (.bipush (-101), 2) := by decide +kernel
theorem dX7_wear_18 : decode cX7_wear 18 = .ok (.ireturn, 1) := by decide +kernel
theorem dX7_wear_19 : decode cX7_wear 19 = .ok (.iload_n 3, 1) := by decide +kernel
theorem dX7_wear_20 : decode cX7_wear 20 = .ok (.iconst 0, 1) := by decide +kernel
theorem dX7_wear_21 : decode cX7_wear 21 = .ok (.iconst 1, 1) := by decide +kernel
theorem dX7_wear_22 : decode cX7_wear 22 = .ok (.invokestatic 77, 3) := by decide +kernel
theorem dX7_wear_25 : decode cX7_wear 25 = .ok (.ifCond .ne 6, 3) := by decide +kernel
theorem dX7_wear_28 : decode cX7_wear 28 = .ok (.bipush (-102), 2) := by decide +kernel
theorem dX7_wear_30 : decode cX7_wear 30 = .ok (.ireturn, 1) := by decide +kernel
theorem dX7_wear_31 : decode cX7_wear 31 = .ok (.aload_n 0, 1) := by decide +kernel
theorem dX7_wear_32 : decode cX7_wear 32 = .ok (.getfield 19, 3) := by decide +kernel
theorem dX7_wear_35 : decode cX7_wear 35 = .ok (.iload_n 1, 1) := by decide +kernel
theorem dX7_wear_36 : decode cX7_wear 36 = .ok (.iaload, 1) := by decide +kernel
theorem dX7_wear_37 : decode cX7_wear 37 = .ok (.iconst (-1), 1) := by decide +kernel
theorem dX7_wear_38 : decode cX7_wear 38 = .ok (.if_icmp .ne 16, 3) := by decide +kernel
theorem dX7_wear_41 : decode cX7_wear 41 = .ok (.aload_n 0, 1) := by decide +kernel
theorem dX7_wear_42 : decode cX7_wear 42 = .ok (.iconst 2, 1) := by decide +kernel
theorem dX7_wear_43 : decode cX7_wear 43 = .ok (.iload_n 2, 1) := by decide +kernel
theorem dX7_wear_44 : decode cX7_wear 44 = .ok (.imul, 1) := by decide +kernel
theorem dX7_wear_45 : decode cX7_wear 45 = .ok (.iload_n 3, 1) := by decide +kernel
theorem dX7_wear_46 : decode cX7_wear 46 = .ok (.iadd, 1) := by decide +kernel
theorem dX7_wear_47 : decode cX7_wear 47 = .ok (.invokevirtual 173, 3) := by decide +kernel
theorem dX7_wear_50 : decode cX7_wear 50 = .ok (.iconst (-1), 1) := by decide +kernel
theorem dX7_wear_51 : decode cX7_wear 51 = .ok (.if_icmp .eq 6, 3) := by decide +kernel
theorem dX7_wear_54 : decode cX7_wear 54 = .ok (.bipush (-103), 2) := by decide +kernel
theorem dX7_wear_56 : decode cX7_wear 56 = .ok (.ireturn, 1) := by decide +kernel
theorem dX7_wear_57 : decode cX7_wear 57 = .ok (.aload_n 0, 1) := by decide +kernel
theorem dX7_wear_58 : decode cX7_wear 58 = .ok (.getfield 19, 3) := by decide +kernel
theorem dX7_wear_61 : decode cX7_wear 61 = .ok (.iload_n 1, 1) := by decide +kernel
theorem dX7_wear_62 : decode cX7_wear 62 = .ok (.iconst 2, 1) := by decide +kernel
theorem dX7_wear_63 : decode cX7_wear 63 = .ok (.iload_n 2, 1) := by decide +kernel
theorem dX7_wear_64 : decode cX7_wear 64 = .ok (.imul, 1) := by decide +kernel
theorem dX7_wear_65 : decode cX7_wear 65 = .ok (.iload_n 3, 1) := by decide +kernel
theorem dX7_wear_66 : decode cX7_wear 66 = .ok (.iadd, 1) := by decide +kernel
theorem dX7_wear_67 : decode cX7_wear 67 = .ok (.iastore, 1) := by decide +kernel
theorem dX7_wear_68 : decode cX7_wear 68 = .ok (.aload_n 0, 1) := by decide +kernel
theorem dX7_wear_69 : decode cX7_wear 69 = .ok (.iload_n 2, 1) := by decide +kernel
theorem dX7_wear_70 : decode cX7_wear 70 = .ok (.invokevirtual 170, 3) := by decide +kernel
theorem dX7_wear_73 : decode cX7_wear 73 = .ok (.ireturn, 1) := by decide +kernel
theorem dX7_off_0 : decode cX7_off 0 = .ok (.aload_n 0, 1) := by decide +kernel
theorem dX7_off_1 : decode cX7_off 1 = .ok (.iload_n 1, 1) := by decide +kernel
theorem dX7_off_2 : decode cX7_off 2 = .ok (.invokevirtual 164, 3) := by decide +kernel
theorem dX7_off_5 : decode cX7_off 5 = .ok (.ifCond .ne 6, 3) := by decide +kernel
theorem dX7_off_8 : decode cX7_off 8 = .ok (.bipush (-101), 2) := by decide +kernel
theorem dX7_off_10 : decode cX7_off 10 = .ok (.ireturn, 1) := by decide +kernel
theorem dX7_off_11 : decode cX7_off 11 = .ok (.aload_n 0, 1) := by decide +kernel
theorem dX7_off_12 : decode cX7_off 12 = .ok (.getfield 19, 3) := by decide +kernel
theorem dX7_off_15 : decode cX7_off 15 = .ok (.iload_n 1, 1) := by decide +kernel
theorem dX7_off_16 : decode cX7_off 16 = .ok (.iaload, 1) := by decide +kernel
theorem dX7_off_17 : decode cX7_off 17 = .ok (.iconst (-1), 1) := by decide +kernel
theorem dX7_off_18 : decode cX7_off 18 = .ok (.if_icmp .ne 6, 3) := by decide +kernel
theorem dX7_off_21 : decode cX7_off 21 = .ok (.bipush (-103), 2) := by decide +kernel
theorem dX7_off_23 : decode cX7_off 23 = .ok (.ireturn, 1) := by decide +kernel
theorem dX7_off_24 : decode cX7_off 24 = .ok (.aload_n 0, 1) := by decide +kernel
theorem dX7_off_25 : decode cX7_off 25 = .ok (.getfield 19, 3) := by decide +kernel
theorem dX7_off_28 : decode cX7_off 28 = .ok (.iload_n 1, 1) := by decide +kernel
theorem dX7_off_29 : decode cX7_off 29 = .ok (.iaload, 1) := by decide +kernel
theorem dX7_off_30 : decode cX7_off 30 = .ok (.iconst 2, 1) := by decide +kernel
theorem dX7_off_31 : decode cX7_off 31 = .ok (.idiv, 1) := by decide +kernel
theorem dX7_off_32 : decode cX7_off 32 = .ok (.istore_n 2, 1) := by decide +kernel
theorem dX7_off_33 : decode cX7_off 33 = .ok (.aload_n 0, 1) := by decide +kernel
theorem dX7_off_34 : decode cX7_off 34 = .ok (.getfield 19, 3) := by decide +kernel
theorem dX7_off_37 : decode cX7_off 37 = .ok (.iload_n 1, 1) := by decide +kernel
theorem dX7_off_38 : decode cX7_off 38 = .ok (.iconst (-1), 1) := by decide +kernel
theorem dX7_off_39 : decode cX7_off 39 = .ok (.iastore, 1) := by decide +kernel
theorem dX7_off_40 : decode cX7_off 40 = .ok (.iload_n 2, 1) := by decide +kernel
theorem dX7_off_41 : decode cX7_off 41 = .ok (.ireturn, 1) := by decide +kernel
theorem dX7_goBy_0 : decode cX7_goBy 0 = .ok (.iconst 0, 1) := by decide +kernel
theorem dX7_goBy_1 : decode cX7_goBy 1 = .ok (.istore_n 1, 1) := by decide +kernel
theorem dX7_goBy_2 : decode cX7_goBy 2 = .ok (.iload_n 1, 1) := by decide +kernel
theorem dX7_goBy_3 : decode cX7_goBy 3 = .ok (.aload_n 0, 1) := by decide +kernel
theorem dX7_goBy_4 : decode cX7_goBy 4 = .ok (.getfield 113, 3) := by decide +kernel
theorem dX7_goBy_7 : decode cX7_goBy 7 = .ok (.if_icmp .ge 40, 3) := by decide +kernel
theorem dX7_goBy_10 : decode cX7_goBy 10 = .ok (.aload_n 0, 1) := by decide +kernel
theorem dX7_goBy_11 : decode cX7_goBy 11 = .ok (.getfield 16, 3) := by decide +kernel
theorem dX7_goBy_14 : decode cX7_goBy 14 = .ok (.iload_n 1, 1) := by decide +kernel
theorem dX7_goBy_15 : decode cX7_goBy 15 = .ok (.aload_n 0, 1) := by decide +kernel
theorem dX7_goBy_16 : decode cX7_goBy 16 = .ok (.getfield 19, 3) := by decide +kernel
theorem dX7_goBy_19 : decode cX7_goBy 19 = .ok (.iload_n 1, 1) := by decide +kernel
theorem dX7_goBy_20 : decode cX7_goBy 20 = .ok (.iaload, 1) := by decide +kernel
theorem dX7_goBy_21 : decode cX7_goBy 21 = .ok (.iconst (-1), 1) := by decide +kernel
theorem dX7_goBy_22 : decode cX7_goBy 22 = .ok (.if_icmp .ne 12, 3) := by decide +kernel
theorem dX7_goBy_25 : decode cX7_goBy 25 = .ok (.aload_n 0, 1) := by decide +kernel
theorem dX7_goBy_26 : decode cX7_goBy 26 = .ok (.getfield 16, 3) := by decide +kernel
theorem dX7_goBy_29 : decode cX7_goBy 29 = .ok (.iload_n 1, 1) := by decide +kernel
theorem dX7_goBy_30 : decode cX7_goBy 30 = .ok (.iaload, 1) := by decide +kernel
theorem dX7_goBy_31 : decode cX7_goBy 31 = .ok (.goto 9, 3) := by decide +kernel
theorem dX7_goBy_34 : decode cX7_goBy 34 = .ok (.aload_n 0, 1) := by decide +kernel
theorem dX7_goBy_35 : decode cX7_goBy 35 = .ok (.iload_n 1, 1) := by decide +kernel
theorem dX7_goBy_36 : decode cX7_goBy 36 = .ok (.iconst 1, 1) := by decide +kernel
theorem dX7_goBy_37 : decode cX7_goBy 37 = .ok (.invokevirtual 128, 3) := by decide +kernel
theorem dX7_goBy_40 : decode cX7_goBy 40 = .ok (.iastore, 1) := by decide +kernel
theorem dX7_goBy_41 : decode cX7_goBy 41 = .ok (.iinc 1 1, 3) := by decide +kernel
theorem dX7_goBy_44 : decode cX7_goBy 44 = .ok (.goto (-42), 3) := by decide +kernel
theorem dX7_goBy_47 : decode cX7_goBy 47 = .ok (.return_, 1) := by decide +kernel
theorem dX7_hour_0 : decode cX7_hour 0 = .ok (.aload_n 0, 1) := by decide +kernel
theorem dX7_hour_1 : decode cX7_hour 1 = .ok (.getfield 113, 3) := by decide +kernel
theorem dX7_hour_4 : decode cX7_hour 4 = .ok (.ifCond .ne 6, 3) := by decide +kernel
theorem dX7_hour_7 : decode cX7_hour 7 = .ok (.bipush (-103), 2) := by decide +kernel
theorem dX7_hour_9 : decode cX7_hour 9 = .ok (.ireturn, 1) := by decide +kernel
theorem dX7_hour_10 : decode cX7_hour 10 = .ok (.aload_n 0, 1) := by decide +kernel
theorem dX7_hour_11 : decode cX7_hour 11 = .ok (.getfield 119, 3) := by decide +kernel
theorem dX7_hour_14 : decode cX7_hour 14 = .ok (.sipush 999, 3) := by decide +kernel
theorem dX7_hour_17 : decode cX7_hour 17 = .ok (.if_icmp .ne 6, 3) := by decide +kernel
theorem dX7_hour_20 : decode cX7_hour 20 = .ok (.bipush (-104), 2) := by decide +kernel
theorem dX7_hour_22 : decode cX7_hour 22 = .ok (.ireturn, 1) := by decide +kernel
theorem dX7_hour_23 : decode cX7_hour 23 = .ok (.aload_n 0, 1) := by decide +kernel
theorem dX7_hour_24 : decode cX7_hour 24 = .ok (.invokevirtual 188, 3) := by decide +kernel
theorem dX7_hour_27 : decode cX7_hour 27 = .ok (.aload_n 0, 1) := by decide +kernel
theorem dX7_hour_28 : decode cX7_hour 28 = .ok (.dup, 1) := by decide +kernel
theorem dX7_hour_29 : decode cX7_hour 29 = .ok (.getfield 119, 3) := by decide +kernel
theorem dX7_hour_32 : decode cX7_hour 32 = .ok (.iconst 1, 1) := by decide +kernel
theorem dX7_hour_33 : decode cX7_hour 33 = .ok (.iadd, 1) := by decide +kernel
theorem dX7_hour_34 : decode cX7_hour 34 = .ok (.putfield 119, 3) := by decide +kernel
theorem dX7_hour_37 : decode cX7_hour 37 = .ok (.aload_n 0, 1) := by decide +kernel
theorem dX7_hour_38 : decode cX7_hour 38 = .ok (.getfield 119, 3) := by decide +kernel
theorem dX7_hour_41 : decode cX7_hour 41 = .ok (.ireturn, 1) := by decide +kernel
theorem dX7_book_0 : decode cX7_book 0 = .ok (.aload_n 0, 1) := by decide +kernel
theorem dX7_book_1 : decode cX7_book 1 = .ok (.iload_n 1, 1) := by decide +kernel
theorem dX7_book_2 : decode cX7_book 2 = .ok (.invokevirtual 164, 3) := by decide +kernel
theorem dX7_book_5 : decode cX7_book 5 = .ok (.ifCond .ne 6, 3) := by decide +kernel
theorem dX7_book_8 : decode cX7_book 8 = .ok (.bipush (-101), 2) := by decide +kernel
theorem dX7_book_10 : decode cX7_book 10 = .ok (.ireturn, 1) := by decide +kernel
theorem dX7_book_11 : decode cX7_book 11 = .ok (.iload_n 2, 1) := by decide +kernel
theorem dX7_book_12 : decode cX7_book 12 = .ok (.iconst 0, 1) := by decide +kernel
theorem dX7_book_13 : decode cX7_book 13 = .ok (.bipush 9, 2) := by decide +kernel
theorem dX7_book_15 : decode cX7_book 15 = .ok (.invokestatic 77, 3) := by decide +kernel
theorem dX7_book_18 : decode cX7_book 18 = .ok (.ifCond .ne 6, 3) := by decide +kernel
theorem dX7_book_21 : decode cX7_book 21 = .ok (.bipush (-102), 2) := by decide +kernel
theorem dX7_book_23 : decode cX7_book 23 = .ok (.ireturn, 1) := by decide +kernel
theorem dX7_book_24 : decode cX7_book 24 = .ok (.aload_n 0, 1) := by decide +kernel
theorem dX7_book_25 : decode cX7_book 25 = .ok (.getfield 13, 3) := by decide +kernel
theorem dX7_book_28 : decode cX7_book 28 = .ok (.iload_n 1, 1) := by decide +kernel
theorem dX7_book_29 : decode cX7_book 29 = .ok (.iaload, 1) := by decide +kernel
theorem dX7_book_30 : decode cX7_book 30 = .ok (.istore_n 3, 1) := by decide +kernel
theorem dX7_book_31 : decode cX7_book 31 = .ok (.aload_n 0, 1) := by decide +kernel
theorem dX7_book_32 : decode cX7_book 32 = .ok (.getfield 13, 3) := by decide +kernel
theorem dX7_book_35 : decode cX7_book 35 = .ok (.iload_n 1, 1) := by decide +kernel
theorem dX7_book_36 : decode cX7_book 36 = .ok (.iload_n 2, 1) := by decide +kernel
theorem dX7_book_37 : decode cX7_book 37 = .ok (.iastore, 1) := by decide +kernel
theorem dX7_book_38 : decode cX7_book 38 = .ok (.iload_n 3, 1) := by decide +kernel
theorem dX7_book_39 : decode cX7_book 39 = .ok (.ireturn, 1) := by decide +kernel
theorem dX7_wish_0 : decode cX7_wish 0 = .ok (.aload_n 0, 1) := by decide +kernel
theorem dX7_wish_1 : decode cX7_wish 1 = .ok (.iload_n 1, 1) := by decide +kernel
theorem dX7_wish_2 : decode cX7_wish 2 = .ok (.invokevirtual 182, 3) := by decide +kernel
theorem dX7_wish_5 : decode cX7_wish 5 = .ok (.ifCond .ne 6, 3) := by decide +kernel
theorem dX7_wish_8 : decode cX7_wish 8 = .ok (.bipush (-101), 2) := by decide +kernel
theorem dX7_wish_10 : decode cX7_wish 10 = .ok (.ireturn, 1) := by decide +kernel
theorem dX7_wish_11 : decode cX7_wish 11 = .ok (.iload_n 2, 1) := by decide +kernel
theorem dX7_wish_12 : decode cX7_wish 12 = .ok (.iconst 0, 1) := by decide +kernel
theorem dX7_wish_13 : decode cX7_wish 13 = .ok (.bipush 9, 2) := by decide +kernel
theorem dX7_wish_15 : decode cX7_wish 15 = .ok (.invokestatic 77, 3) := by decide +kernel
theorem dX7_wish_18 : decode cX7_wish 18 = .ok (.ifCond .eq 12, 3) := by decide +kernel
theorem dX7_wish_21 : decode cX7_wish 21 = .ok (.iload_n 3, 1) := by decide +kernel
theorem dX7_wish_22 : decode cX7_wish 22 = .ok (.iconst 0, 1) := by decide +kernel
theorem dX7_wish_23 : decode cX7_wish 23 = .ok (.iconst 2, 1) := by decide +kernel
theorem dX7_wish_24 : decode cX7_wish 24 = .ok (.invokestatic 77, 3) := by decide +kernel
theorem dX7_wish_27 : decode cX7_wish 27 = .ok (.ifCond .ne 6, 3) := by decide +kernel
theorem dX7_wish_30 : decode cX7_wish 30 = .ok (.bipush (-102), 2) := by decide +kernel
theorem dX7_wish_32 : decode cX7_wish 32 = .ok (.ireturn, 1) := by decide +kernel
theorem dX7_wish_33 : decode cX7_wish 33 = .ok (.aload_n 0, 1) := by decide +kernel
theorem dX7_wish_34 : decode cX7_wish 34 = .ok (.getfield 25, 3) := by decide +kernel
theorem dX7_wish_37 : decode cX7_wish 37 = .ok (.iload_n 1, 1) := by decide +kernel
theorem dX7_wish_38 : decode cX7_wish 38 = .ok (.iaload, 1) := by decide +kernel
theorem dX7_wish_39 : decode cX7_wish 39 = .ok (.istore 4, 2) := by decide +kernel
theorem dX7_wish_41 : decode cX7_wish 41 = .ok (.aload_n 0, 1) := by decide +kernel
theorem dX7_wish_42 : decode cX7_wish 42 = .ok (.getfield 22, 3) := by decide +kernel
theorem dX7_wish_45 : decode cX7_wish 45 = .ok (.iload_n 1, 1) := by decide +kernel
theorem dX7_wish_46 : decode cX7_wish 46 = .ok (.iload_n 2, 1) := by decide +kernel
theorem dX7_wish_47 : decode cX7_wish 47 = .ok (.iastore, 1) := by decide +kernel
theorem dX7_wish_48 : decode cX7_wish 48 = .ok (.aload_n 0, 1) := by decide +kernel
theorem dX7_wish_49 : decode cX7_wish 49 = .ok (.getfield 25, 3) := by decide +kernel
theorem dX7_wish_52 : decode cX7_wish 52 = .ok (.iload_n 1, 1) := by decide +kernel
theorem dX7_wish_53 : decode cX7_wish 53 = .ok (.iload_n 3, 1) := by decide +kernel
theorem dX7_wish_54 : decode cX7_wish 54 = .ok (.iastore, 1) := by decide +kernel
theorem dX7_wish_55 : decode cX7_wish 55 = .ok (.iload 4, 2) := by decide +kernel
theorem dX7_wish_57 : decode cX7_wish 57 = .ok (.ireturn, 1) := by decide +kernel
theorem dX7_mood_0 : decode cX7_mood 0 = .ok (.aload_n 0, 1) := by decide +kernel
theorem dX7_mood_1 : decode cX7_mood 1 = .ok (.iload_n 1, 1) := by decide +kernel
theorem dX7_mood_2 : decode cX7_mood 2 = .ok (.invokevirtual 182, 3) := by decide +kernel
theorem dX7_mood_5 : decode cX7_mood 5 = .ok (.ifCond .ne 6, 3) := by decide +kernel
theorem dX7_mood_8 : decode cX7_mood 8 = .ok (.bipush (-101), 2) := by decide +kernel
theorem dX7_mood_10 : decode cX7_mood 10 = .ok (.ireturn, 1) := by decide +kernel
theorem dX7_mood_11 : decode cX7_mood 11 = .ok (.iload_n 2, 1) := by decide +kernel
theorem dX7_mood_12 : decode cX7_mood 12 = .ok (.iconst 0, 1) := by decide +kernel
theorem dX7_mood_13 : decode cX7_mood 13 = .ok (.bipush 40, 2) := by decide +kernel
theorem dX7_mood_15 : decode cX7_mood 15 = .ok (.invokestatic 77, 3) := by decide +kernel
theorem dX7_mood_18 : decode cX7_mood 18 = .ok (.ifCond .eq 17, 3) := by decide +kernel
theorem dX7_mood_21 : decode cX7_mood 21 = .ok (.aload_n 0, 1) := by decide +kernel
theorem dX7_mood_22 : decode cX7_mood 22 = .ok (.iload_n 1, 1) := by decide +kernel
theorem dX7_mood_23 : decode cX7_mood 23 = .ok (.aload_n 0, 1) := by decide +kernel
theorem dX7_mood_24 : decode cX7_mood 24 = .ok (.iload_n 1, 1) := by decide +kernel
theorem dX7_mood_25 : decode cX7_mood 25 = .ok (.invokevirtual 146, 3) := by decide +kernel
theorem dX7_mood_28 : decode cX7_mood 28 = .ok (.iload_n 2, 1) := by decide +kernel
theorem dX7_mood_29 : decode cX7_mood 29 = .ok (.invokevirtual 149, 3) := by decide +kernel
theorem dX7_mood_32 : decode cX7_mood 32 = .ok (.goto 5, 3) := by decide +kernel
theorem dX7_mood_35 : decode cX7_mood 35 = .ok (.bipush (-102), 2) := by decide +kernel
theorem dX7_mood_37 : decode cX7_mood 37 = .ok (.ireturn, 1) := by decide +kernel
theorem dX7_begin_0 : decode cX7_begin 0 = .ok (.iconst 0, 1) := by decide +kernel
theorem dX7_begin_1 : decode cX7_begin 1 = .ok (.istore_n 1, 1) := by decide +kernel
theorem dX7_begin_2 : decode cX7_begin 2 = .ok (.iload_n 1, 1) := by decide +kernel
theorem dX7_begin_3 : decode cX7_begin 3 = .ok (.bipush 6, 2) := by decide +kernel
theorem dX7_begin_5 : decode cX7_begin 5 = .ok (.if_icmp .ge 23, 3) := by decide +kernel
theorem dX7_begin_8 : decode cX7_begin 8 = .ok (.aload_n 0, 1) := by decide +kernel
theorem dX7_begin_9 : decode cX7_begin 9 = .ok (.getfield 41, 3) := by decide +kernel
theorem dX7_begin_12 : decode cX7_begin 12 = .ok (.iload_n 1, 1) := by decide +kernel
theorem dX7_begin_13 : decode cX7_begin 13 = .ok (.iconst 0, 1) := by decide +kernel
theorem dX7_begin_14 : decode cX7_begin 14 = .ok (.iastore, 1) := by decide +kernel
theorem dX7_begin_15 : decode cX7_begin 15 = .ok (.aload_n 0, 1) := by decide +kernel
theorem dX7_begin_16 : decode cX7_begin 16 = .ok (.getfield 44, 3) := by decide +kernel
theorem dX7_begin_19 : decode cX7_begin 19 = .ok (.iload_n 1, 1) := by decide +kernel
theorem dX7_begin_20 : decode cX7_begin 20 = .ok (.iconst (-1), 1) := by decide +kernel
theorem dX7_begin_21 : decode cX7_begin 21 = .ok (.iastore, 1) := by decide +kernel
theorem dX7_begin_22 : decode cX7_begin 22 = .ok (.iinc 1 1, 3) := by decide +kernel
theorem dX7_begin_25 : decode cX7_begin 25 = .ok (.goto (-23), 3) := by decide +kernel
theorem dX7_begin_28 : decode cX7_begin 28 = .ok (.return_, 1) := by decide +kernel
theorem dX7_keepRow_0 : decode cX7_keepRow 0 = .ok (.iconst 0, 1) := by decide +kernel
theorem dX7_keepRow_1 : decode cX7_keepRow 1 = .ok (.istore_n 2, 1) := by decide +kernel
theorem dX7_keepRow_2 : decode cX7_keepRow 2 = .ok (.iload_n 2, 1) := by decide +kernel
theorem dX7_keepRow_3 : decode cX7_keepRow 3 = .ok (.aload_n 0, 1) := by decide +kernel
theorem dX7_keepRow_4 : decode cX7_keepRow 4 = .ok (.getfield 113, 3) := by decide +kernel
theorem dX7_keepRow_7 : decode cX7_keepRow 7 = .ok (.if_icmp .ge 23, 3) := by decide +kernel
theorem dX7_keepRow_10 : decode cX7_keepRow 10 = .ok (.aload_n 0, 1) := by decide +kernel
theorem dX7_keepRow_11 : decode cX7_keepRow 11 = .ok (.getfield 44, 3) := by decide +kernel
theorem dX7_keepRow_14 : decode cX7_keepRow 14 = .ok (.iload_n 2, 1) := by decide +kernel
theorem dX7_keepRow_15 : decode cX7_keepRow 15 = .ok (.aload_n 0, 1) := by decide +kernel
theorem dX7_keepRow_16 : decode cX7_keepRow 16 = .ok (.getfield 41, 3) := by decide +kernel
theorem dX7_keepRow_19 : decode cX7_keepRow 19 = .ok (.iload_n 2, 1) := by decide +kernel
theorem dX7_keepRow_20 : decode cX7_keepRow 20 = .ok (.iaload, 1) := by decide +kernel
theorem dX7_keepRow_21 : decode cX7_keepRow 21 = .ok (.iload_n 1, 1) := by decide +kernel
theorem dX7_keepRow_22 : decode cX7_keepRow 22 = .ok (.isub, 1) := by decide +kernel
theorem dX7_keepRow_23 : decode cX7_keepRow 23 = .ok (.iastore, 1) := by decide +kernel
theorem dX7_keepRow_24 : decode cX7_keepRow 24 = .ok (.iinc 2 1, 3) := by decide +kernel
theorem dX7_keepRow_27 : decode cX7_keepRow 27 = .ok (.goto (-25), 3) := by decide +kernel
theorem dX7_keepRow_30 : decode cX7_keepRow 30 = .ok (.return_, 1) := by decide +kernel
theorem dX7_givenTo_0 : decode cX7_givenTo 0 = .ok (.iconst 0, 1) := by decide +kernel
theorem dX7_givenTo_1 : decode cX7_givenTo 1 = .ok (.istore_n 2, 1) := by decide +kernel
theorem dX7_givenTo_2 : decode cX7_givenTo 2 = .ok (.iconst 0, 1) := by decide +kernel
theorem dX7_givenTo_3 : decode cX7_givenTo 3 = .ok (.istore_n 3, 1) := by decide +kernel
theorem dX7_givenTo_4 : decode cX7_givenTo 4 = .ok (.iload_n 3, 1) := by decide +kernel
theorem dX7_givenTo_5 : decode cX7_givenTo 5 = .ok (.aload_n 0, 1) := by decide +kernel
theorem dX7_givenTo_6 : decode cX7_givenTo 6 = .ok (.getfield 113, 3) := by decide +kernel
theorem dX7_givenTo_9 : decode cX7_givenTo 9 = .ok (.if_icmp .ge 31, 3) := by decide +kernel
theorem dX7_givenTo_12 : decode cX7_givenTo 12 = .ok (.iload_n 2, 1) := by decide +kernel
theorem dX7_givenTo_13 : decode cX7_givenTo 13 = .ok (.aload_n 0, 1) := by decide +kernel
theorem dX7_givenTo_14 : decode cX7_givenTo 14 = .ok (.getfield 41, 3) := by decide +kernel
theorem dX7_givenTo_17 : decode cX7_givenTo 17 = .ok (.iload_n 3, 1) := by decide +kernel
theorem dX7_givenTo_18 : decode cX7_givenTo 18 = .ok (.iaload, 1) := by decide +kernel
theorem dX7_givenTo_19 : decode cX7_givenTo 19 = .ok (.iload_n 1, 1) := by decide +kernel
theorem dX7_givenTo_20 : decode cX7_givenTo 20 = .ok (.iconst 1, 1) := by decide +kernel
theorem dX7_givenTo_21 : decode cX7_givenTo 21 = .ok (.iadd, 1) := by decide +kernel
theorem dX7_givenTo_22 : decode cX7_givenTo 22 = .ok (.if_icmp .ne 9, 3) := by decide +kernel
theorem dX7_givenTo_25 : decode cX7_givenTo 25 = .ok (.iconst 1, 1) := by decide +kernel
theorem dX7_givenTo_26 : decode cX7_givenTo 26 = .ok (.iload_n 3, 1) := by decide +kernel
theorem dX7_givenTo_27 : decode cX7_givenTo 27 = .ok (.ishl, 1) := by decide +kernel
theorem dX7_givenTo_28 : decode cX7_givenTo 28 = .ok (.goto 4, 3) := by decide +kernel
theorem dX7_givenTo_31 : decode cX7_givenTo 31 = .ok (.iconst 0, 1) := by decide +kernel
theorem dX7_givenTo_32 : decode cX7_givenTo 32 = .ok (.ior, 1) := by decide +kernel
theorem dX7_givenTo_33 : decode cX7_givenTo 33 = .ok (.istore_n 2, 1) := by decide +kernel
theorem dX7_givenTo_34 : decode cX7_givenTo 34 = .ok (.iinc 3 1, 3) := by decide +kernel
theorem dX7_givenTo_37 : decode cX7_givenTo 37 = .ok (.goto (-33), 3) := by decide +kernel
theorem dX7_givenTo_40 : decode cX7_givenTo 40 = .ok (.iload_n 2, 1) := by decide +kernel
theorem dX7_givenTo_41 : decode cX7_givenTo 41 = .ok (.ireturn, 1) := by decide +kernel
theorem dX7_wishedBy_0 : decode cX7_wishedBy 0 = .ok (.iconst 0, 1) := by decide +kernel
theorem dX7_wishedBy_1 : decode cX7_wishedBy 1 = .ok (.istore_n 1, 1) := by decide +kernel
theorem dX7_wishedBy_2 : decode cX7_wishedBy 2 = .ok (.iconst 0, 1) := by decide +kernel
theorem dX7_wishedBy_3 : decode cX7_wishedBy 3 = .ok (.istore_n 2, 1) := by decide +kernel
theorem dX7_wishedBy_4 : decode cX7_wishedBy 4 = .ok (.iload_n 2, 1) := by decide +kernel
theorem dX7_wishedBy_5 : decode cX7_wishedBy 5 = .ok (.aload_n 0, 1) := by decide +kernel
theorem dX7_wishedBy_6 : decode cX7_wishedBy 6 = .ok (.getfield 116, 3) := by decide +kernel
theorem dX7_wishedBy_9 : decode cX7_wishedBy 9 = .ok (.if_icmp .ge 48, 3) := by decide +kernel
theorem dX7_wishedBy_12 : decode cX7_wishedBy 12 = .ok (.aload_n 0, 1) := by decide +kernel
theorem dX7_wishedBy_13 : decode cX7_wishedBy 13 = .ok (.iload_n 2, 1) := by decide +kernel
theorem dX7_wishedBy_14 : decode cX7_wishedBy 14 = .ok (.invokevirtual 191, 3) := by decide +kernel
theorem dX7_wishedBy_17 : decode cX7_wishedBy 17 = .ok (.istore_n 3, 1) := by decide +kernel
theorem dX7_wishedBy_18 : decode cX7_wishedBy 18 = .ok (.iload_n 3, 1) := by decide +kernel
theorem dX7_wishedBy_19 : decode cX7_wishedBy 19 = .ok (.invokestatic 194, 3) := by decide +kernel
theorem dX7_wishedBy_22 : decode cX7_wishedBy 22 = .ok (.iconst 2, 1) := by decide +kernel
theorem dX7_wishedBy_23 : decode cX7_wishedBy 23 = .ok (.if_icmp .le 5, 3) := by decide +kernel
theorem dX7_wishedBy_26 : decode cX7_wishedBy 26 = .ok (.iconst (-1), 1) := by decide +kernel
theorem dX7_wishedBy_27 : decode cX7_wishedBy 27 = .ok (.ireturn, 1) := by decide +kernel
theorem dX7_wishedBy_28 : decode cX7_wishedBy 28 = .ok (.iload_n 1, 1) := by decide +kernel
theorem dX7_wishedBy_29 : decode cX7_wishedBy 29 = .ok (.aload_n 0, 1) := by decide +kernel
theorem dX7_wishedBy_30 : decode cX7_wishedBy 30 = .ok (.iload_n 2, 1) := by decide +kernel
theorem dX7_wishedBy_31 : decode cX7_wishedBy 31 = .ok (.aload_n 0, 1) := by decide +kernel
theorem dX7_wishedBy_32 : decode cX7_wishedBy 32 = .ok (.iload_n 2, 1) := by decide +kernel
theorem dX7_wishedBy_33 : decode cX7_wishedBy 33 = .ok (.iload_n 3, 1) := by decide +kernel
theorem dX7_wishedBy_34 : decode cX7_wishedBy 34 = .ok (.iconst 0, 1) := by decide +kernel
theorem dX7_wishedBy_35 : decode cX7_wishedBy 35 = .ok (.invokevirtual 149, 3) := by decide +kernel
theorem dX7_wishedBy_38 : decode cX7_wishedBy 38 = .ok (.invokevirtual 176, 3) := by decide +kernel
theorem dX7_wishedBy_41 : decode cX7_wishedBy 41 = .ok (.ifCond .eq 7, 3) := by decide +kernel
theorem dX7_wishedBy_44 : decode cX7_wishedBy 44 = .ok (.iconst 1, 1) := by decide +kernel
theorem dX7_wishedBy_45 : decode cX7_wishedBy 45 = .ok (.goto 4, 3) := by decide +kernel
theorem dX7_wishedBy_48 : decode cX7_wishedBy 48 = .ok (.iconst 0, 1) := by decide +kernel
theorem dX7_wishedBy_49 : decode cX7_wishedBy 49 = .ok (.iadd, 1) := by decide +kernel
theorem dX7_wishedBy_50 : decode cX7_wishedBy 50 = .ok (.istore_n 1, 1) := by decide +kernel
theorem dX7_wishedBy_51 : decode cX7_wishedBy 51 = .ok (.iinc 2 1, 3) := by decide +kernel
theorem dX7_wishedBy_54 : decode cX7_wishedBy 54 = .ok (.goto (-50), 3) := by decide +kernel
theorem dX7_wishedBy_57 : decode cX7_wishedBy 57 = .ok (.iload_n 1, 1) := by decide +kernel
theorem dX7_wishedBy_58 : decode cX7_wishedBy 58 = .ok (.ireturn, 1) := by decide +kernel
theorem dX7_given_0 : decode cX7_given 0 = .ok (.iconst 0, 1) := by decide +kernel
theorem dX7_given_1 : decode cX7_given 1 = .ok (.istore_n 1, 1) := by decide +kernel
theorem dX7_given_2 : decode cX7_given 2 = .ok (.iconst 0, 1) := by decide +kernel
theorem dX7_given_3 : decode cX7_given 3 = .ok (.istore_n 2, 1) := by decide +kernel
theorem dX7_given_4 : decode cX7_given 4 = .ok (.iload_n 2, 1) := by decide +kernel
theorem dX7_given_5 : decode cX7_given 5 = .ok (.aload_n 0, 1) := by decide +kernel
theorem dX7_given_6 : decode cX7_given 6 = .ok (.getfield 113, 3) := by decide +kernel
theorem dX7_given_9 : decode cX7_given 9 = .ok (.if_icmp .ge 26, 3) := by decide +kernel
theorem dX7_given_12 : decode cX7_given 12 = .ok (.iload_n 1, 1) := by decide +kernel
theorem dX7_given_13 : decode cX7_given 13 = .ok (.aload_n 0, 1) := by decide +kernel
theorem dX7_given_14 : decode cX7_given 14 = .ok (.getfield 41, 3) := by decide +kernel
theorem dX7_given_17 : decode cX7_given 17 = .ok (.iload_n 2, 1) := by decide +kernel
theorem dX7_given_18 : decode cX7_given 18 = .ok (.iaload, 1) := by decide +kernel
theorem dX7_given_19 : decode cX7_given 19 = .ok (.ifCond .le 7, 3) := by decide +kernel
theorem dX7_given_22 : decode cX7_given 22 = .ok (.iconst 1, 1) := by decide +kernel
theorem dX7_given_23 : decode cX7_given 23 = .ok (.goto 4, 3) := by decide +kernel
theorem dX7_given_26 : decode cX7_given 26 = .ok (.iconst 0, 1) := by decide +kernel
theorem dX7_given_27 : decode cX7_given 27 = .ok (.iadd, 1) := by decide +kernel
theorem dX7_given_28 : decode cX7_given 28 = .ok (.istore_n 1, 1) := by decide +kernel
theorem dX7_given_29 : decode cX7_given 29 = .ok (.iinc 2 1, 3) := by decide +kernel
theorem dX7_given_32 : decode cX7_given 32 = .ok (.goto (-28), 3) := by decide +kernel
theorem dX7_given_35 : decode cX7_given 35 = .ok (.iload_n 1, 1) := by decide +kernel
theorem dX7_given_36 : decode cX7_given 36 = .ok (.ireturn, 1) := by decide +kernel
theorem dX7_nextGiven_0 : decode cX7_nextGiven 0 = .ok (.aload_n 0, 1) := by decide +kernel
theorem dX7_nextGiven_1 : decode cX7_nextGiven 1 = .ok (.getfield 113, 3) := by decide +kernel
theorem dX7_nextGiven_4 : decode cX7_nextGiven 4 = .ok (.iconst 1, 1) := by decide +kernel
theorem dX7_nextGiven_5 : decode cX7_nextGiven 5 = .ok (.isub, 1) := by decide +kernel
theorem dX7_nextGiven_6 : decode cX7_nextGiven 6 = .ok (.istore_n 1, 1) := by decide +kernel
theorem dX7_nextGiven_7 : decode cX7_nextGiven 7 = .ok (.iload_n 1, 1) := by decide +kernel
theorem dX7_nextGiven_8 : decode cX7_nextGiven 8 = .ok (.ifCond .lt 29, 3) := by decide +kernel
theorem dX7_nextGiven_11 : decode cX7_nextGiven 11 = .ok (.aload_n 0, 1) := by decide +kernel
theorem dX7_nextGiven_12 : decode cX7_nextGiven 12 = .ok (.getfield 41, 3) := by decide +kernel
theorem dX7_nextGiven_15 : decode cX7_nextGiven 15 = .ok (.iload_n 1, 1) := by decide +kernel
theorem dX7_nextGiven_16 : decode cX7_nextGiven 16 = .ok (.iaload, 1) := by decide +kernel
theorem dX7_nextGiven_17 : decode cX7_nextGiven 17 = .ok (.aload_n 0, 1) := by decide +kernel
theorem dX7_nextGiven_18 : decode cX7_nextGiven 18 = .ok (.getfield 116, 3) := by decide +kernel
theorem dX7_nextGiven_21 : decode cX7_nextGiven 21 = .ok (.if_icmp .ne 16, 3) := by decide +kernel
theorem dX7_nextGiven_24 : decode cX7_nextGiven 24 = .ok (.aload_n 0, 1) := by decide +kernel
theorem dX7_nextGiven_25 : decode cX7_nextGiven 25 = .ok (.getfield 41, 3) := by decide +kernel
theorem dX7_nextGiven_28 : decode cX7_nextGiven 28 = .ok (.iload_n 1, 1) := by decide +kernel
theorem dX7_nextGiven_29 : decode cX7_nextGiven 29 = .ok (.iconst 0, 1) := by decide +kernel
theorem dX7_nextGiven_30 : decode cX7_nextGiven 30 = .ok (.iastore, 1) := by decide +kernel
theorem dX7_nextGiven_31 : decode cX7_nextGiven 31 = .ok (.iinc 1 (-1), 3) := by decide +kernel
theorem dX7_nextGiven_34 : decode cX7_nextGiven 34 = .ok (.goto (-27), 3) := by decide +kernel
theorem dX7_nextGiven_37 : decode cX7_nextGiven 37 = .ok (.iload_n 1, 1) := by decide +kernel
theorem dX7_nextGiven_38 : decode cX7_nextGiven 38 = .ok (.ifCond .ge 5, 3) := by decide +kernel
theorem dX7_nextGiven_41 : decode cX7_nextGiven 41 = .ok (.iconst 0, 1) := by decide +kernel
theorem dX7_nextGiven_42 : decode cX7_nextGiven 42 = .ok (.ireturn, 1) := by decide +kernel
theorem dX7_nextGiven_43 : decode cX7_nextGiven 43 = .ok (.aload_n 0, 1) := by decide +kernel
theorem dX7_nextGiven_44 : decode cX7_nextGiven 44 = .ok (.getfield 41, 3) := by decide +kernel
theorem dX7_nextGiven_47 : decode cX7_nextGiven 47 = .ok (.iload_n 1, 1) := by decide +kernel
theorem dX7_nextGiven_48 : decode cX7_nextGiven 48 = .ok (.dup2, 1) := by decide +kernel
theorem dX7_nextGiven_49 : decode cX7_nextGiven 49 = .ok (.iaload, 1) := by decide +kernel
theorem dX7_nextGiven_50 : decode cX7_nextGiven 50 = .ok (.iconst 1, 1) := by decide +kernel
theorem dX7_nextGiven_51 : decode cX7_nextGiven 51 = .ok (.iadd, 1) := by decide +kernel
theorem dX7_nextGiven_52 : decode cX7_nextGiven 52 = .ok (.iastore, 1) := by decide +kernel
theorem dX7_nextGiven_53 : decode cX7_nextGiven 53 = .ok (.iconst 1, 1) := by decide +kernel
theorem dX7_nextGiven_54 : decode cX7_nextGiven 54 = .ok (.ireturn, 1) := by decide +kernel
theorem dX7_dressNow_0 : decode cX7_dressNow 0 = .ok (.aload_n 0, 1) := by decide +kernel
theorem dX7_dressNow_1 : decode cX7_dressNow 1 = .ok (.invokevirtual 197, 3) := by decide +kernel
theorem dX7_dressNow_4 : decode cX7_dressNow 4 = .ok (.iconst (-1), 1) := by decide +kernel
theorem dX7_dressNow_5 : decode cX7_dressNow 5 = .ok (.istore_n 2, 1) := by decide +kernel
theorem dX7_dressNow_6 : decode cX7_dressNow 6 = .ok (.ldc 200, 2) := by decide +kernel
theorem dX7_dressNow_8 : decode cX7_dressNow 8 = .ok (.istore_n 3, 1) := by decide +kernel
theorem dX7_dressNow_9 : decode cX7_dressNow 9 = .ok (.iconst 1, 1) := by decide +kernel
theorem dX7_dressNow_10 : decode cX7_dressNow 10 = .ok (.istore 4, 2) := by decide +kernel
theorem dX7_dressNow_12 : decode cX7_dressNow 12 = .ok (.iload 4, 2) := by decide +kernel
theorem dX7_dressNow_14 : decode cX7_dressNow 14 = .ok (.ifCond .eq 51, 3) := by decide +kernel
theorem dX7_dressNow_17 : decode cX7_dressNow 17 = .ok (.aload_n 0, 1) := by decide +kernel
theorem dX7_dressNow_18 : decode cX7_dressNow 18 = .ok (.invokevirtual 201, 3) := by decide +kernel
theorem dX7_dressNow_21 : decode cX7_dressNow 21 = .ok (.istore 5, 2) := by decide +kernel
theorem dX7_dressNow_23 : decode cX7_dressNow 23 = .ok (.iload 5, 2) := by decide +kernel
theorem dX7_dressNow_25 : decode cX7_dressNow 25 = .ok (.iload_n 2, 1) := by decide +kernel
theorem dX7_dressNow_26 : decode cX7_dressNow 26 = .ok (.if_icmp .gt 17, 3) := by decide +kernel
theorem dX7_dressNow_29 : decode cX7_dressNow 29 = .ok (.iload 5, 2) := by decide +kernel
theorem dX7_dressNow_31 : decode cX7_dressNow 31 = .ok (.iload_n 2, 1) := by decide +kernel
theorem dX7_dressNow_32 : decode cX7_dressNow 32 = .ok (.if_icmp .ne 24, 3) := by decide +kernel
theorem dX7_dressNow_35 : decode cX7_dressNow 35 = .ok (.aload_n 0, 1) := by decide +kernel
theorem dX7_dressNow_36 : decode cX7_dressNow 36 = .ok (.invokevirtual 204, 3) := by decide +kernel
theorem dX7_dressNow_39 : decode cX7_dressNow 39 = .ok (.iload_n 3, 1) := by decide +kernel
theorem dX7_dressNow_40 : decode cX7_dressNow 40 = .ok (.if_icmp .ge 16, 3) := by decide +kernel
theorem dX7_dressNow_43 : decode cX7_dressNow 43 = .ok (.iload 5, 2) := by decide +kernel
theorem dX7_dressNow_45 : decode cX7_dressNow 45 = .ok (.istore_n 2, 1) := by decide +kernel
theorem dX7_dressNow_46 : decode cX7_dressNow 46 = .ok (.aload_n 0, 1) := by decide +kernel
theorem dX7_dressNow_47 : decode cX7_dressNow 47 = .ok (.invokevirtual 204, 3) := by decide +kernel
theorem dX7_dressNow_50 : decode cX7_dressNow 50 = .ok (.istore_n 3, 1) := by decide +kernel
theorem dX7_dressNow_51 : decode cX7_dressNow 51 = .ok (.aload_n 0, 1) := by decide +kernel
theorem dX7_dressNow_52 : decode cX7_dressNow 52 = .ok (.iconst 1, 1) := by decide +kernel
theorem dX7_dressNow_53 : decode cX7_dressNow 53 = .ok (.invokevirtual 207, 3) := by decide +kernel
theorem dX7_dressNow_56 : decode cX7_dressNow 56 = .ok (.aload_n 0, 1) := by decide +kernel
theorem dX7_dressNow_57 : decode cX7_dressNow 57 = .ok (.invokevirtual 211, 3) := by decide +kernel
theorem dX7_dressNow_60 : decode cX7_dressNow 60 = .ok (.istore 4, 2) := by decide +kernel
theorem dX7_dressNow_62 : decode cX7_dressNow 62 = .ok (.goto (-50), 3) := by decide +kernel
theorem dX7_dressNow_65 : decode cX7_dressNow 65 = .ok (.iload_n 1, 1) := by decide +kernel
theorem dX7_dressNow_66 : decode cX7_dressNow 66 = .ok (.ifCond .ne 7, 3) := by decide +kernel
theorem dX7_dressNow_69 : decode cX7_dressNow 69 = .ok (.iload_n 2, 1) := by decide +kernel
theorem dX7_dressNow_70 : decode cX7_dressNow 70 = .ok (.goto 21, 3) := by decide +kernel
theorem dX7_dressNow_73 : decode cX7_dressNow 73 = .ok (.iload_n 1, 1) := by decide +kernel
theorem dX7_dressNow_74 : decode cX7_dressNow 74 = .ok (.iconst 1, 1) := by decide +kernel
theorem dX7_dressNow_75 : decode cX7_dressNow 75 = .ok (.if_icmp .ne 7, 3) := by decide +kernel
theorem dX7_dressNow_78 : decode cX7_dressNow 78 = .ok (.iload_n 3, 1) := by decide +kernel
theorem dX7_dressNow_79 : decode cX7_dressNow 79 = .ok (.goto 12, 3) := by decide +kernel
theorem dX7_dressNow_82 : decode cX7_dressNow 82 = .ok (.aload_n 0, 1) := by decide +kernel
theorem dX7_dressNow_83 : decode cX7_dressNow 83 = .ok (.getfield 44, 3) := by decide +kernel
theorem dX7_dressNow_86 : decode cX7_dressNow 86 = .ok (.iload_n 1, 1) := by decide +kernel
theorem dX7_dressNow_87 : decode cX7_dressNow 87 = .ok (.bipush 10, 2) := by decide +kernel
theorem dX7_dressNow_89 : decode cX7_dressNow 89 = .ok (.isub, 1) := by decide +kernel
theorem dX7_dressNow_90 : decode cX7_dressNow 90 = .ok (.iaload, 1) := by decide +kernel
theorem dX7_dressNow_91 : decode cX7_dressNow 91 = .ok (.ireturn, 1) := by decide +kernel
theorem dX7_dress_0 : decode cX7_dress 0 = .ok (.iload_n 1, 1) := by decide +kernel
theorem dX7_dress_1 : decode cX7_dress 1 = .ok (.iconst 0, 1) := by decide +kernel
theorem dX7_dress_2 : decode cX7_dress 2 = .ok (.iconst 1, 1) := by decide +kernel
theorem dX7_dress_3 : decode cX7_dress 3 = .ok (.invokestatic 77, 3) := by decide +kernel
theorem dX7_dress_6 : decode cX7_dress 6 = .ok (.ifCond .ne 17, 3) := by decide +kernel
theorem dX7_dress_9 : decode cX7_dress 9 = .ok (.iload_n 1, 1) := by decide +kernel
theorem dX7_dress_10 : decode cX7_dress 10 = .ok (.bipush 10, 2) := by decide +kernel
theorem dX7_dress_12 : decode cX7_dress 12 = .ok (.bipush 15, 2) := by decide +kernel
theorem dX7_dress_14 : decode cX7_dress 14 = .ok (.invokestatic 77, 3) := by decide +kernel
theorem dX7_dress_17 : decode cX7_dress 17 = .ok (.ifCond .ne 6, 3) := by decide +kernel
theorem dX7_dress_20 : decode cX7_dress 20 = .ok (.bipush (-102), 2) := by decide +kernel
theorem dX7_dress_22 : decode cX7_dress 22 = .ok (.ireturn, 1) := by decide +kernel
theorem dX7_dress_23 : decode cX7_dress 23 = .ok (.aload_n 0, 1) := by decide +kernel
theorem dX7_dress_24 : decode cX7_dress 24 = .ok (.getfield 113, 3) := by decide +kernel
theorem dX7_dress_27 : decode cX7_dress 27 = .ok (.ifCond .eq 12, 3) := by decide +kernel
theorem dX7_dress_30 : decode cX7_dress 30 = .ok (.aload_n 0, 1) := by decide +kernel
theorem dX7_dress_31 : decode cX7_dress 31 = .ok (.getfield 215, 3) := by decide +kernel
theorem dX7_dress_34 : decode cX7_dress 34 = .ok (.bipush 20, 2) := by decide +kernel
theorem dX7_dress_36 : decode cX7_dress 36 = .ok (.if_icmp .ne 6, 3) := by decide +kernel
theorem dX7_dress_39 : decode cX7_dress 39 = .ok (.bipush (-103), 2) := by decide +kernel
theorem dX7_dress_41 : decode cX7_dress 41 = .ok (.ireturn, 1) := by decide +kernel
theorem dX7_dress_42 : decode cX7_dress 42 = .ok (.aload_n 0, 1) := by decide +kernel
theorem dX7_dress_43 : decode cX7_dress 43 = .ok (.dup, 1) := by decide +kernel
theorem dX7_dress_44 : decode cX7_dress 44 = .ok (.getfield 215, 3) := by decide +kernel
theorem dX7_dress_47 : decode cX7_dress 47 = .ok (.iconst 1, 1) := by decide +kernel
theorem dX7_dress_48 : decode cX7_dress 48 = .ok (.iadd, 1) := by decide +kernel
theorem dX7_dress_49 : decode cX7_dress 49 = .ok (.putfield 215, 3) := by decide +kernel
theorem dX7_dress_52 : decode cX7_dress 52 = .ok (.aload_n 0, 1) := by decide +kernel
theorem dX7_dress_53 : decode cX7_dress 53 = .ok (.iload_n 1, 1) := by decide +kernel
theorem dX7_dress_54 : decode cX7_dress 54 = .ok (.invokevirtual 218, 3) := by decide +kernel
theorem dX7_dress_57 : decode cX7_dress 57 = .ok (.ireturn, 1) := by decide +kernel
theorem dX7_boxesAhead_0 : decode cX7_boxesAhead 0 = .ok (.iconst 0, 1) := by decide +kernel
theorem dX7_boxesAhead_1 : decode cX7_boxesAhead 1 = .ok (.istore_n 2, 1) := by decide +kernel
theorem dX7_boxesAhead_2 : decode cX7_boxesAhead 2 = .ok (.iconst 0, 1) := by decide +kernel
theorem dX7_boxesAhead_3 : decode cX7_boxesAhead 3 = .ok (.istore_n 3, 1) := by decide +kernel
theorem dX7_boxesAhead_4 : decode cX7_boxesAhead 4 = .ok (.iload_n 3, 1) := by decide +kernel
theorem dX7_boxesAhead_5 : decode cX7_boxesAhead 5 = .ok (.iload_n 1, 1) := by decide +kernel
theorem dX7_boxesAhead_6 : decode cX7_boxesAhead 6 = .ok (.if_icmp .ge 34, 3) := by decide +kernel
theorem dX7_boxesAhead_9 : decode cX7_boxesAhead 9 = .ok (.aload_n 0, 1) := by decide +kernel
theorem dX7_boxesAhead_10 : decode cX7_boxesAhead 10 = .ok (.getfield 41, 3) := by decide +kernel
theorem dX7_boxesAhead_13 : decode cX7_boxesAhead 13 = .ok (.iload_n 3, 1) := by decide +kernel
theorem dX7_boxesAhead_14 : decode cX7_boxesAhead 14 = .ok (.iaload, 1) := by decide +kernel
theorem dX7_boxesAhead_15 : decode cX7_boxesAhead 15 = .ok (.iconst 1, 1) := by decide +kernel
theorem dX7_boxesAhead_16 : decode cX7_boxesAhead 16 = .ok (.iadd, 1) := by decide +kernel
theorem dX7_boxesAhead_17 : decode cX7_boxesAhead 17 = .ok (.iload_n 2, 1) := by decide +kernel
theorem dX7_boxesAhead_18 : decode cX7_boxesAhead 18 = .ok (.if_icmp .le 14, 3) := by decide +kernel
theorem dX7_boxesAhead_21 : decode cX7_boxesAhead 21 = .ok (.aload_n 0, 1) := by decide +kernel
theorem dX7_boxesAhead_22 : decode cX7_boxesAhead 22 = .ok (.getfield 41, 3) := by decide +kernel
theorem dX7_boxesAhead_25 : decode cX7_boxesAhead 25 = .ok (.iload_n 3, 1) := by decide +kernel
theorem dX7_boxesAhead_26 : decode cX7_boxesAhead 26 = .ok (.iaload, 1) := by decide +kernel
theorem dX7_boxesAhead_27 : decode cX7_boxesAhead 27 = .ok (.iconst 1, 1) := by decide +kernel
theorem dX7_boxesAhead_28 : decode cX7_boxesAhead 28 = .ok (.iadd, 1) := by decide +kernel
theorem dX7_boxesAhead_29 : decode cX7_boxesAhead 29 = .ok (.goto 4, 3) := by decide +kernel
theorem dX7_boxesAhead_32 : decode cX7_boxesAhead 32 = .ok (.iload_n 2, 1) := by decide +kernel
theorem dX7_boxesAhead_33 : decode cX7_boxesAhead 33 = .ok (.istore_n 2, 1) := by decide +kernel
theorem dX7_boxesAhead_34 : decode cX7_boxesAhead 34 = .ok (.iinc 3 1, 3) := by decide +kernel
theorem dX7_boxesAhead_37 : decode cX7_boxesAhead 37 = .ok (.goto (-33), 3) := by decide +kernel
theorem dX7_boxesAhead_40 : decode cX7_boxesAhead 40 = .ok (.iload_n 2, 1) := by decide +kernel
theorem dX7_boxesAhead_41 : decode cX7_boxesAhead 41 = .ok (.ireturn, 1) := by decide +kernel
theorem dX7_areQuiet_0 : decode cX7_areQuiet 0 = .ok (.iconst 1, 1) := by decide +kernel
theorem dX7_areQuiet_1 : decode cX7_areQuiet 1 = .ok (.istore_n 1, 1) := by decide +kernel
theorem dX7_areQuiet_2 : decode cX7_areQuiet 2 = .ok (.iconst 0, 1) := by decide +kernel
theorem dX7_areQuiet_3 : decode cX7_areQuiet 3 = .ok (.istore_n 2, 1) := by decide +kernel
theorem dX7_areQuiet_4 : decode cX7_areQuiet 4 = .ok (.iload_n 2, 1) := by decide +kernel
theorem dX7_areQuiet_5 : decode cX7_areQuiet 5 = .ok (.aload_n 0, 1) := by decide +kernel
theorem dX7_areQuiet_6 : decode cX7_areQuiet 6 = .ok (.getfield 113, 3) := by decide +kernel
theorem dX7_areQuiet_9 : decode cX7_areQuiet 9 = .ok (.if_icmp .ge 57, 3) := by decide +kernel
theorem dX7_areQuiet_12 : decode cX7_areQuiet 12 = .ok (.iconst 0, 1) := by decide +kernel
theorem dX7_areQuiet_13 : decode cX7_areQuiet 13 = .ok (.istore_n 3, 1) := by decide +kernel
theorem dX7_areQuiet_14 : decode cX7_areQuiet 14 = .ok (.iload_n 3, 1) := by decide +kernel
theorem dX7_areQuiet_15 : decode cX7_areQuiet 15 = .ok (.iload_n 2, 1) := by decide +kernel
theorem dX7_areQuiet_16 : decode cX7_areQuiet 16 = .ok (.if_icmp .ge 44, 3) := by decide +kernel
theorem dX7_areQuiet_19 : decode cX7_areQuiet 19 = .ok (.iload_n 1, 1) := by decide +kernel
theorem dX7_areQuiet_20 : decode cX7_areQuiet 20 = .ok (.ifCond .eq 32, 3) := by decide +kernel
theorem dX7_areQuiet_23 : decode cX7_areQuiet 23 = .ok (.aload_n 0, 1) := by decide +kernel
theorem dX7_areQuiet_24 : decode cX7_areQuiet 24 = .ok (.getfield 41, 3) := by decide +kernel
theorem dX7_areQuiet_27 : decode cX7_areQuiet 27 = .ok (.iload_n 2, 1) := by decide +kernel
theorem dX7_areQuiet_28 : decode cX7_areQuiet 28 = .ok (.iaload, 1) := by decide +kernel
theorem dX7_areQuiet_29 : decode cX7_areQuiet 29 = .ok (.aload_n 0, 1) := by decide +kernel
theorem dX7_areQuiet_30 : decode cX7_areQuiet 30 = .ok (.getfield 41, 3) := by decide +kernel
theorem dX7_areQuiet_33 : decode cX7_areQuiet 33 = .ok (.iload_n 3, 1) := by decide +kernel
theorem dX7_areQuiet_34 : decode cX7_areQuiet 34 = .ok (.iaload, 1) := by decide +kernel
theorem dX7_areQuiet_35 : decode cX7_areQuiet 35 = .ok (.if_icmp .ne 13, 3) := by decide +kernel
theorem dX7_areQuiet_38 : decode cX7_areQuiet 38 = .ok (.aload_n 0, 1) := by decide +kernel
theorem dX7_areQuiet_39 : decode cX7_areQuiet 39 = .ok (.iload_n 2, 1) := by decide +kernel
theorem dX7_areQuiet_40 : decode cX7_areQuiet 40 = .ok (.iload_n 3, 1) := by decide +kernel
theorem dX7_areQuiet_41 : decode cX7_areQuiet 41 = .ok (.iconst 0, 1) := by decide +kernel
theorem dX7_areQuiet_42 : decode cX7_areQuiet 42 = .ok (.invokevirtual 143, 3) := by decide +kernel
theorem dX7_areQuiet_45 : decode cX7_areQuiet 45 = .ok (.ifCond .ne 7, 3) := by decide +kernel
theorem dX7_areQuiet_48 : decode cX7_areQuiet 48 = .ok (.iconst 1, 1) := by decide +kernel
theorem dX7_areQuiet_49 : decode cX7_areQuiet 49 = .ok (.goto 4, 3) := by decide +kernel
theorem dX7_areQuiet_52 : decode cX7_areQuiet 52 = .ok (.iconst 0, 1) := by decide +kernel
theorem dX7_areQuiet_53 : decode cX7_areQuiet 53 = .ok (.istore_n 1, 1) := by decide +kernel
theorem dX7_areQuiet_54 : decode cX7_areQuiet 54 = .ok (.iinc 3 1, 3) := by decide +kernel
theorem dX7_areQuiet_57 : decode cX7_areQuiet 57 = .ok (.goto (-43), 3) := by decide +kernel
theorem dX7_areQuiet_60 : decode cX7_areQuiet 60 = .ok (.iinc 2 1, 3) := by decide +kernel
theorem dX7_areQuiet_63 : decode cX7_areQuiet 63 = .ok (.goto (-59), 3) := by decide +kernel
theorem dX7_areQuiet_66 : decode cX7_areQuiet 66 = .ok (.iload_n 1, 1) := by decide +kernel
theorem dX7_areQuiet_67 : decode cX7_areQuiet 67 = .ok (.ireturn, 1) := by decide +kernel
theorem dX7_nextBoxes_0 : decode cX7_nextBoxes 0 = .ok (.aload_n 0, 1) := by decide +kernel
theorem dX7_nextBoxes_1 : decode cX7_nextBoxes 1 = .ok (.getfield 113, 3) := by decide +kernel
theorem dX7_nextBoxes_4 : decode cX7_nextBoxes 4 = .ok (.iconst 1, 1) := by decide +kernel
theorem dX7_nextBoxes_5 : decode cX7_nextBoxes 5 = .ok (.isub, 1) := by decide +kernel
theorem dX7_nextBoxes_6 : decode cX7_nextBoxes 6 = .ok (.istore_n 1, 1) := by decide +kernel
theorem dX7_nextBoxes_7 : decode cX7_nextBoxes 7 = .ok (.iload_n 1, 1) := by decide +kernel
theorem dX7_nextBoxes_8 : decode cX7_nextBoxes 8 = .ok (.ifCond .lt 30, 3) := by decide +kernel
theorem dX7_nextBoxes_11 : decode cX7_nextBoxes 11 = .ok (.aload_n 0, 1) := by decide +kernel
theorem dX7_nextBoxes_12 : decode cX7_nextBoxes 12 = .ok (.getfield 41, 3) := by decide +kernel
theorem dX7_nextBoxes_15 : decode cX7_nextBoxes 15 = .ok (.iload_n 1, 1) := by decide +kernel
theorem dX7_nextBoxes_16 : decode cX7_nextBoxes 16 = .ok (.iaload, 1) := by decide +kernel
theorem dX7_nextBoxes_17 : decode cX7_nextBoxes 17 = .ok (.aload_n 0, 1) := by decide +kernel
theorem dX7_nextBoxes_18 : decode cX7_nextBoxes 18 = .ok (.iload_n 1, 1) := by decide +kernel
theorem dX7_nextBoxes_19 : decode cX7_nextBoxes 19 = .ok (.invokevirtual 221, 3) := by decide +kernel
theorem dX7_nextBoxes_22 : decode cX7_nextBoxes 22 = .ok (.if_icmp .ne 16, 3) := by decide +kernel
theorem dX7_nextBoxes_25 : decode cX7_nextBoxes 25 = .ok (.aload_n 0, 1) := by decide +kernel
theorem dX7_nextBoxes_26 : decode cX7_nextBoxes 26 = .ok (.getfield 41, 3) := by decide +kernel
theorem dX7_nextBoxes_29 : decode cX7_nextBoxes 29 = .ok (.iload_n 1, 1) := by decide +kernel
theorem dX7_nextBoxes_30 : decode cX7_nextBoxes 30 = .ok (.iconst 0, 1) := by decide +kernel
theorem dX7_nextBoxes_31 : decode cX7_nextBoxes 31 = .ok (.iastore, 1) := by decide +kernel
theorem dX7_nextBoxes_32 : decode cX7_nextBoxes 32 = .ok (.iinc 1 (-1), 3) := by decide +kernel
theorem dX7_nextBoxes_35 : decode cX7_nextBoxes 35 = .ok (.goto (-28), 3) := by decide +kernel
theorem dX7_nextBoxes_38 : decode cX7_nextBoxes 38 = .ok (.iload_n 1, 1) := by decide +kernel
theorem dX7_nextBoxes_39 : decode cX7_nextBoxes 39 = .ok (.ifCond .ge 5, 3) := by decide +kernel
theorem dX7_nextBoxes_42 : decode cX7_nextBoxes 42 = .ok (.iconst 0, 1) := by decide +kernel
theorem dX7_nextBoxes_43 : decode cX7_nextBoxes 43 = .ok (.ireturn, 1) := by decide +kernel
theorem dX7_nextBoxes_44 : decode cX7_nextBoxes 44 = .ok (.aload_n 0, 1) := by decide +kernel
theorem dX7_nextBoxes_45 : decode cX7_nextBoxes 45 = .ok (.getfield 41, 3) := by decide +kernel
theorem dX7_nextBoxes_48 : decode cX7_nextBoxes 48 = .ok (.iload_n 1, 1) := by decide +kernel
theorem dX7_nextBoxes_49 : decode cX7_nextBoxes 49 = .ok (.dup2, 1) := by decide +kernel
theorem dX7_nextBoxes_50 : decode cX7_nextBoxes 50 = .ok (.iaload, 1) := by decide +kernel
theorem dX7_nextBoxes_51 : decode cX7_nextBoxes 51 = .ok (.iconst 1, 1) := by decide +kernel
theorem dX7_nextBoxes_52 : decode cX7_nextBoxes 52 = .ok (.iadd, 1) := by decide +kernel
theorem dX7_nextBoxes_53 : decode cX7_nextBoxes 53 = .ok (.iastore, 1) := by decide +kernel
theorem dX7_nextBoxes_54 : decode cX7_nextBoxes 54 = .ok (.iconst 1, 1) := by decide +kernel
theorem dX7_nextBoxes_55 : decode cX7_nextBoxes 55 = .ok (.ireturn, 1) := by decide +kernel
theorem dX7_boxesNow_0 : decode cX7_boxesNow 0 = .ok (.aload_n 0, 1) := by decide +kernel
theorem dX7_boxesNow_1 : decode cX7_boxesNow 1 = .ok (.invokevirtual 197, 3) := by decide +kernel
theorem dX7_boxesNow_4 : decode cX7_boxesNow 4 = .ok (.ldc 200, 2) := by decide +kernel
theorem dX7_boxesNow_6 : decode cX7_boxesNow 6 = .ok (.istore_n 2, 1) := by decide +kernel
theorem dX7_boxesNow_7 : decode cX7_boxesNow 7 = .ok (.iconst 1, 1) := by decide +kernel
theorem dX7_boxesNow_8 : decode cX7_boxesNow 8 = .ok (.istore_n 3, 1) := by decide +kernel
theorem dX7_boxesNow_9 : decode cX7_boxesNow 9 = .ok (.iload_n 3, 1) := by decide +kernel
theorem dX7_boxesNow_10 : decode cX7_boxesNow 10 = .ok (.ifCond .eq 44, 3) := by decide +kernel
theorem dX7_boxesNow_13 : decode cX7_boxesNow 13 = .ok (.aload_n 0, 1) := by decide +kernel
theorem dX7_boxesNow_14 : decode cX7_boxesNow 14 = .ok (.aload_n 0, 1) := by decide +kernel
theorem dX7_boxesNow_15 : decode cX7_boxesNow 15 = .ok (.getfield 113, 3) := by decide +kernel
theorem dX7_boxesNow_18 : decode cX7_boxesNow 18 = .ok (.invokevirtual 221, 3) := by decide +kernel
theorem dX7_boxesNow_21 : decode cX7_boxesNow 21 = .ok (.iload_n 2, 1) := by decide +kernel
theorem dX7_boxesNow_22 : decode cX7_boxesNow 22 = .ok (.if_icmp .ge 24, 3) := by decide +kernel
theorem dX7_boxesNow_25 : decode cX7_boxesNow 25 = .ok (.aload_n 0, 1) := by decide +kernel
theorem dX7_boxesNow_26 : decode cX7_boxesNow 26 = .ok (.invokevirtual 224, 3) := by decide +kernel
theorem dX7_boxesNow_29 : decode cX7_boxesNow 29 = .ok (.ifCond .eq 17, 3) := by decide +kernel
theorem dX7_boxesNow_32 : decode cX7_boxesNow 32 = .ok (.aload_n 0, 1) := by decide +kernel
theorem dX7_boxesNow_33 : decode cX7_boxesNow 33 = .ok (.aload_n 0, 1) := by decide +kernel
theorem dX7_boxesNow_34 : decode cX7_boxesNow 34 = .ok (.getfield 113, 3) := by decide +kernel
theorem dX7_boxesNow_37 : decode cX7_boxesNow 37 = .ok (.invokevirtual 221, 3) := by decide +kernel
theorem dX7_boxesNow_40 : decode cX7_boxesNow 40 = .ok (.istore_n 2, 1) := by decide +kernel
theorem dX7_boxesNow_41 : decode cX7_boxesNow 41 = .ok (.aload_n 0, 1) := by decide +kernel
theorem dX7_boxesNow_42 : decode cX7_boxesNow 42 = .ok (.iconst 0, 1) := by decide +kernel
theorem dX7_boxesNow_43 : decode cX7_boxesNow 43 = .ok (.invokevirtual 207, 3) := by decide +kernel
theorem dX7_boxesNow_46 : decode cX7_boxesNow 46 = .ok (.aload_n 0, 1) := by decide +kernel
theorem dX7_boxesNow_47 : decode cX7_boxesNow 47 = .ok (.invokevirtual 227, 3) := by decide +kernel
theorem dX7_boxesNow_50 : decode cX7_boxesNow 50 = .ok (.istore_n 3, 1) := by decide +kernel
theorem dX7_boxesNow_51 : decode cX7_boxesNow 51 = .ok (.goto (-42), 3) := by decide +kernel
theorem dX7_boxesNow_54 : decode cX7_boxesNow 54 = .ok (.iload_n 1, 1) := by decide +kernel
theorem dX7_boxesNow_55 : decode cX7_boxesNow 55 = .ok (.ifCond .ne 7, 3) := by decide +kernel
theorem dX7_boxesNow_58 : decode cX7_boxesNow 58 = .ok (.iload_n 2, 1) := by decide +kernel
theorem dX7_boxesNow_59 : decode cX7_boxesNow 59 = .ok (.goto 12, 3) := by decide +kernel
theorem dX7_boxesNow_62 : decode cX7_boxesNow 62 = .ok (.aload_n 0, 1) := by decide +kernel
theorem dX7_boxesNow_63 : decode cX7_boxesNow 63 = .ok (.getfield 44, 3) := by decide +kernel
theorem dX7_boxesNow_66 : decode cX7_boxesNow 66 = .ok (.iload_n 1, 1) := by decide +kernel
theorem dX7_boxesNow_67 : decode cX7_boxesNow 67 = .ok (.bipush 10, 2) := by decide +kernel
theorem dX7_boxesNow_69 : decode cX7_boxesNow 69 = .ok (.isub, 1) := by decide +kernel
theorem dX7_boxesNow_70 : decode cX7_boxesNow 70 = .ok (.iaload, 1) := by decide +kernel
theorem dX7_boxesNow_71 : decode cX7_boxesNow 71 = .ok (.ireturn, 1) := by decide +kernel
theorem dX7_boxes_0 : decode cX7_boxes 0 = .ok (.iload_n 1, 1) := by decide +kernel
theorem dX7_boxes_1 : decode cX7_boxes 1 = .ok (.ifCond .eq 17, 3) := by decide +kernel
theorem dX7_boxes_4 : decode cX7_boxes 4 = .ok (.iload_n 1, 1) := by decide +kernel
theorem dX7_boxes_5 : decode cX7_boxes 5 = .ok (.bipush 10, 2) := by decide +kernel
theorem dX7_boxes_7 : decode cX7_boxes 7 = .ok (.bipush 15, 2) := by decide +kernel
theorem dX7_boxes_9 : decode cX7_boxes 9 = .ok (.invokestatic 77, 3) := by decide +kernel
theorem dX7_boxes_12 : decode cX7_boxes 12 = .ok (.ifCond .ne 6, 3) := by decide +kernel
theorem dX7_boxes_15 : decode cX7_boxes 15 = .ok (.bipush (-102), 2) := by decide +kernel
theorem dX7_boxes_17 : decode cX7_boxes 17 = .ok (.ireturn, 1) := by decide +kernel
theorem dX7_boxes_18 : decode cX7_boxes 18 = .ok (.aload_n 0, 1) := by decide +kernel
theorem dX7_boxes_19 : decode cX7_boxes 19 = .ok (.getfield 113, 3) := by decide +kernel
theorem dX7_boxes_22 : decode cX7_boxes 22 = .ok (.ifCond .ne 8, 3) := by decide +kernel
theorem dX7_boxes_25 : decode cX7_boxes 25 = .ok (.bipush (-103), 2) := by decide +kernel
theorem dX7_boxes_27 : decode cX7_boxes 27 = .ok (.goto 8, 3) := by decide +kernel
theorem dX7_boxes_30 : decode cX7_boxes 30 = .ok (.aload_n 0, 1) := by decide +kernel
theorem dX7_boxes_31 : decode cX7_boxes 31 = .ok (.iload_n 1, 1) := by decide +kernel
theorem dX7_boxes_32 : decode cX7_boxes 32 = .ok (.invokevirtual 230, 3) := by decide +kernel
theorem dX7_boxes_35 : decode cX7_boxes 35 = .ok (.ireturn, 1) := by decide +kernel
theorem dX7_changesNow_0 : decode cX7_changesNow 0 = .ok (.aload_n 0, 1) := by decide +kernel
theorem dX7_changesNow_1 : decode cX7_changesNow 1 = .ok (.iload_n 1, 1) := by decide +kernel
theorem dX7_changesNow_2 : decode cX7_changesNow 2 = .ok (.invokevirtual 146, 3) := by decide +kernel
theorem dX7_changesNow_5 : decode cX7_changesNow 5 = .ok (.istore_n 3, 1) := by decide +kernel
theorem dX7_changesNow_6 : decode cX7_changesNow 6 = .ok (.iload_n 3, 1) := by decide +kernel
theorem dX7_changesNow_7 : decode cX7_changesNow 7 = .ok (.istore 4, 2) := by decide +kernel
theorem dX7_changesNow_9 : decode cX7_changesNow 9 = .ok (.iconst 0, 1) := by decide +kernel
theorem dX7_changesNow_10 : decode cX7_changesNow 10 = .ok (.istore 5, 2) := by decide +kernel
theorem dX7_changesNow_12 : decode cX7_changesNow 12 = .ok (.iload 5, 2) := by decide +kernel
theorem dX7_changesNow_14 : decode cX7_changesNow 14 = .ok (.aload_n 0, 1) := by decide +kernel
theorem dX7_changesNow_15 : decode cX7_changesNow 15 = .ok (.getfield 113, 3) := by decide +kernel
theorem dX7_changesNow_18 : decode cX7_changesNow 18 = .ok (.if_icmp .ge 33, 3) := by decide +kernel
theorem dX7_changesNow_21 : decode cX7_changesNow 21 = .ok (.iload 4, 2) := by decide +kernel
theorem dX7_changesNow_23 : decode cX7_changesNow 23 = .ok (.aload_n 0, 1) := by decide +kernel
theorem dX7_changesNow_24 : decode cX7_changesNow 24 = .ok (.getfield 19, 3) := by decide +kernel
theorem dX7_changesNow_27 : decode cX7_changesNow 27 = .ok (.iload 5, 2) := by decide +kernel
theorem dX7_changesNow_29 : decode cX7_changesNow 29 = .ok (.iaload, 1) := by decide +kernel
theorem dX7_changesNow_30 : decode cX7_changesNow 30 = .ok (.iconst (-1), 1) := by decide +kernel
theorem dX7_changesNow_31 : decode cX7_changesNow 31 = .ok (.if_icmp .ne 10, 3) := by decide +kernel
theorem dX7_changesNow_34 : decode cX7_changesNow 34 = .ok (.iconst 1, 1) := by decide +kernel
theorem dX7_changesNow_35 : decode cX7_changesNow 35 = .ok (.iload 5, 2) := by decide +kernel
theorem dX7_changesNow_37 : decode cX7_changesNow 37 = .ok (.ishl, 1) := by decide +kernel
theorem dX7_changesNow_38 : decode cX7_changesNow 38 = .ok (.goto 4, 3) := by decide +kernel
theorem dX7_changesNow_41 : decode cX7_changesNow 41 = .ok (.iconst 0, 1) := by decide +kernel
theorem dX7_changesNow_42 : decode cX7_changesNow 42 = .ok (.ior, 1) := by decide +kernel
theorem dX7_changesNow_43 : decode cX7_changesNow 43 = .ok (.istore 4, 2) := by decide +kernel
theorem dX7_changesNow_45 : decode cX7_changesNow 45 = .ok (.iinc 5 1, 3) := by decide +kernel
theorem dX7_changesNow_48 : decode cX7_changesNow 48 = .ok (.goto (-36), 3) := by decide +kernel
theorem dX7_changesNow_51 : decode cX7_changesNow 51 = .ok (.iconst (-1), 1) := by decide +kernel
theorem dX7_changesNow_52 : decode cX7_changesNow 52 = .ok (.istore 5, 2) := by decide +kernel
theorem dX7_changesNow_54 : decode cX7_changesNow 54 = .ok (.iconst 0, 1) := by decide +kernel
theorem dX7_changesNow_55 : decode cX7_changesNow 55 = .ok (.istore 6, 2) := by decide +kernel
theorem dX7_changesNow_57 : decode cX7_changesNow 57 = .ok (.iload 6, 2) := by decide +kernel
theorem dX7_changesNow_59 : decode cX7_changesNow 59 = .ok (.iconst 1, 1) := by decide +kernel
theorem dX7_changesNow_60 : decode cX7_changesNow 60 = .ok (.aload_n 0, 1) := by decide +kernel
theorem dX7_changesNow_61 : decode cX7_changesNow 61 = .ok (.getfield 113, 3) := by decide +kernel
theorem dX7_changesNow_64 : decode cX7_changesNow 64 = .ok (.ishl, 1) := by decide +kernel
theorem dX7_changesNow_65 : decode cX7_changesNow 65 = .ok (.if_icmp .ge 97, 3) := by decide +kernel
theorem dX7_changesNow_68 : decode cX7_changesNow 68 = .ok (.iload 6, 2) := by decide +kernel
theorem dX7_changesNow_70 : decode cX7_changesNow 70 = .ok (.iload 4, 2) := by decide +kernel
theorem dX7_changesNow_72 : decode cX7_changesNow 72 = .ok (.iconst (-1), 1) := by decide +kernel
theorem dX7_changesNow_73 : decode cX7_changesNow 73 = .ok (.ixor, 1) := by decide +kernel
theorem dX7_changesNow_74 : decode cX7_changesNow 74 = .ok (.iand, 1) := by decide +kernel
theorem dX7_changesNow_75 : decode cX7_changesNow 75 = .ok (.ifCond .ne 16, 3) := by decide +kernel
theorem dX7_changesNow_78 : decode cX7_changesNow 78 = .ok (.iload 6, 2) := by decide +kernel
theorem dX7_changesNow_80 : decode cX7_changesNow 80 = .ok (.invokestatic 194, 3) := by decide +kernel
theorem dX7_changesNow_83 : decode cX7_changesNow 83 = .ok (.iconst 3, 1) := by decide +kernel
theorem dX7_changesNow_84 : decode cX7_changesNow 84 = .ok (.if_icmp .ge 7, 3) := by decide +kernel
theorem dX7_changesNow_87 : decode cX7_changesNow 87 = .ok (.iconst 1, 1) := by decide +kernel
theorem dX7_changesNow_88 : decode cX7_changesNow 88 = .ok (.goto 4, 3) := by decide +kernel
theorem dX7_changesNow_91 : decode cX7_changesNow 91 = .ok (.iconst 0, 1) := by decide +kernel
theorem dX7_changesNow_92 : decode cX7_changesNow 92 = .ok (.istore 7, 2) := by decide +kernel
theorem dX7_changesNow_94 : decode cX7_changesNow 94 = .ok (.iload 5, 2) := by decide +kernel
theorem dX7_changesNow_96 : decode cX7_changesNow 96 = .ok (.iconst (-1), 1) := by decide +kernel
theorem dX7_changesNow_97 : decode cX7_changesNow 97 = .ok (.if_icmp .eq 20, 3) := by decide +kernel
theorem dX7_changesNow_100 : decode cX7_changesNow 100 = .ok (.iload 6, 2) := by decide +kernel
theorem dX7_changesNow_102 : decode cX7_changesNow 102 = .ok (.iload_n 3, 1) := by decide +kernel
theorem dX7_changesNow_103 : decode cX7_changesNow 103 = .ok (.ixor, 1) := by decide +kernel
theorem dX7_changesNow_104 : decode cX7_changesNow 104 = .ok (.invokestatic 194, 3) := by decide +kernel
theorem dX7_changesNow_107 : decode cX7_changesNow 107 = .ok (.iload 5, 2) := by decide +kernel
theorem dX7_changesNow_109 : decode cX7_changesNow 109 = .ok (.iload_n 3, 1) := by decide +kernel
theorem dX7_changesNow_110 : decode cX7_changesNow 110 = .ok (.ixor, 1) := by decide +kernel
theorem dX7_changesNow_111 : decode cX7_changesNow 111 = .ok (.invokestatic 194, 3) := by decide +kernel
theorem dX7_changesNow_114 : decode cX7_changesNow 114 = .ok (.if_icmp .ge 7, 3) := by decide +kernel
theorem dX7_changesNow_117 : decode cX7_changesNow 117 = .ok (.iconst 1, 1) := by decide +kernel
theorem dX7_changesNow_118 : decode cX7_changesNow 118 = .ok (.goto 4, 3) := by decide +kernel
theorem dX7_changesNow_121 : decode cX7_changesNow 121 = .ok (.iconst 0, 1) := by decide +kernel
theorem dX7_changesNow_122 : decode cX7_changesNow 122 = .ok (.istore 8, 2) := by decide +kernel
theorem dX7_changesNow_124 : decode cX7_changesNow 124 = .ok (.iload 7, 2) := by decide +kernel
theorem dX7_changesNow_126 : decode cX7_changesNow 126 = .ok (.ifCond .eq 26, 3) := by decide +kernel
theorem dX7_changesNow_129 : decode cX7_changesNow 129 = .ok (.iload 8, 2) := by decide +kernel
theorem dX7_changesNow_131 : decode cX7_changesNow 131 = .ok (.ifCond .eq 21, 3) := by decide +kernel
theorem dX7_changesNow_134 : decode cX7_changesNow 134 = .ok (.aload_n 0, 1) := by decide +kernel
theorem dX7_changesNow_135 : decode cX7_changesNow 135 = .ok (.iload_n 1, 1) := by decide +kernel
theorem dX7_changesNow_136 : decode cX7_changesNow 136 = .ok (.iload 6, 2) := by decide +kernel
theorem dX7_changesNow_138 : decode cX7_changesNow 138 = .ok (.iconst 0, 1) := by decide +kernel
theorem dX7_changesNow_139 : decode cX7_changesNow 139 = .ok (.invokevirtual 149, 3) := by decide +kernel
theorem dX7_changesNow_142 : decode cX7_changesNow 142 = .ok (.bipush 8, 2) := by decide +kernel
theorem dX7_changesNow_144 : decode cX7_changesNow 144 = .ok (.if_icmp .gt 8, 3) := by decide +kernel
theorem dX7_changesNow_147 : decode cX7_changesNow 147 = .ok (.iload 6, 2) := by decide +kernel
theorem dX7_changesNow_149 : decode cX7_changesNow 149 = .ok (.goto 5, 3) := by decide +kernel
theorem dX7_changesNow_152 : decode cX7_changesNow 152 = .ok (.iload 5, 2) := by decide +kernel
theorem dX7_changesNow_154 : decode cX7_changesNow 154 = .ok (.istore 5, 2) := by decide +kernel
theorem dX7_changesNow_156 : decode cX7_changesNow 156 = .ok (.iinc 6 1, 3) := by decide +kernel
theorem dX7_changesNow_159 : decode cX7_changesNow 159 = .ok (.goto (-102), 3) := by decide +kernel
theorem dX7_changesNow_162 : decode cX7_changesNow 162 = .ok (.iload 5, 2) := by decide +kernel
theorem dX7_changesNow_164 : decode cX7_changesNow 164 = .ok (.iconst (-1), 1) := by decide +kernel
theorem dX7_changesNow_165 : decode cX7_changesNow 165 = .ok (.if_icmp .eq 8, 3) := by decide +kernel
theorem dX7_changesNow_168 : decode cX7_changesNow 168 = .ok (.iload_n 2, 1) := by decide +kernel
theorem dX7_changesNow_169 : decode cX7_changesNow 169 = .ok (.iconst 1, 1) := by decide +kernel
theorem dX7_changesNow_170 : decode cX7_changesNow 170 = .ok (.if_icmp .ne 8, 3) := by decide +kernel
theorem dX7_changesNow_173 : decode cX7_changesNow 173 = .ok (.iload 5, 2) := by decide +kernel
theorem dX7_changesNow_175 : decode cX7_changesNow 175 = .ok (.goto 10, 3) := by decide +kernel
theorem dX7_changesNow_178 : decode cX7_changesNow 178 = .ok (.iload 5, 2) := by decide +kernel
theorem dX7_changesNow_180 : decode cX7_changesNow 180 = .ok (.iload_n 3, 1) := by decide +kernel
theorem dX7_changesNow_181 : decode cX7_changesNow 181 = .ok (.ixor, 1) := by decide +kernel
theorem dX7_changesNow_182 : decode cX7_changesNow 182 = .ok (.invokestatic 194, 3) := by decide +kernel
theorem dX7_changesNow_185 : decode cX7_changesNow 185 = .ok (.ireturn, 1) := by decide +kernel
theorem dX7_oddsNow_0 : decode cX7_oddsNow 0 = .ok (.aload_n 0, 1) := by decide +kernel
theorem dX7_oddsNow_1 : decode cX7_oddsNow 1 = .ok (.iload_n 1, 1) := by decide +kernel
theorem dX7_oddsNow_2 : decode cX7_oddsNow 2 = .ok (.invokevirtual 146, 3) := by decide +kernel
theorem dX7_oddsNow_5 : decode cX7_oddsNow 5 = .ok (.istore 5, 2) := by decide +kernel
theorem dX7_oddsNow_7 : decode cX7_oddsNow 7 = .ok (.iconst 0, 1) := by decide +kernel
theorem dX7_oddsNow_8 : decode cX7_oddsNow 8 = .ok (.istore 6, 2) := by decide +kernel
theorem dX7_oddsNow_10 : decode cX7_oddsNow 10 = .ok (.iconst 1, 1) := by decide +kernel
theorem dX7_oddsNow_11 : decode cX7_oddsNow 11 = .ok (.istore 7, 2) := by decide +kernel
theorem dX7_oddsNow_13 : decode cX7_oddsNow 13 = .ok (.iconst 0, 1) := by decide +kernel
theorem dX7_oddsNow_14 : decode cX7_oddsNow 14 = .ok (.istore 8, 2) := by decide +kernel
theorem dX7_oddsNow_16 : decode cX7_oddsNow 16 = .ok (.iload 8, 2) := by decide +kernel
theorem dX7_oddsNow_18 : decode cX7_oddsNow 18 = .ok (.iload_n 2, 1) := by decide +kernel
theorem dX7_oddsNow_19 : decode cX7_oddsNow 19 = .ok (.if_icmp .ge 16, 3) := by decide +kernel
theorem dX7_oddsNow_22 : decode cX7_oddsNow 22 = .ok (.iload 7, 2) := by decide +kernel
theorem dX7_oddsNow_24 : decode cX7_oddsNow 24 = .ok (.bipush 10, 2) := by decide +kernel
theorem dX7_oddsNow_26 : decode cX7_oddsNow 26 = .ok (.imul, 1) := by decide +kernel
theorem dX7_oddsNow_27 : decode cX7_oddsNow 27 = .ok (.istore 7, 2) := by decide +kernel
theorem dX7_oddsNow_29 : decode cX7_oddsNow 29 = .ok (.iinc 8 1, 3) := by decide +kernel
theorem dX7_oddsNow_32 : decode cX7_oddsNow 32 = .ok (.goto (-16), 3) := by decide +kernel
theorem dX7_oddsNow_35 : decode cX7_oddsNow 35 = .ok (.iconst 0, 1) := by decide +kernel
theorem dX7_oddsNow_36 : decode cX7_oddsNow 36 = .ok (.istore 8, 2) := by decide +kernel
theorem dX7_oddsNow_38 : decode cX7_oddsNow 38 = .ok (.iload 8, 2) := by decide +kernel
theorem dX7_oddsNow_40 : decode cX7_oddsNow 40 = .ok (.iconst 1, 1) := by decide +kernel
theorem dX7_oddsNow_41 : decode cX7_oddsNow 41 = .ok (.iload_n 2, 1) := by decide +kernel
theorem dX7_oddsNow_42 : decode cX7_oddsNow 42 = .ok (.ishl, 1) := by decide +kernel
theorem dX7_oddsNow_43 : decode cX7_oddsNow 43 = .ok (.if_icmp .ge 78, 3) := by decide +kernel
theorem dX7_oddsNow_46 : decode cX7_oddsNow 46 = .ok (.iconst 1, 1) := by decide +kernel
theorem dX7_oddsNow_47 : decode cX7_oddsNow 47 = .ok (.istore 9, 2) := by decide +kernel
theorem dX7_oddsNow_49 : decode cX7_oddsNow 49 = .ok (.iconst 0, 1) := by decide +kernel
theorem dX7_oddsNow_50 : decode cX7_oddsNow 50 = .ok (.istore 10, 2) := by decide +kernel
theorem dX7_oddsNow_52 : decode cX7_oddsNow 52 = .ok (.iload 10, 2) := by decide +kernel
theorem dX7_oddsNow_54 : decode cX7_oddsNow 54 = .ok (.iload_n 2, 1) := by decide +kernel
theorem dX7_oddsNow_55 : decode cX7_oddsNow 55 = .ok (.if_icmp .ge 32, 3) := by decide +kernel
theorem dX7_oddsNow_58 : decode cX7_oddsNow 58 = .ok (.iload 9, 2) := by decide +kernel
theorem dX7_oddsNow_60 : decode cX7_oddsNow 60 = .ok (.iload 8, 2) := by decide +kernel
theorem dX7_oddsNow_62 : decode cX7_oddsNow 62 = .ok (.iload 10, 2) := by decide +kernel
theorem dX7_oddsNow_64 : decode cX7_oddsNow 64 = .ok (.invokestatic 139, 3) := by decide +kernel
theorem dX7_oddsNow_67 : decode cX7_oddsNow 67 = .ok (.ifCond .eq 7, 3) := by decide +kernel
theorem dX7_oddsNow_70 : decode cX7_oddsNow 70 = .ok (.iload_n 3, 1) := by decide +kernel
theorem dX7_oddsNow_71 : decode cX7_oddsNow 71 = .ok (.goto 7, 3) := by decide +kernel
theorem dX7_oddsNow_74 : decode cX7_oddsNow 74 = .ok (.bipush 10, 2) := by decide +kernel
theorem dX7_oddsNow_76 : decode cX7_oddsNow 76 = .ok (.iload_n 3, 1) := by decide +kernel
theorem dX7_oddsNow_77 : decode cX7_oddsNow 77 = .ok (.isub, 1) := by decide +kernel
theorem dX7_oddsNow_78 : decode cX7_oddsNow 78 = .ok (.imul, 1) := by decide +kernel
theorem dX7_oddsNow_79 : decode cX7_oddsNow 79 = .ok (.istore 9, 2) := by decide +kernel
theorem dX7_oddsNow_81 : decode cX7_oddsNow 81 = .ok (.iinc 10 1, 3) := by decide +kernel
theorem dX7_oddsNow_84 : decode cX7_oddsNow 84 = .ok (.goto (-32), 3) := by decide +kernel
theorem dX7_oddsNow_87 : decode cX7_oddsNow 87 = .ok (.iload 6, 2) := by decide +kernel
theorem dX7_oddsNow_89 : decode cX7_oddsNow 89 = .ok (.aload_n 0, 1) := by decide +kernel
theorem dX7_oddsNow_90 : decode cX7_oddsNow 90 = .ok (.iload_n 1, 1) := by decide +kernel
theorem dX7_oddsNow_91 : decode cX7_oddsNow 91 = .ok (.iload 5, 2) := by decide +kernel
theorem dX7_oddsNow_93 : decode cX7_oddsNow 93 = .ok (.iload 8, 2) := by decide +kernel
theorem dX7_oddsNow_95 : decode cX7_oddsNow 95 = .ok (.invokestatic 194, 3) := by decide +kernel
theorem dX7_oddsNow_98 : decode cX7_oddsNow 98 = .ok (.invokevirtual 149, 3) := by decide +kernel
theorem dX7_oddsNow_101 : decode cX7_oddsNow 101 = .ok (.bipush 15, 2) := by decide +kernel
theorem dX7_oddsNow_103 : decode cX7_oddsNow 103 = .ok (.if_icmp .lt 8, 3) := by decide +kernel
theorem dX7_oddsNow_106 : decode cX7_oddsNow 106 = .ok (.iload 9, 2) := by decide +kernel
theorem dX7_oddsNow_108 : decode cX7_oddsNow 108 = .ok (.goto 4, 3) := by decide +kernel
theorem dX7_oddsNow_111 : decode cX7_oddsNow 111 = .ok (.iconst 0, 1) := by decide +kernel
theorem dX7_oddsNow_112 : decode cX7_oddsNow 112 = .ok (.iadd, 1) := by decide +kernel
theorem dX7_oddsNow_113 : decode cX7_oddsNow 113 = .ok (.istore 6, 2) := by decide +kernel
theorem dX7_oddsNow_115 : decode cX7_oddsNow 115 = .ok (.iinc 8 1, 3) := by decide +kernel
theorem dX7_oddsNow_118 : decode cX7_oddsNow 118 = .ok (.goto (-80), 3) := by decide +kernel
theorem dX7_oddsNow_121 : decode cX7_oddsNow 121 = .ok (.iload 6, 2) := by decide +kernel
theorem dX7_oddsNow_123 : decode cX7_oddsNow 123 = .ok (.iload 7, 2) := by decide +kernel
theorem dX7_oddsNow_125 : decode cX7_oddsNow 125 = .ok (.invokestatic 233, 3) := by decide +kernel
theorem dX7_oddsNow_128 : decode cX7_oddsNow 128 = .ok (.istore 8, 2) := by decide +kernel
theorem dX7_oddsNow_130 : decode cX7_oddsNow 130 = .ok (.iload 4, 2) := by decide +kernel
theorem dX7_oddsNow_132 : decode cX7_oddsNow 132 = .ok (.ifCond .ne 11, 3) := by decide +kernel
theorem dX7_oddsNow_135 : decode cX7_oddsNow 135 = .ok (.iload 6, 2) := by decide +kernel
theorem dX7_oddsNow_137 : decode cX7_oddsNow 137 = .ok (.iload 8, 2) := by decide +kernel
theorem dX7_oddsNow_139 : decode cX7_oddsNow 139 = .ok (.idiv, 1) := by decide +kernel
theorem dX7_oddsNow_140 : decode cX7_oddsNow 140 = .ok (.goto 8, 3) := by decide +kernel
theorem dX7_oddsNow_143 : decode cX7_oddsNow 143 = .ok (.iload 7, 2) := by decide +kernel
theorem dX7_oddsNow_145 : decode cX7_oddsNow 145 = .ok (.iload 8, 2) := by decide +kernel
theorem dX7_oddsNow_147 : decode cX7_oddsNow 147 = .ok (.idiv, 1) := by decide +kernel
theorem dX7_oddsNow_148 : decode cX7_oddsNow 148 = .ok (.ireturn, 1) := by decide +kernel
theorem dX7_odds_0 : decode cX7_odds 0 = .ok (.aload_n 0, 1) := by decide +kernel
theorem dX7_odds_1 : decode cX7_odds 1 = .ok (.iload_n 1, 1) := by decide +kernel
theorem dX7_odds_2 : decode cX7_odds 2 = .ok (.invokevirtual 182, 3) := by decide +kernel
theorem dX7_odds_5 : decode cX7_odds 5 = .ok (.ifCond .ne 6, 3) := by decide +kernel
theorem dX7_odds_8 : decode cX7_odds 8 = .ok (.bipush (-101), 2) := by decide +kernel
theorem dX7_odds_10 : decode cX7_odds 10 = .ok (.ireturn, 1) := by decide +kernel
theorem dX7_odds_11 : decode cX7_odds 11 = .ok (.iload_n 2, 1) := by decide +kernel
theorem dX7_odds_12 : decode cX7_odds 12 = .ok (.iconst 1, 1) := by decide +kernel
theorem dX7_odds_13 : decode cX7_odds 13 = .ok (.bipush 8, 2) := by decide +kernel
theorem dX7_odds_15 : decode cX7_odds 15 = .ok (.invokestatic 77, 3) := by decide +kernel
theorem dX7_odds_18 : decode cX7_odds 18 = .ok (.ifCond .eq 27, 3) := by decide +kernel
theorem dX7_odds_21 : decode cX7_odds 21 = .ok (.iload_n 3, 1) := by decide +kernel
theorem dX7_odds_22 : decode cX7_odds 22 = .ok (.iconst 0, 1) := by decide +kernel
theorem dX7_odds_23 : decode cX7_odds 23 = .ok (.bipush 10, 2) := by decide +kernel
theorem dX7_odds_25 : decode cX7_odds 25 = .ok (.invokestatic 77, 3) := by decide +kernel
theorem dX7_odds_28 : decode cX7_odds 28 = .ok (.ifCond .eq 17, 3) := by decide +kernel
theorem dX7_odds_31 : decode cX7_odds 31 = .ok (.iload 4, 2) := by decide +kernel
theorem dX7_odds_33 : decode cX7_odds 33 = .ok (.iconst 0, 1) := by decide +kernel
theorem dX7_odds_34 : decode cX7_odds 34 = .ok (.iconst 1, 1) := by decide +kernel
theorem dX7_odds_35 : decode cX7_odds 35 = .ok (.invokestatic 77, 3) := by decide +kernel
theorem dX7_odds_38 : decode cX7_odds 38 = .ok (.ifCond .eq 7, 3) := by decide +kernel
theorem dX7_odds_41 : decode cX7_odds 41 = .ok (.iconst 1, 1) := by decide +kernel
theorem dX7_odds_42 : decode cX7_odds 42 = .ok (.goto 4, 3) := by decide +kernel
theorem dX7_odds_45 : decode cX7_odds 45 = .ok (.iconst 0, 1) := by decide +kernel
theorem dX7_odds_46 : decode cX7_odds 46 = .ok (.istore 5, 2) := by decide +kernel
theorem dX7_odds_48 : decode cX7_odds 48 = .ok (.iload 5, 2) := by decide +kernel
theorem dX7_odds_50 : decode cX7_odds 50 = .ok (.ifCond .eq 15, 3) := by decide +kernel
theorem dX7_odds_53 : decode cX7_odds 53 = .ok (.aload_n 0, 1) := by decide +kernel
theorem dX7_odds_54 : decode cX7_odds 54 = .ok (.iload_n 1, 1) := by decide +kernel
theorem dX7_odds_55 : decode cX7_odds 55 = .ok (.iload_n 2, 1) := by decide +kernel
theorem dX7_odds_56 : decode cX7_odds 56 = .ok (.iload_n 3, 1) := by decide +kernel
theorem dX7_odds_57 : decode cX7_odds 57 = .ok (.iload 4, 2) := by decide +kernel
theorem dX7_odds_59 : decode cX7_odds 59 = .ok (.invokevirtual 236, 3) := by decide +kernel
theorem dX7_odds_62 : decode cX7_odds 62 = .ok (.goto 5, 3) := by decide +kernel
theorem dX7_odds_65 : decode cX7_odds 65 = .ok (.bipush (-102), 2) := by decide +kernel
theorem dX7_odds_67 : decode cX7_odds 67 = .ok (.ireturn, 1) := by decide +kernel
theorem dX7_see_0 : decode cX7_see 0 = .ok (.aload_n 0, 1) := by decide +kernel
theorem dX7_see_1 : decode cX7_see 1 = .ok (.iload_n 1, 1) := by decide +kernel
theorem dX7_see_2 : decode cX7_see 2 = .ok (.invokevirtual 164, 3) := by decide +kernel
theorem dX7_see_5 : decode cX7_see 5 = .ok (.ifCond .ne 6, 3) := by decide +kernel
theorem dX7_see_8 : decode cX7_see 8 = .ok (.bipush (-101), 2) := by decide +kernel
theorem dX7_see_10 : decode cX7_see 10 = .ok (.ireturn, 1) := by decide +kernel
theorem dX7_see_11 : decode cX7_see 11 = .ok (.iload_n 2, 1) := by decide +kernel
theorem dX7_see_12 : decode cX7_see 12 = .ok (.iconst 0, 1) := by decide +kernel
theorem dX7_see_13 : decode cX7_see 13 = .ok (.bipush 9, 2) := by decide +kernel
theorem dX7_see_15 : decode cX7_see 15 = .ok (.invokestatic 77, 3) := by decide +kernel
theorem dX7_see_18 : decode cX7_see 18 = .ok (.ifCond .eq 13, 3) := by decide +kernel
theorem dX7_see_21 : decode cX7_see 21 = .ok (.iload_n 3, 1) := by decide +kernel
theorem dX7_see_22 : decode cX7_see 22 = .ok (.iconst 0, 1) := by decide +kernel
theorem dX7_see_23 : decode cX7_see 23 = .ok (.bipush 9, 2) := by decide +kernel
theorem dX7_see_25 : decode cX7_see 25 = .ok (.invokestatic 77, 3) := by decide +kernel
theorem dX7_see_28 : decode cX7_see 28 = .ok (.ifCond .ne 6, 3) := by decide +kernel
theorem dX7_see_31 : decode cX7_see 31 = .ok (.bipush (-102), 2) := by decide +kernel
theorem dX7_see_33 : decode cX7_see 33 = .ok (.ireturn, 1) := by decide +kernel
theorem dX7_see_34 : decode cX7_see 34 = .ok (.aload_n 0, 1) := by decide +kernel
theorem dX7_see_35 : decode cX7_see 35 = .ok (.getfield 125, 3) := by decide +kernel
theorem dX7_see_38 : decode cX7_see 38 = .ok (.bipush 8, 2) := by decide +kernel
theorem dX7_see_40 : decode cX7_see 40 = .ok (.if_icmp .ne 6, 3) := by decide +kernel
theorem dX7_see_43 : decode cX7_see 43 = .ok (.bipush (-104), 2) := by decide +kernel
theorem dX7_see_45 : decode cX7_see 45 = .ok (.ireturn, 1) := by decide +kernel
theorem dX7_see_46 : decode cX7_see 46 = .ok (.aload_n 0, 1) := by decide +kernel
theorem dX7_see_47 : decode cX7_see 47 = .ok (.getfield 28, 3) := by decide +kernel
theorem dX7_see_50 : decode cX7_see 50 = .ok (.aload_n 0, 1) := by decide +kernel
theorem dX7_see_51 : decode cX7_see 51 = .ok (.getfield 125, 3) := by decide +kernel
theorem dX7_see_54 : decode cX7_see 54 = .ok (.iload_n 1, 1) := by decide +kernel
theorem dX7_see_55 : decode cX7_see 55 = .ok (.iastore, 1) := by decide +kernel
theorem dX7_see_56 : decode cX7_see 56 = .ok (.aload_n 0, 1) := by decide +kernel
theorem dX7_see_57 : decode cX7_see 57 = .ok (.getfield 31, 3) := by decide +kernel
theorem dX7_see_60 : decode cX7_see 60 = .ok (.aload_n 0, 1) := by decide +kernel
