theorem dX0_init_0 : decode cX0_init 0 = .ok (.aload_n 0, 1) := by decide +kernel
theorem dX0_init_1 : decode cX0_init 1 = .ok (.invokespecial 3, 3) := by decide +kernel
theorem dX0_init_4 : decode cX0_init 4 = .ok (.aload_n 0, 1) := by decide +kernel
theorem dX0_init_5 : decode cX0_init 5 = .ok (.bipush 9, 2) := by decide +kernel
theorem dX0_init_7 : decode cX0_init 7 = .ok (.newarray .int, 2) := by decide +kernel
theorem dX0_init_9 : decode cX0_init 9 = .ok (.putfield 9, 3) := by decide +kernel
theorem dX0_init_12 : decode cX0_init 12 = .ok (.return_, 1) := by decide +kernel
theorem dX1_init_0 : decode cX1_init 0 = .ok (.aload_n 0, 1) := by decide +kernel
theorem dX1_init_1 : decode cX1_init 1 = .ok (.invokespecial 1, 3) := by decide +kernel
theorem dX1_init_4 : decode cX1_init 4 = .ok (.return_, 1) := by decide +kernel
theorem dX1_next_0 : decode cX1_next 0 = .ok (.aload_n 0, 1) := by decide +kernel
theorem dX1_next_1 : decode cX1_next 1 = .ok (.ldc2_w 7, 3) := by decide +kernel
theorem dX1_next_4 : decode cX1_next 4 = .ok (.aload_n 0, 1) := by decide +kernel
theorem dX1_next_5 : decode cX1_next 5 = .ok (.getfield 9, 3) := by decide +kernel
theorem dX1_next_8 : decode cX1_next 8 = .ok (.i2l, 1) := by decide +kernel
theorem dX1_next_9 : decode cX1_next 9 = .ok (.lmul, 1) := by decide +kernel
theorem dX1_next_10 : decode cX1_next 10 = .ok (.ldc2_w 15, 3) := by decide +kernel
theorem dX1_next_13 : decode cX1_next 13 = .ok (.ladd, 1) := by decide +kernel
theorem dX1_next_14 : decode cX1_next 14 = .ok (.ldc2_w 17, 3) := by decide +kernel
theorem dX1_next_17 : decode cX1_next 17 = .ok (.lrem, 1) := by decide +kernel
theorem dX1_next_18 : decode cX1_next 18 = .ok (.l2i, 1) := by decide +kernel
theorem dX1_next_19 : decode cX1_next 19 = .ok (.putfield 9, 3) := by decide +kernel
theorem dX1_next_22 : decode cX1_next 22 = .ok (.iload_n 1, 1) := by decide +kernel
theorem dX1_next_23 : decode cX1_next 23 = .ok (.ifCond .le 15, 3) := by decide +kernel
theorem dX1_next_26 : decode cX1_next 26 = .ok (.aload_n 0, 1) := by decide +kernel
theorem dX1_next_27 : decode cX1_next 27 = .ok (.getfield 9, 3) := by decide +kernel
theorem dX1_next_30 : decode cX1_next 30 = .ok (.ldc 19, 2) := by decide +kernel
theorem dX1_next_32 : decode cX1_next 32 = .ok (.idiv, 1) := by decide +kernel
theorem dX1_next_33 : decode cX1_next 33 = .ok (.iload_n 1, 1) := by decide +kernel
theorem dX1_next_34 : decode cX1_next 34 = .ok (.irem, 1) := by decide +kernel
theorem dX1_next_35 : decode cX1_next 35 = .ok (.goto 4, 3) := by decide +kernel
theorem dX1_next_38 : decode cX1_next 38 = .ok (.iconst 0, 1) := by decide +kernel
theorem dX1_next_39 : decode cX1_next 39 = .ok (.ireturn, 1) := by decide +kernel
theorem dX2_init_0 : decode cX2_init 0 = .ok (.aload_n 0, 1) := by decide +kernel
theorem dX2_init_1 : decode cX2_init 1 = .ok (.invokespecial 3, 3) := by decide +kernel
theorem dX2_init_4 : decode cX2_init 4 = .ok (.aload_n 0, 1) := by decide +kernel
theorem dX2_init_5 : decode cX2_init 5 = .ok (.sipush 192, 3) := by decide +kernel
theorem dX2_init_8 : decode cX2_init 8 = .ok (.newarray .int, 2) := by decide +kernel
theorem dX2_init_10 : decode cX2_init 10 = .ok (.putfield 9, 3) := by decide +kernel
theorem dX2_init_13 : decode cX2_init 13 = .ok (.aload_n 0, 1) := by decide +kernel
theorem dX2_init_14 : decode cX2_init 14 = .ok (.iconst 3, 1) := by decide +kernel
theorem dX2_init_15 : decode cX2_init 15 = .ok (.newarray .int, 2) := by decide +kernel
theorem dX2_init_17 : decode cX2_init 17 = .ok (.putfield 15, 3) := by decide +kernel
theorem dX2_init_20 : decode cX2_init 20 = .ok (.aload_n 0, 1) := by decide +kernel
theorem dX2_init_21 : decode cX2_init 21 = .ok (.bipush 6, 2) := by decide +kernel
theorem dX2_init_23 : decode cX2_init 23 = .ok (.newarray .int, 2) := by decide +kernel
theorem dX2_init_25 : decode cX2_init 25 = .ok (.putfield 18, 3) := by decide +kernel
theorem dX2_init_28 : decode cX2_init 28 = .ok (.aload_n 0, 1) := by decide +kernel
theorem dX2_init_29 : decode cX2_init 29 = .ok (.bipush 6, 2) := by decide +kernel
theorem dX2_init_31 : decode cX2_init 31 = .ok (.newarray .int, 2) := by decide +kernel
theorem dX2_init_33 : decode cX2_init 33 = .ok (.putfield 21, 3) := by decide +kernel
theorem dX2_init_36 : decode cX2_init 36 = .ok (.return_, 1) := by decide +kernel
theorem dX3_init_0 : decode cX3_init 0 = .ok (.aload_n 0, 1) := by decide +kernel
theorem dX3_init_1 : decode cX3_init 1 = .ok (.invokespecial 3, 3) := by decide +kernel
theorem dX3_init_4 : decode cX3_init 4 = .ok (.aload_n 0, 1) := by decide +kernel
theorem dX3_init_5 : decode cX3_init 5 = .ok (.bipush 6, 2) := by decide +kernel
theorem dX3_init_7 : decode cX3_init 7 = .ok (.newarray .int, 2) := by decide +kernel
theorem dX3_init_9 : decode cX3_init 9 = .ok (.putfield 9, 3) := by decide +kernel
theorem dX3_init_12 : decode cX3_init 12 = .ok (.aload_n 0, 1) := by decide +kernel
theorem dX3_init_13 : decode cX3_init 13 = .ok (.bipush 6, 2) := by decide +kernel
theorem dX3_init_15 : decode cX3_init 15 = .ok (.newarray .int, 2) := by decide +kernel
theorem dX3_init_17 : decode cX3_init 17 = .ok (.putfield 15, 3) := by decide +kernel
theorem dX3_init_20 : decode cX3_init 20 = .ok (.aload_n 0, 1) := by decide +kernel
theorem dX3_init_21 : decode cX3_init 21 = .ok (.bipush 6, 2) := by decide +kernel
theorem dX3_init_23 : decode cX3_init 23 = .ok (.newarray .int, 2) := by decide +kernel
theorem dX3_init_25 : decode cX3_init 25 = .ok (.putfield 18, 3) := by decide +kernel
theorem dX3_init_28 : decode cX3_init 28 = .ok (.aload_n 0, 1) := by decide +kernel
theorem dX3_init_29 : decode cX3_init 29 = .ok (.bipush 6, 2) := by decide +kernel
theorem dX3_init_31 : decode cX3_init 31 = .ok (.newarray .int, 2) := by decide +kernel
theorem dX3_init_33 : decode cX3_init 33 = .ok (.putfield 21, 3) := by decide +kernel
theorem dX3_init_36 : decode cX3_init 36 = .ok (.return_, 1) := by decide +kernel
theorem dX4_init_0 : decode cX4_init 0 = .ok (.aload_n 0, 1) := by decide +kernel
theorem dX4_init_1 : decode cX4_init 1 = .ok (.invokespecial 3, 3) := by decide +kernel
theorem dX4_init_4 : decode cX4_init 4 = .ok (.aload_n 0, 1) := by decide +kernel
theorem dX4_init_5 : decode cX4_init 5 = .ok (.bipush 26, 2) := by decide +kernel
theorem dX4_init_7 : decode cX4_init 7 = .ok (.newarray .int, 2) := by decide +kernel
theorem dX4_init_9 : decode cX4_init 9 = .ok (.putfield 9, 3) := by decide +kernel
theorem dX4_init_12 : decode cX4_init 12 = .ok (.return_, 1) := by decide +kernel
theorem dX4_add_0 : decode cX4_add 0 = .ok (.aload_n 0, 1) := by decide +kernel
theorem dX4_add_1 : decode cX4_add 1 = .ok (.getfield 15, 3) := by decide +kernel
theorem dX4_add_4 : decode cX4_add 4 = .ok (.bipush 26, 2) := by decide +kernel
theorem dX4_add_6 : decode cX4_add 6 = .ok (.if_icmp .lt 5, 3) := by decide +kernel
theorem dX4_add_9 : decode cX4_add 9 = .ok (.iconst 0, 1) := by decide +kernel
theorem dX4_add_10 : decode cX4_add 10 = .ok (.ireturn, 1) := by decide +kernel
theorem dX4_add_11 : decode cX4_add 11 = .ok (.aload_n 0, 1) := by decide +kernel
theorem dX4_add_12 : decode cX4_add 12 = .ok (.getfield 9, 3) := by decide +kernel
theorem dX4_add_15 : decode cX4_add 15 = .ok (.aload_n 0, 1) := by decide +kernel
theorem dX4_add_16 : decode cX4_add 16 = .ok (.getfield 15, 3) := by decide +kernel
theorem dX4_add_19 : decode cX4_add 19 = .ok (.iload_n 1, 1) := by decide +kernel
theorem dX4_add_20 : decode cX4_add 20 = .ok (.invokestatic 19, 3) := by decide +kernel
theorem dX4_add_23 : decode cX4_add 23 = .ok (.aload_n 0, 1) := by decide +kernel
theorem dX4_add_24 : decode cX4_add 24 = .ok (.dup, 1) := by decide +kernel
theorem dX4_add_25 : decode cX4_add 25 = .ok (.getfield 15, 3) := by decide +kernel
theorem dX4_add_28 : decode cX4_add 28 = .ok (.iconst 1, 1) := by decide +kernel
theorem dX4_add_29 : decode cX4_add 29 = .ok (.iadd, 1) := by decide +kernel
theorem dX4_add_30 : decode cX4_add 30 = .ok (.putfield 15, 3) := by decide +kernel
theorem dX4_add_33 : decode cX4_add 33 = .ok (.iconst 1, 1) := by decide +kernel
theorem dX4_add_34 : decode cX4_add 34 = .ok (.ireturn, 1) := by decide +kernel
theorem dX4_semicolon_0 : decode cX4_semicolon 0 = .ok (.iconst 0, 1) := by decide +kernel
theorem dX4_semicolon_1 : decode cX4_semicolon 1 = .ok (.istore_n 1, 1) := by decide +kernel
theorem dX4_semicolon_2 : decode cX4_semicolon 2 = .ok (.iload_n 1, 1) := by decide +kernel
theorem dX4_semicolon_3 : decode cX4_semicolon 3 = .ok (.aload_n 0, 1) := by decide +kernel
theorem dX4_semicolon_4 : decode cX4_semicolon 4 = .ok (.getfield 15, 3) := by decide +kernel
theorem dX4_semicolon_7 : decode cX4_semicolon 7 = .ok (.if_icmp .ge 24, 3) := by decide +kernel
theorem dX4_semicolon_10 : decode cX4_semicolon 10 = .ok (.aload_n 0, 1) := by decide +kernel
theorem dX4_semicolon_11 : decode cX4_semicolon 11 = .ok (.getfield 9, 3) := by decide +kernel
theorem dX4_semicolon_14 : decode cX4_semicolon 14 = .ok (.iload_n 1, 1) := by decide +kernel
theorem dX4_semicolon_15 : decode cX4_semicolon 15 = .ok (.invokestatic 23, 3) := by decide +kernel
theorem dX4_semicolon_18 : decode cX4_semicolon 18 = .ok (.bipush 59, 2) := by decide +kernel
theorem dX4_semicolon_20 : decode cX4_semicolon 20 = .ok (.if_icmp .ne 5, 3) := by decide +kernel
theorem dX4_semicolon_23 : decode cX4_semicolon 23 = .ok (.iload_n 1, 1) := by decide +kernel
theorem dX4_semicolon_24 : decode cX4_semicolon 24 = .ok (.ireturn, 1) := by decide +kernel
theorem dX4_semicolon_25 : decode cX4_semicolon 25 = .ok (.iinc 1 1, 3) := by decide +kernel
theorem dX4_semicolon_28 : decode cX4_semicolon 28 = .ok (.goto (-26), 3) := by decide +kernel
theorem dX4_semicolon_31 : decode cX4_semicolon 31 = .ok (.iconst (-1), 1) := by decide +kernel
theorem dX4_semicolon_32 : decode cX4_semicolon 32 = .ok (.ireturn, 1) := by decide +kernel
theorem dX4_firstFault_0 : decode cX4_firstFault 0 = .ok (.aload_n 0, 1) := by decide +kernel
theorem dX4_firstFault_1 : decode cX4_firstFault 1 = .ok (.invokevirtual 27, 3) := by decide +kernel
theorem dX4_firstFault_4 : decode cX4_firstFault 4 = .ok (.istore_n 1, 1) := by decide +kernel
theorem dX4_firstFault_5 : decode cX4_firstFault 5 = .ok (.iconst 0, 1) := by decide +kernel
theorem dX4_firstFault_6 : decode cX4_firstFault 6 = .ok (.istore_n 2, 1) := by decide +kernel
theorem dX4_firstFault_7 : decode cX4_firstFault 7 = .ok (.iload_n 2, 1) := by decide +kernel
theorem dX4_firstFault_8 : decode cX4_firstFault 8 = .ok (.aload_n 0, 1) := by decide +kernel
theorem dX4_firstFault_9 : decode cX4_firstFault 9 = .ok (.getfield 15, 3) := by decide +kernel
theorem dX4_firstFault_12 : decode cX4_firstFault 12 = .ok (.if_icmp .ge 63, 3) := by decide +kernel
theorem dX4_firstFault_15 : decode cX4_firstFault 15 = .ok (.aload_n 0, 1) := by decide +kernel
theorem dX4_firstFault_16 : decode cX4_firstFault 16 = .ok (.getfield 9, 3) := by decide +kernel
theorem dX4_firstFault_19 : decode cX4_firstFault 19 = .ok (.iload_n 2, 1) := by decide +kernel
theorem dX4_firstFault_20 : decode cX4_firstFault 20 = .ok (.invokestatic 23, 3) := by decide +kernel
theorem dX4_firstFault_23 : decode cX4_firstFault 23 = .ok (.istore_n 3, 1) := by decide +kernel
theorem dX4_firstFault_24 : decode cX4_firstFault 24 = .ok (.iload_n 1, 1) := by decide +kernel
theorem dX4_firstFault_25 : decode cX4_firstFault 25 = .ok (.iconst (-1), 1) := by decide +kernel
theorem dX4_firstFault_26 : decode cX4_firstFault 26 = .ok (.if_icmp .eq 12, 3) := by decide +kernel
theorem dX4_firstFault_29 : decode cX4_firstFault 29 = .ok (.iload_n 2, 1) := by decide +kernel
theorem dX4_firstFault_30 : decode cX4_firstFault 30 = .ok (.iload_n 1, 1) := by decide +kernel
theorem dX4_firstFault_31 : decode cX4_firstFault 31 = .ok (.if_icmp .le 7, 3) := by decide +kernel
theorem dX4_firstFault_34 : decode cX4_firstFault 34 = .ok (.iconst 1, 1) := by decide +kernel
theorem dX4_firstFault_35 : decode cX4_firstFault 35 = .ok (.goto 4, 3) := by decide +kernel
theorem dX4_firstFault_38 : decode cX4_firstFault 38 = .ok (.iconst 0, 1) := by decide +kernel
theorem dX4_firstFault_39 : decode cX4_firstFault 39 = .ok (.istore 4, 2) := by decide +kernel
theorem dX4_firstFault_41 : decode cX4_firstFault 41 = .ok (.iload 4, 2) := by decide +kernel
theorem dX4_firstFault_43 : decode cX4_firstFault 43 = .ok (.ifCond .eq 16, 3) := by decide +kernel
theorem dX4_firstFault_46 : decode cX4_firstFault 46 = .ok (.iload_n 3, 1) := by decide +kernel
theorem dX4_firstFault_47 : decode cX4_firstFault 47 = .ok (.iload_n 2, 1) := by decide +kernel
theorem dX4_firstFault_48 : decode cX4_firstFault 48 = .ok (.iload_n 1, 1) := by decide +kernel
theorem dX4_firstFault_49 : decode cX4_firstFault 49 = .ok (.isub, 1) := by decide +kernel
theorem dX4_firstFault_50 : decode cX4_firstFault 50 = .ok (.invokestatic 31, 3) := by decide +kernel
theorem dX4_firstFault_53 : decode cX4_firstFault 53 = .ok (.ifCond .ne 16, 3) := by decide +kernel
theorem dX4_firstFault_56 : decode cX4_firstFault 56 = .ok (.goto 11, 3) := by decide +kernel
theorem dX4_firstFault_59 : decode cX4_firstFault 59 = .ok (.iload_n 3, 1) := by decide +kernel
theorem dX4_firstFault_60 : decode cX4_firstFault 60 = .ok (.iload_n 2, 1) := by decide +kernel
theorem dX4_firstFault_61 : decode cX4_firstFault 61 = .ok (.invokestatic 35, 3) := by decide +kernel
theorem dX4_firstFault_64 : decode cX4_firstFault 64 = .ok (.ifCond .ne 5, 3) := by decide +kernel
theorem dX4_firstFault_67 : decode cX4_firstFault 67 = .ok (.iload_n 2, 1) := by decide +kernel
theorem dX4_firstFault_68 : decode cX4_firstFault 68 = .ok (.ireturn, 1) := by decide +kernel
theorem dX4_firstFault_69 : decode cX4_firstFault 69 = .ok (.iinc 2 1, 3) := by decide +kernel
theorem dX4_firstFault_72 : decode cX4_firstFault 72 = .ok (.goto (-65), 3) := by decide +kernel
theorem dX4_firstFault_75 : decode cX4_firstFault 75 = .ok (.aload_n 0, 1) := by decide +kernel
theorem dX4_firstFault_76 : decode cX4_firstFault 76 = .ok (.getfield 15, 3) := by decide +kernel
theorem dX4_firstFault_79 : decode cX4_firstFault 79 = .ok (.ireturn, 1) := by decide +kernel
theorem dX4_isShop_0 : decode cX4_isShop 0 = .ok (.aload_n 0, 1) := by decide +kernel
theorem dX4_isShop_1 : decode cX4_isShop 1 = .ok (.invokevirtual 27, 3) := by decide +kernel
theorem dX4_isShop_4 : decode cX4_isShop 4 = .ok (.istore_n 1, 1) := by decide +kernel
theorem dX4_isShop_5 : decode cX4_isShop 5 = .ok (.iload_n 1, 1) := by decide +kernel
theorem dX4_isShop_6 : decode cX4_isShop 6 = .ok (.iconst (-1), 1) := by decide +kernel
theorem dX4_isShop_7 : decode cX4_isShop 7 = .ok (.if_icmp .eq 28, 3) := by decide +kernel
theorem dX4_isShop_10 : decode cX4_isShop 10 = .ok (.aload_n 0, 1) := by decide +kernel
theorem dX4_isShop_11 : decode cX4_isShop 11 = .ok (.getfield 15, 3) := by decide +kernel
theorem dX4_isShop_14 : decode cX4_isShop 14 = .ok (.iload_n 1, 1) := by decide +kernel
theorem dX4_isShop_15 : decode cX4_isShop 15 = .ok (.iconst 1, 1) := by decide +kernel
theorem dX4_isShop_16 : decode cX4_isShop 16 = .ok (.iadd, 1) := by decide +kernel
theorem dX4_isShop_17 : decode cX4_isShop 17 = .ok (.if_icmp .le 18, 3) := by decide +kernel
theorem dX4_isShop_20 : decode cX4_isShop 20 = .ok (.aload_n 0, 1) := by decide +kernel
theorem dX4_isShop_21 : decode cX4_isShop 21 = .ok (.invokevirtual 38, 3) := by decide +kernel
theorem dX4_isShop_24 : decode cX4_isShop 24 = .ok (.aload_n 0, 1) := by decide +kernel
theorem dX4_isShop_25 : decode cX4_isShop 25 = .ok (.getfield 15, 3) := by decide +kernel
theorem dX4_isShop_28 : decode cX4_isShop 28 = .ok (.if_icmp .ne 7, 3) := by decide +kernel
theorem dX4_isShop_31 : decode cX4_isShop 31 = .ok (.iconst 1, 1) := by decide +kernel
theorem dX4_isShop_32 : decode cX4_isShop 32 = .ok (.goto 4, 3) := by decide +kernel
theorem dX4_isShop_35 : decode cX4_isShop 35 = .ok (.iconst 0, 1) := by decide +kernel
theorem dX4_isShop_36 : decode cX4_isShop 36 = .ok (.ireturn, 1) := by decide +kernel
theorem dX4_isOfGloves_0 : decode cX4_isOfGloves 0 = .ok (.iload_n 1, 1) := by decide +kernel
theorem dX4_isOfGloves_1 : decode cX4_isOfGloves 1 = .ok (.iconst 3, 1) := by decide +kernel
theorem dX4_isOfGloves_2 : decode cX4_isOfGloves 2 = .ok (.idiv, 1) := by decide +kernel
theorem dX4_isOfGloves_3 : decode cX4_isOfGloves 3 = .ok (.iconst 1, 1) := by decide +kernel
theorem dX4_isOfGloves_4 : decode cX4_isOfGloves 4 = .ok (.iadd, 1) := by decide +kernel
theorem dX4_isOfGloves_5 : decode cX4_isOfGloves 5 = .ok (.istore_n 2, 1) := by decide +kernel
theorem dX4_isOfGloves_6 : decode cX4_isOfGloves 6 = .ok (.iload_n 1, 1) := by decide +kernel
theorem dX4_isOfGloves_7 : decode cX4_isOfGloves 7 = .ok (.iconst 3, 1) := by decide +kernel
theorem dX4_isOfGloves_8 : decode cX4_isOfGloves 8 = .ok (.irem, 1) := by decide +kernel
theorem dX4_isOfGloves_9 : decode cX4_isOfGloves 9 = .ok (.lookupswitch 46 #[(0, 27), (1, 41)], 27) := by decide +kernel
theorem dX4_isOfGloves_36 : decode cX4_isOfGloves 36 = .ok (.iload_n 0, 1) := by decide +kernel
theorem dX4_isOfGloves_37 : decode cX4_isOfGloves 37 = .ok (.invokestatic 41, 3) := by decide +kernel
theorem dX4_isOfGloves_40 : decode cX4_isOfGloves 40 = .ok (.iconst (-1), 1) := by decide +kernel
theorem dX4_isOfGloves_41 : decode cX4_isOfGloves 41 = .ok (.if_icmp .eq 7, 3) := by decide +kernel
theorem dX4_isOfGloves_44 : decode cX4_isOfGloves 44 = .ok (.iconst 1, 1) := by decide +kernel
theorem dX4_isOfGloves_45 : decode cX4_isOfGloves 45 = .ok (.goto 4, 3) := by decide +kernel
theorem dX4_isOfGloves_48 : decode cX4_isOfGloves 48 = .ok (.iconst 0, 1) := by decide +kernel
theorem dX4_isOfGloves_49 : decode cX4_isOfGloves 49 = .ok (.ireturn, 1) := by decide +kernel
theorem dX4_isOfGloves_50 : decode cX4_isOfGloves 50 = .ok (.iload_n 0, 1) := by decide +kernel
theorem dX4_isOfGloves_51 : decode cX4_isOfGloves 51 = .ok (.invokestatic 45, 3) := by decide +kernel
theorem dX4_isOfGloves_54 : decode cX4_isOfGloves 54 = .ok (.ireturn, 1) := by decide +kernel
theorem dX4_isOfGloves_55 : decode cX4_isOfGloves 55 = .ok (.iload_n 0, 1) := by decide +kernel
theorem dX4_isOfGloves_56 : decode cX4_isOfGloves 56 = .ok (.bipush 44, 2) := by decide +kernel
theorem dX4_isOfGloves_58 : decode cX4_isOfGloves 58 = .ok (.if_icmp .ne 9, 3) := by decide +kernel
theorem dX4_isOfGloves_61 : decode cX4_isOfGloves 61 = .ok (.iload_n 2, 1) := by decide +kernel
theorem dX4_isOfGloves_62 : decode cX4_isOfGloves 62 = .ok (.bipush 6, 2) := by decide +kernel
theorem dX4_isOfGloves_64 : decode cX4_isOfGloves 64 = .ok (.if_icmp .lt 14, 3) := by decide +kernel
theorem dX4_isOfGloves_67 : decode cX4_isOfGloves 67 = .ok (.iload_n 0, 1) := by decide +kernel
theorem dX4_isOfGloves_68 : decode cX4_isOfGloves 68 = .ok (.bipush 59, 2) := by decide +kernel
theorem dX4_isOfGloves_70 : decode cX4_isOfGloves 70 = .ok (.if_icmp .ne 12, 3) := by decide +kernel
theorem dX4_isOfGloves_73 : decode cX4_isOfGloves 73 = .ok (.iload_n 2, 1) := by decide +kernel
theorem dX4_isOfGloves_74 : decode cX4_isOfGloves 74 = .ok (.iconst 2, 1) := by decide +kernel
theorem dX4_isOfGloves_75 : decode cX4_isOfGloves 75 = .ok (.if_icmp .lt 7, 3) := by decide +kernel
theorem dX4_isOfGloves_78 : decode cX4_isOfGloves 78 = .ok (.iconst 1, 1) := by decide +kernel
theorem dX4_isOfGloves_79 : decode cX4_isOfGloves 79 = .ok (.goto 4, 3) := by decide +kernel
theorem dX4_isOfGloves_82 : decode cX4_isOfGloves 82 = .ok (.iconst 0, 1) := by decide +kernel
theorem dX4_isOfGloves_83 : decode cX4_isOfGloves 83 = .ok (.ireturn, 1) := by decide +kernel
theorem dX4_isNerve_0 : decode cX4_isNerve 0 = .ok (.iload_n 0, 1) := by decide +kernel
theorem dX4_isNerve_1 : decode cX4_isNerve 1 = .ok (.invokestatic 45, 3) := by decide +kernel
theorem dX4_isNerve_4 : decode cX4_isNerve 4 = .ok (.ifCond .eq 12, 3) := by decide +kernel
theorem dX4_isNerve_7 : decode cX4_isNerve 7 = .ok (.iload_n 1, 1) := by decide +kernel
theorem dX4_isNerve_8 : decode cX4_isNerve 8 = .ok (.iconst 3, 1) := by decide +kernel
theorem dX4_isNerve_9 : decode cX4_isNerve 9 = .ok (.if_icmp .gt 7, 3) := by decide +kernel
theorem dX4_isNerve_12 : decode cX4_isNerve 12 = .ok (.iconst 1, 1) := by decide +kernel
theorem dX4_isNerve_13 : decode cX4_isNerve 13 = .ok (.goto 4, 3) := by decide +kernel
theorem dX4_isNerve_16 : decode cX4_isNerve 16 = .ok (.iconst 0, 1) := by decide +kernel
theorem dX4_isNerve_17 : decode cX4_isNerve 17 = .ok (.ireturn, 1) := by decide +kernel
theorem dX4_isDigit_0 : decode cX4_isDigit 0 = .ok (.iload_n 0, 1) := by decide +kernel
theorem dX4_isDigit_1 : decode cX4_isDigit 1 = .ok (.bipush 48, 2) := by decide +kernel
theorem dX4_isDigit_3 : decode cX4_isDigit 3 = .ok (.bipush 57, 2) := by decide +kernel
theorem dX4_isDigit_5 : decode cX4_isDigit 5 = .ok (.invokestatic 49, 3) := by decide +kernel
theorem dX4_isDigit_8 : decode cX4_isDigit 8 = .ok (.ireturn, 1) := by decide +kernel
theorem dX4_readInto_0 : decode cX4_readInto 0 = .ok (.aload_n 0, 1) := by decide +kernel
theorem dX4_readInto_1 : decode cX4_readInto 1 = .ok (.invokevirtual 27, 3) := by decide +kernel
theorem dX4_readInto_4 : decode cX4_readInto 4 = .ok (.istore_n 2, 1) := by decide +kernel
theorem dX4_readInto_5 : decode cX4_readInto 5 = .ok (.aload_n 1, 1) := by decide +kernel
theorem dX4_readInto_6 : decode cX4_readInto 6 = .ok (.iload_n 2, 1) := by decide +kernel
theorem dX4_readInto_7 : decode cX4_readInto 7 = .ok (.iconst 1, 1) := by decide +kernel
theorem dX4_readInto_8 : decode cX4_readInto 8 = .ok (.iadd, 1) := by decide +kernel
theorem dX4_readInto_9 : decode cX4_readInto 9 = .ok (.iconst 3, 1) := by decide +kernel
theorem dX4_readInto_10 : decode cX4_readInto 10 = .ok (.idiv, 1) := by decide +kernel
theorem dX4_readInto_11 : decode cX4_readInto 11 = .ok (.aload_n 0, 1) := by decide +kernel
theorem dX4_readInto_12 : decode cX4_readInto 12 = .ok (.getfield 15, 3) := by decide +kernel
theorem dX4_readInto_15 : decode cX4_readInto 15 = .ok (.iload_n 2, 1) := by decide +kernel
theorem dX4_readInto_16 : decode cX4_readInto 16 = .ok (.isub, 1) := by decide +kernel
theorem dX4_readInto_17 : decode cX4_readInto 17 = .ok (.iconst 1, 1) := by decide +kernel
theorem dX4_readInto_18 : decode cX4_readInto 18 = .ok (.isub, 1) := by decide +kernel
theorem dX4_readInto_19 : decode cX4_readInto 19 = .ok (.invokevirtual 53, 3) := by decide +kernel
theorem dX4_readInto_22 : decode cX4_readInto 22 = .ok (.iconst 0, 1) := by decide +kernel
theorem dX4_readInto_23 : decode cX4_readInto 23 = .ok (.istore_n 3, 1) := by decide +kernel
theorem dX4_readInto_24 : decode cX4_readInto 24 = .ok (.iload_n 3, 1) := by decide +kernel
theorem dX4_readInto_25 : decode cX4_readInto 25 = .ok (.aload_n 1, 1) := by decide +kernel
theorem dX4_readInto_26 : decode cX4_readInto 26 = .ok (.getfield 59, 3) := by decide +kernel
theorem dX4_readInto_29 : decode cX4_readInto 29 = .ok (.if_icmp .ge 53, 3) := by decide +kernel
theorem dX4_readInto_32 : decode cX4_readInto 32 = .ok (.aload_n 1, 1) := by decide +kernel
theorem dX4_readInto_33 : decode cX4_readInto 33 = .ok (.getfield 62, 3) := by decide +kernel
theorem dX4_readInto_36 : decode cX4_readInto 36 = .ok (.iload_n 3, 1) := by decide +kernel
theorem dX4_readInto_37 : decode cX4_readInto 37 = .ok (.aload_n 0, 1) := by decide +kernel
theorem dX4_readInto_38 : decode cX4_readInto 38 = .ok (.getfield 9, 3) := by decide +kernel
theorem dX4_readInto_41 : decode cX4_readInto 41 = .ok (.iconst 3, 1) := by decide +kernel
theorem dX4_readInto_42 : decode cX4_readInto 42 = .ok (.iload_n 3, 1) := by decide +kernel
theorem dX4_readInto_43 : decode cX4_readInto 43 = .ok (.imul, 1) := by decide +kernel
theorem dX4_readInto_44 : decode cX4_readInto 44 = .ok (.invokestatic 23, 3) := by decide +kernel
theorem dX4_readInto_47 : decode cX4_readInto 47 = .ok (.invokestatic 41, 3) := by decide +kernel
theorem dX4_readInto_50 : decode cX4_readInto 50 = .ok (.invokestatic 19, 3) := by decide +kernel
theorem dX4_readInto_53 : decode cX4_readInto 53 = .ok (.aload_n 1, 1) := by decide +kernel
theorem dX4_readInto_54 : decode cX4_readInto 54 = .ok (.getfield 65, 3) := by decide +kernel
theorem dX4_readInto_57 : decode cX4_readInto 57 = .ok (.iload_n 3, 1) := by decide +kernel
theorem dX4_readInto_58 : decode cX4_readInto 58 = .ok (.aload_n 0, 1) := by decide +kernel
theorem dX4_readInto_59 : decode cX4_readInto 59 = .ok (.getfield 9, 3) := by decide +kernel
theorem dX4_readInto_62 : decode cX4_readInto 62 = .ok (.iconst 3, 1) := by decide +kernel
theorem dX4_readInto_63 : decode cX4_readInto 63 = .ok (.iload_n 3, 1) := by decide +kernel
theorem dX4_readInto_64 : decode cX4_readInto 64 = .ok (.imul, 1) := by decide +kernel
theorem dX4_readInto_65 : decode cX4_readInto 65 = .ok (.iconst 1, 1) := by decide +kernel
theorem dX4_readInto_66 : decode cX4_readInto 66 = .ok (.iadd, 1) := by decide +kernel
theorem dX4_readInto_67 : decode cX4_readInto 67 = .ok (.invokestatic 23, 3) := by decide +kernel
theorem dX4_readInto_70 : decode cX4_readInto 70 = .ok (.bipush 48, 2) := by decide +kernel
theorem dX4_readInto_72 : decode cX4_readInto 72 = .ok (.isub, 1) := by decide +kernel
theorem dX4_readInto_73 : decode cX4_readInto 73 = .ok (.invokestatic 19, 3) := by decide +kernel
theorem dX4_readInto_76 : decode cX4_readInto 76 = .ok (.iinc 3 1, 3) := by decide +kernel
theorem dX4_readInto_79 : decode cX4_readInto 79 = .ok (.goto (-55), 3) := by decide +kernel
theorem dX4_readInto_82 : decode cX4_readInto 82 = .ok (.iconst 0, 1) := by decide +kernel
theorem dX4_readInto_83 : decode cX4_readInto 83 = .ok (.istore_n 3, 1) := by decide +kernel
theorem dX4_readInto_84 : decode cX4_readInto 84 = .ok (.iload_n 3, 1) := by decide +kernel
theorem dX4_readInto_85 : decode cX4_readInto 85 = .ok (.aload_n 1, 1) := by decide +kernel
theorem dX4_readInto_86 : decode cX4_readInto 86 = .ok (.getfield 68, 3) := by decide +kernel
theorem dX4_readInto_89 : decode cX4_readInto 89 = .ok (.if_icmp .ge 32, 3) := by decide +kernel
theorem dX4_readInto_92 : decode cX4_readInto 92 = .ok (.aload_n 1, 1) := by decide +kernel
theorem dX4_readInto_93 : decode cX4_readInto 93 = .ok (.getfield 71, 3) := by decide +kernel
theorem dX4_readInto_96 : decode cX4_readInto 96 = .ok (.iload_n 3, 1) := by decide +kernel
theorem dX4_readInto_97 : decode cX4_readInto 97 = .ok (.aload_n 0, 1) := by decide +kernel
theorem dX4_readInto_98 : decode cX4_readInto 98 = .ok (.getfield 9, 3) := by decide +kernel
theorem dX4_readInto_101 : decode cX4_readInto 101 = .ok (.iload_n 2, 1) := by decide +kernel
theorem dX4_readInto_102 : decode cX4_readInto 102 = .ok (.iconst 1, 1) := by decide +kernel
theorem dX4_readInto_103 : decode cX4_readInto 103 = .ok (.iadd, 1) := by decide +kernel
theorem dX4_readInto_104 : decode cX4_readInto 104 = .ok (.iload_n 3, 1) := by decide +kernel
theorem dX4_readInto_105 : decode cX4_readInto 105 = .ok (.iadd, 1) := by decide +kernel
theorem dX4_readInto_106 : decode cX4_readInto 106 = .ok (.invokestatic 23, 3) := by decide +kernel
theorem dX4_readInto_109 : decode cX4_readInto 109 = .ok (.bipush 48, 2) := by decide +kernel
theorem dX4_readInto_111 : decode cX4_readInto 111 = .ok (.isub, 1) := by decide +kernel
theorem dX4_readInto_112 : decode cX4_readInto 112 = .ok (.invokestatic 19, 3) := by decide +kernel
theorem dX4_readInto_115 : decode cX4_readInto 115 = .ok (.iinc 3 1, 3) := by decide +kernel
theorem dX4_readInto_118 : decode cX4_readInto 118 = .ok (.goto (-34), 3) := by decide +kernel
theorem dX4_readInto_121 : decode cX4_readInto 121 = .ok (.return_, 1) := by decide +kernel
theorem dX5_init_0 : decode cX5_init 0 = .ok (.aload_n 0, 1) := by decide +kernel
theorem dX5_init_1 : decode cX5_init 1 = .ok (.invokespecial 3, 3) := by decide +kernel
theorem dX5_init_4 : decode cX5_init 4 = .ok (.aload_n 0, 1) := by decide +kernel
theorem dX5_init_5 : decode cX5_init 5 = .ok (.bipush 6, 2) := by decide +kernel
theorem dX5_init_7 : decode cX5_init 7 = .ok (.newarray .int, 2) := by decide +kernel
theorem dX5_init_9 : decode cX5_init 9 = .ok (.putfield 9, 3) := by decide +kernel
theorem dX5_init_12 : decode cX5_init 12 = .ok (.aload_n 0, 1) := by decide +kernel
theorem dX5_init_13 : decode cX5_init 13 = .ok (.bipush 6, 2) := by decide +kernel
theorem dX5_init_15 : decode cX5_init 15 = .ok (.newarray .int, 2) := by decide +kernel
theorem dX5_init_17 : decode cX5_init 17 = .ok (.putfield 15, 3) := by decide +kernel
theorem dX5_init_20 : decode cX5_init 20 = .ok (.aload_n 0, 1) := by decide +kernel
theorem dX5_init_21 : decode cX5_init 21 = .ok (.bipush 6, 2) := by decide +kernel
theorem dX5_init_23 : decode cX5_init 23 = .ok (.newarray .int, 2) := by decide +kernel
theorem dX5_init_25 : decode cX5_init 25 = .ok (.putfield 18, 3) := by decide +kernel
theorem dX5_init_28 : decode cX5_init 28 = .ok (.aload_n 0, 1) := by decide +kernel
theorem dX5_init_29 : decode cX5_init 29 = .ok (.bipush 6, 2) := by decide +kernel
theorem dX5_init_31 : decode cX5_init 31 = .ok (.newarray .int, 2) := by decide +kernel
theorem dX5_init_33 : decode cX5_init 33 = .ok (.putfield 21, 3) := by decide +kernel
theorem dX5_init_36 : decode cX5_init 36 = .ok (.aload_n 0, 1) := by decide +kernel
theorem dX5_init_37 : decode cX5_init 37 = .ok (.bipush 6, 2) := by decide +kernel
theorem dX5_init_39 : decode cX5_init 39 = .ok (.newarray .int, 2) := by decide +kernel
theorem dX5_init_41 : decode cX5_init 41 = .ok (.putfield 24, 3) := by decide +kernel
theorem dX5_init_44 : decode cX5_init 44 = .ok (.aload_n 0, 1) := by decide +kernel
theorem dX5_init_45 : decode cX5_init 45 = .ok (.iconst 3, 1) := by decide +kernel
theorem dX5_init_46 : decode cX5_init 46 = .ok (.newarray .int, 2) := by decide +kernel
theorem dX5_init_48 : decode cX5_init 48 = .ok (.putfield 27, 3) := by decide +kernel
theorem dX5_init_51 : decode cX5_init 51 = .ok (.aload_n 0, 1) := by decide +kernel
theorem dX5_init_52 : decode cX5_init 52 = .ok (.iconst 3, 1) := by decide +kernel
theorem dX5_init_53 : decode cX5_init 53 = .ok (.newarray .int, 2) := by decide +kernel
theorem dX5_init_55 : decode cX5_init 55 = .ok (.putfield 30, 3) := by decide +kernel
theorem dX5_init_58 : decode cX5_init 58 = .ok (.aload_n 0, 1) := by decide +kernel
theorem dX5_init_59 : decode cX5_init 59 = .ok (.bipush 8, 2) := by decide +kernel
theorem dX5_init_61 : decode cX5_init 61 = .ok (.newarray .int, 2) := by decide +kernel
theorem dX5_init_63 : decode cX5_init 63 = .ok (.putfield 33, 3) := by decide +kernel
theorem dX5_init_66 : decode cX5_init 66 = .ok (.aload_n 0, 1) := by decide +kernel
theorem dX5_init_67 : decode cX5_init 67 = .ok (.bipush 8, 2) := by decide +kernel
theorem dX5_init_69 : decode cX5_init 69 = .ok (.newarray .int, 2) := by decide +kernel
theorem dX5_init_71 : decode cX5_init 71 = .ok (.putfield 36, 3) := by decide +kernel
theorem dX5_init_74 : decode cX5_init 74 = .ok (.aload_n 0, 1) := by decide +kernel
theorem dX5_init_75 : decode cX5_init 75 = .ok (.bipush 8, 2) := by decide +kernel
theorem dX5_init_77 : decode cX5_init 77 = .ok (.newarray .int, 2) := by decide +kernel
theorem dX5_init_79 : decode cX5_init 79 = .ok (.putfield 39, 3) := by decide +kernel
theorem dX5_init_82 : decode cX5_init 82 = .ok (.aload_n 0, 1) := by decide +kernel
theorem dX5_init_83 : decode cX5_init 83 = .ok (.bipush 10, 2) := by decide +kernel
theorem dX5_init_85 : decode cX5_init 85 = .ok (.newarray .int, 2) := by decide +kernel
theorem dX5_init_87 : decode cX5_init 87 = .ok (.putfield 42, 3) := by decide +kernel
theorem dX5_init_90 : decode cX5_init 90 = .ok (.return_, 1) := by decide +kernel
theorem dX5_open_0 : decode cX5_open 0 = .ok (.aload_n 0, 1) := by decide +kernel
theorem dX5_open_1 : decode cX5_open 1 = .ok (.iload_n 1, 1) := by decide +kernel
theorem dX5_open_2 : decode cX5_open 2 = .ok (.putfield 45, 3) := by decide +kernel
theorem dX5_open_5 : decode cX5_open 5 = .ok (.aload_n 0, 1) := by decide +kernel
theorem dX5_open_6 : decode cX5_open 6 = .ok (.iload_n 2, 1) := by decide +kernel
theorem dX5_open_7 : decode cX5_open 7 = .ok (.putfield 49, 3) := by decide +kernel
theorem dX5_open_10 : decode cX5_open 10 = .ok (.aload_n 0, 1) := by decide +kernel
theorem dX5_open_11 : decode cX5_open 11 = .ok (.iconst 0, 1) := by decide +kernel
theorem dX5_open_12 : decode cX5_open 12 = .ok (.putfield 52, 3) := by decide +kernel
theorem dX5_open_15 : decode cX5_open 15 = .ok (.aload_n 0, 1) := by decide +kernel
theorem dX5_open_16 : decode cX5_open 16 = .ok (.iconst 0, 1) := by decide +kernel
theorem dX5_open_17 : decode cX5_open 17 = .ok (.putfield 55, 3) := by decide +kernel
theorem dX5_open_20 : decode cX5_open 20 = .ok (.aload_n 0, 1) := by decide +kernel
theorem dX5_open_21 : decode cX5_open 21 = .ok (.getfield 18, 3) := by decide +kernel
theorem dX5_open_24 : decode cX5_open 24 = .ok (.iconst 0, 1) := by decide +kernel
theorem dX5_open_25 : decode cX5_open 25 = .ok (.invokestatic 58, 3) := by decide +kernel
theorem dX5_open_28 : decode cX5_open 28 = .ok (.aload_n 0, 1) := by decide +kernel
theorem dX5_open_29 : decode cX5_open 29 = .ok (.getfield 21, 3) := by decide +kernel
theorem dX5_open_32 : decode cX5_open 32 = .ok (.iconst (-1), 1) := by decide +kernel
theorem dX5_open_33 : decode cX5_open 33 = .ok (.invokestatic 58, 3) := by decide +kernel
theorem dX5_open_36 : decode cX5_open 36 = .ok (.aload_n 0, 1) := by decide +kernel
theorem dX5_open_37 : decode cX5_open 37 = .ok (.getfield 24, 3) := by decide +kernel
theorem dX5_open_40 : decode cX5_open 40 = .ok (.iconst (-1), 1) := by decide +kernel
theorem dX5_open_41 : decode cX5_open 41 = .ok (.invokestatic 58, 3) := by decide +kernel
theorem dX5_open_44 : decode cX5_open 44 = .ok (.aload_n 0, 1) := by decide +kernel
theorem dX5_open_45 : decode cX5_open 45 = .ok (.getfield 30, 3) := by decide +kernel
theorem dX5_open_48 : decode cX5_open 48 = .ok (.iconst 2, 1) := by decide +kernel
theorem dX5_open_49 : decode cX5_open 49 = .ok (.invokestatic 58, 3) := by decide +kernel
theorem dX5_open_52 : decode cX5_open 52 = .ok (.return_, 1) := by decide +kernel
theorem dX5_copyFrom_0 : decode cX5_copyFrom 0 = .ok (.aload_n 0, 1) := by decide +kernel
theorem dX5_copyFrom_1 : decode cX5_copyFrom 1 = .ok (.aload_n 1, 1) := by decide +kernel
theorem dX5_copyFrom_2 : decode cX5_copyFrom 2 = .ok (.getfield 45, 3) := by decide +kernel
theorem dX5_copyFrom_5 : decode cX5_copyFrom 5 = .ok (.putfield 45, 3) := by decide +kernel
theorem dX5_copyFrom_8 : decode cX5_copyFrom 8 = .ok (.aload_n 0, 1) := by decide +kernel
theorem dX5_copyFrom_9 : decode cX5_copyFrom 9 = .ok (.aload_n 1, 1) := by decide +kernel
theorem dX5_copyFrom_10 : decode cX5_copyFrom 10 = .ok (.getfield 49, 3) := by decide +kernel
theorem dX5_copyFrom_13 : decode cX5_copyFrom 13 = .ok (.putfield 49, 3) := by decide +kernel
theorem dX5_copyFrom_16 : decode cX5_copyFrom 16 = .ok (.aload_n 0, 1) := by decide +kernel
theorem dX5_copyFrom_17 : decode cX5_copyFrom 17 = .ok (.aload_n 1, 1) := by decide +kernel
theorem dX5_copyFrom_18 : decode cX5_copyFrom 18 = .ok (.getfield 52, 3) := by decide +kernel
theorem dX5_copyFrom_21 : decode cX5_copyFrom 21 = .ok (.putfield 52, 3) := by decide +kernel
theorem dX5_copyFrom_24 : decode cX5_copyFrom 24 = .ok (.aload_n 0, 1) := by decide +kernel
theorem dX5_copyFrom_25 : decode cX5_copyFrom 25 = .ok (.aload_n 1, 1) := by decide +kernel
theorem dX5_copyFrom_26 : decode cX5_copyFrom 26 = .ok (.getfield 55, 3) := by decide +kernel
theorem dX5_copyFrom_29 : decode cX5_copyFrom 29 = .ok (.putfield 55, 3) := by decide +kernel
theorem dX5_copyFrom_32 : decode cX5_copyFrom 32 = .ok (.aload_n 1, 1) := by decide +kernel
theorem dX5_copyFrom_33 : decode cX5_copyFrom 33 = .ok (.getfield 9, 3) := by decide +kernel
theorem dX5_copyFrom_36 : decode cX5_copyFrom 36 = .ok (.aload_n 0, 1) := by decide +kernel
theorem dX5_copyFrom_37 : decode cX5_copyFrom 37 = .ok (.getfield 9, 3) := by decide +kernel
theorem dX5_copyFrom_40 : decode cX5_copyFrom 40 = .ok (.invokestatic 64, 3) := by decide +kernel
theorem dX5_copyFrom_43 : decode cX5_copyFrom 43 = .ok (.aload_n 1, 1) := by decide +kernel
theorem dX5_copyFrom_44 : decode cX5_copyFrom 44 = .ok (.getfield 15, 3) := by decide +kernel
theorem dX5_copyFrom_47 : decode cX5_copyFrom 47 = .ok (.aload_n 0, 1) := by decide +kernel
theorem dX5_copyFrom_48 : decode cX5_copyFrom 48 = .ok (.getfield 15, 3) := by decide +kernel
theorem dX5_copyFrom_51 : decode cX5_copyFrom 51 = .ok (.invokestatic 64, 3) := by decide +kernel
theorem dX5_copyFrom_54 : decode cX5_copyFrom 54 = .ok (.aload_n 1, 1) := by decide +kernel
theorem dX5_copyFrom_55 : decode cX5_copyFrom 55 = .ok (.getfield 18, 3) := by decide +kernel
theorem dX5_copyFrom_58 : decode cX5_copyFrom 58 = .ok (.aload_n 0, 1) := by decide +kernel
theorem dX5_copyFrom_59 : decode cX5_copyFrom 59 = .ok (.getfield 18, 3) := by decide +kernel
theorem dX5_copyFrom_62 : decode cX5_copyFrom 62 = .ok (.invokestatic 64, 3) := by decide +kernel
theorem dX5_copyFrom_65 : decode cX5_copyFrom 65 = .ok (.aload_n 1, 1) := by decide +kernel
theorem dX5_copyFrom_66 : decode cX5_copyFrom 66 = .ok (.getfield 21, 3) := by decide +kernel
theorem dX5_copyFrom_69 : decode cX5_copyFrom 69 = .ok (.aload_n 0, 1) := by decide +kernel
theorem dX5_copyFrom_70 : decode cX5_copyFrom 70 = .ok (.getfield 21, 3) := by decide +kernel
theorem dX5_copyFrom_73 : decode cX5_copyFrom 73 = .ok (.invokestatic 64, 3) := by decide +kernel
theorem dX5_copyFrom_76 : decode cX5_copyFrom 76 = .ok (.aload_n 1, 1) := by decide +kernel
theorem dX5_copyFrom_77 : decode cX5_copyFrom 77 = .ok (.getfield 24, 3) := by decide +kernel
theorem dX5_copyFrom_80 : decode cX5_copyFrom 80 = .ok (.aload_n 0, 1) := by decide +kernel
theorem dX5_copyFrom_81 : decode cX5_copyFrom 81 = .ok (.getfield 24, 3) := by decide +kernel
theorem dX5_copyFrom_84 : decode cX5_copyFrom 84 = .ok (.invokestatic 64, 3) := by decide +kernel
theorem dX5_copyFrom_87 : decode cX5_copyFrom 87 = .ok (.aload_n 1, 1) := by decide +kernel
theorem dX5_copyFrom_88 : decode cX5_copyFrom 88 = .ok (.getfield 27, 3) := by decide +kernel
theorem dX5_copyFrom_91 : decode cX5_copyFrom 91 = .ok (.aload_n 0, 1) := by decide +kernel
theorem dX5_copyFrom_92 : decode cX5_copyFrom 92 = .ok (.getfield 27, 3) := by decide +kernel
theorem dX5_copyFrom_95 : decode cX5_copyFrom 95 = .ok (.invokestatic 64, 3) := by decide +kernel
theorem dX5_copyFrom_98 : decode cX5_copyFrom 98 = .ok (.aload_n 1, 1) := by decide +kernel
theorem dX5_copyFrom_99 : decode cX5_copyFrom 99 = .ok (.getfield 30, 3) := by decide +kernel
theorem dX5_copyFrom_102 : decode cX5_copyFrom 102 = .ok (.aload_n 0, 1) := by decide +kernel
theorem dX5_copyFrom_103 : decode cX5_copyFrom 103 = .ok (.getfield 30, 3) := by decide +kernel
theorem dX5_copyFrom_106 : decode cX5_copyFrom 106 = .ok (.invokestatic 64, 3) := by decide +kernel
theorem dX5_copyFrom_109 : decode cX5_copyFrom 109 = .ok (.aload_n 1, 1) := by decide +kernel
theorem dX5_copyFrom_110 : decode cX5_copyFrom 110 = .ok (.getfield 33, 3) := by decide +kernel
theorem dX5_copyFrom_113 : decode cX5_copyFrom 113 = .ok (.aload_n 0, 1) := by decide +kernel
theorem dX5_copyFrom_114 : decode cX5_copyFrom 114 = .ok (.getfield 33, 3) := by decide +kernel
theorem dX5_copyFrom_117 : decode cX5_copyFrom 117 = .ok (.invokestatic 64, 3) := by decide +kernel
theorem dX5_copyFrom_120 : decode cX5_copyFrom 120 = .ok (.aload_n 1, 1) := by decide +kernel
theorem dX5_copyFrom_121 : decode cX5_copyFrom 121 = .ok (.getfield 36, 3) := by decide +kernel
theorem dX5_copyFrom_124 : decode cX5_copyFrom 124 = .ok (.aload_n 0, 1) := by decide +kernel
theorem dX5_copyFrom_125 : decode cX5_copyFrom 125 = .ok (.getfield 36, 3) := by decide +kernel
theorem dX5_copyFrom_128 : decode cX5_copyFrom 128 = .ok (.invokestatic 64, 3) := by decide +kernel
theorem dX5_copyFrom_131 : decode cX5_copyFrom 131 = .ok (.aload_n 1, 1) := by decide +kernel
theorem dX5_copyFrom_132 : decode cX5_copyFrom 132 = .ok (.getfield 39, 3) := by decide +kernel
theorem dX5_copyFrom_135 : decode cX5_copyFrom 135 = .ok (.aload_n 0, 1) := by decide +kernel
theorem dX5_copyFrom_136 : decode cX5_copyFrom 136 = .ok (.getfield 39, 3) := by decide +kernel
theorem dX5_copyFrom_139 : decode cX5_copyFrom 139 = .ok (.invokestatic 64, 3) := by decide +kernel
theorem dX5_copyFrom_142 : decode cX5_copyFrom 142 = .ok (.return_, 1) := by decide +kernel
theorem dX5_hasGlove_0 : decode cX5_hasGlove 0 = .ok (.iload_n 1, 1) := by decide +kernel
theorem dX5_hasGlove_1 : decode cX5_hasGlove 1 = .ok (.ifCond .lt 15, 3) := by decide +kernel
theorem dX5_hasGlove_4 : decode cX5_hasGlove 4 = .ok (.iload_n 1, 1) := by decide +kernel
theorem dX5_hasGlove_5 : decode cX5_hasGlove 5 = .ok (.aload_n 0, 1) := by decide +kernel
theorem dX5_hasGlove_6 : decode cX5_hasGlove 6 = .ok (.getfield 45, 3) := by decide +kernel
theorem dX5_hasGlove_9 : decode cX5_hasGlove 9 = .ok (.if_icmp .ge 7, 3) := by decide +kernel
theorem dX5_hasGlove_12 : decode cX5_hasGlove 12 = .ok (.iconst 1, 1) := by decide +kernel
theorem dX5_hasGlove_13 : decode cX5_hasGlove 13 = .ok (.goto 4, 3) := by decide +kernel
theorem dX5_hasGlove_16 : decode cX5_hasGlove 16 = .ok (.iconst 0, 1) := by decide +kernel
theorem dX5_hasGlove_17 : decode cX5_hasGlove 17 = .ok (.ireturn, 1) := by decide +kernel
theorem dX5_hasWearer_0 : decode cX5_hasWearer 0 = .ok (.iload_n 1, 1) := by decide +kernel
theorem dX5_hasWearer_1 : decode cX5_hasWearer 1 = .ok (.ifCond .lt 15, 3) := by decide +kernel
theorem dX5_hasWearer_4 : decode cX5_hasWearer 4 = .ok (.iload_n 1, 1) := by decide +kernel
theorem dX5_hasWearer_5 : decode cX5_hasWearer 5 = .ok (.aload_n 0, 1) := by decide +kernel
theorem dX5_hasWearer_6 : decode cX5_hasWearer 6 = .ok (.getfield 49, 3) := by decide +kernel
theorem dX5_hasWearer_9 : decode cX5_hasWearer 9 = .ok (.if_icmp .ge 7, 3) := by decide +kernel
theorem dX5_hasWearer_12 : decode cX5_hasWearer 12 = .ok (.iconst 1, 1) := by decide +kernel
theorem dX5_hasWearer_13 : decode cX5_hasWearer 13 = .ok (.goto 4, 3) := by decide +kernel
theorem dX5_hasWearer_16 : decode cX5_hasWearer 16 = .ok (.iconst 0, 1) := by decide +kernel
theorem dX5_hasWearer_17 : decode cX5_hasWearer 17 = .ok (.ireturn, 1) := by decide +kernel
theorem dX5_putOn_0 : decode cX5_putOn 0 = .ok (.aload_n 0, 1) := by decide +kernel
theorem dX5_putOn_1 : decode cX5_putOn 1 = .ok (.getfield 21, 3) := by decide +kernel
theorem dX5_putOn_4 : decode cX5_putOn 4 = .ok (.iload_n 1, 1) := by decide +kernel
theorem dX5_putOn_5 : decode cX5_putOn 5 = .ok (.iload_n 2, 1) := by decide +kernel
theorem dX5_putOn_6 : decode cX5_putOn 6 = .ok (.invokestatic 68, 3) := by decide +kernel
theorem dX5_putOn_9 : decode cX5_putOn 9 = .ok (.aload_n 0, 1) := by decide +kernel
theorem dX5_putOn_10 : decode cX5_putOn 10 = .ok (.getfield 24, 3) := by decide +kernel
theorem dX5_putOn_13 : decode cX5_putOn 13 = .ok (.iload_n 1, 1) := by decide +kernel
theorem dX5_putOn_14 : decode cX5_putOn 14 = .ok (.iload_n 3, 1) := by decide +kernel
theorem dX5_putOn_15 : decode cX5_putOn 15 = .ok (.invokestatic 68, 3) := by decide +kernel
theorem dX5_putOn_18 : decode cX5_putOn 18 = .ok (.return_, 1) := by decide +kernel
theorem dX5_takeOff_0 : decode cX5_takeOff 0 = .ok (.aload_n 0, 1) := by decide +kernel
theorem dX5_takeOff_1 : decode cX5_takeOff 1 = .ok (.getfield 21, 3) := by decide +kernel
theorem dX5_takeOff_4 : decode cX5_takeOff 4 = .ok (.iload_n 1, 1) := by decide +kernel
theorem dX5_takeOff_5 : decode cX5_takeOff 5 = .ok (.iconst (-1), 1) := by decide +kernel
theorem dX5_takeOff_6 : decode cX5_takeOff 6 = .ok (.invokestatic 68, 3) := by decide +kernel
theorem dX5_takeOff_9 : decode cX5_takeOff 9 = .ok (.aload_n 0, 1) := by decide +kernel
theorem dX5_takeOff_10 : decode cX5_takeOff 10 = .ok (.getfield 24, 3) := by decide +kernel
theorem dX5_takeOff_13 : decode cX5_takeOff 13 = .ok (.iload_n 1, 1) := by decide +kernel
theorem dX5_takeOff_14 : decode cX5_takeOff 14 = .ok (.iconst (-1), 1) := by decide +kernel
theorem dX5_takeOff_15 : decode cX5_takeOff 15 = .ok (.invokestatic 68, 3) := by decide +kernel
theorem dX5_takeOff_18 : decode cX5_takeOff 18 = .ok (.return_, 1) := by decide +kernel
theorem dX5_gloveOn_0 : decode cX5_gloveOn 0 = .ok (.iconst 0, 1) := by decide +kernel
theorem dX5_gloveOn_1 : decode cX5_gloveOn 1 = .ok (.istore_n 3, 1) := by decide +kernel
theorem dX5_gloveOn_2 : decode cX5_gloveOn 2 = .ok (.iload_n 3, 1) := by decide +kernel
theorem dX5_gloveOn_3 : decode cX5_gloveOn 3 = .ok (.aload_n 0, 1) := by decide +kernel
theorem dX5_gloveOn_4 : decode cX5_gloveOn 4 = .ok (.getfield 45, 3) := by decide +kernel
theorem dX5_gloveOn_7 : decode cX5_gloveOn 7 = .ok (.if_icmp .ge 35, 3) := by decide +kernel
theorem dX5_gloveOn_10 : decode cX5_gloveOn 10 = .ok (.aload_n 0, 1) := by decide +kernel
theorem dX5_gloveOn_11 : decode cX5_gloveOn 11 = .ok (.getfield 21, 3) := by decide +kernel
theorem dX5_gloveOn_14 : decode cX5_gloveOn 14 = .ok (.iload_n 3, 1) := by decide +kernel
theorem dX5_gloveOn_15 : decode cX5_gloveOn 15 = .ok (.invokestatic 72, 3) := by decide +kernel
theorem dX5_gloveOn_18 : decode cX5_gloveOn 18 = .ok (.iload_n 1, 1) := by decide +kernel
theorem dX5_gloveOn_19 : decode cX5_gloveOn 19 = .ok (.if_icmp .ne 17, 3) := by decide +kernel
theorem dX5_gloveOn_22 : decode cX5_gloveOn 22 = .ok (.aload_n 0, 1) := by decide +kernel
theorem dX5_gloveOn_23 : decode cX5_gloveOn 23 = .ok (.getfield 24, 3) := by decide +kernel
theorem dX5_gloveOn_26 : decode cX5_gloveOn 26 = .ok (.iload_n 3, 1) := by decide +kernel
theorem dX5_gloveOn_27 : decode cX5_gloveOn 27 = .ok (.invokestatic 72, 3) := by decide +kernel
theorem dX5_gloveOn_30 : decode cX5_gloveOn 30 = .ok (.iload_n 2, 1) := by decide +kernel
theorem dX5_gloveOn_31 : decode cX5_gloveOn 31 = .ok (.if_icmp .ne 5, 3) := by decide +kernel
theorem dX5_gloveOn_34 : decode cX5_gloveOn 34 = .ok (.iload_n 3, 1) := by decide +kernel
theorem dX5_gloveOn_35 : decode cX5_gloveOn 35 = .ok (.ireturn, 1) := by decide +kernel
theorem dX5_gloveOn_36 : decode cX5_gloveOn 36 = .ok (.iinc 3 1, 3) := by decide +kernel
theorem dX5_gloveOn_39 : decode cX5_gloveOn 39 = .ok (.goto (-37), 3) := by decide +kernel
theorem dX5_gloveOn_42 : decode cX5_gloveOn 42 = .ok (.iconst (-1), 1) := by decide +kernel
theorem dX5_gloveOn_43 : decode cX5_gloveOn 43 = .ok (.ireturn, 1) := by decide +kernel
theorem dX5_heldBy_0 : decode cX5_heldBy 0 = .ok (.iconst 0, 1) := by decide +kernel
theorem dX5_heldBy_1 : decode cX5_heldBy 1 = .ok (.istore_n 2, 1) := by decide +kernel
theorem dX5_heldBy_2 : decode cX5_heldBy 2 = .ok (.iconst 0, 1) := by decide +kernel
theorem dX5_heldBy_3 : decode cX5_heldBy 3 = .ok (.istore_n 3, 1) := by decide +kernel
theorem dX5_heldBy_4 : decode cX5_heldBy 4 = .ok (.iload_n 3, 1) := by decide +kernel
theorem dX5_heldBy_5 : decode cX5_heldBy 5 = .ok (.aload_n 0, 1) := by decide +kernel
theorem dX5_heldBy_6 : decode cX5_heldBy 6 = .ok (.getfield 45, 3) := by decide +kernel
theorem dX5_heldBy_9 : decode cX5_heldBy 9 = .ok (.if_icmp .ge 27, 3) := by decide +kernel
theorem dX5_heldBy_12 : decode cX5_heldBy 12 = .ok (.aload_n 0, 1) := by decide +kernel
theorem dX5_heldBy_13 : decode cX5_heldBy 13 = .ok (.getfield 21, 3) := by decide +kernel
theorem dX5_heldBy_16 : decode cX5_heldBy 16 = .ok (.iload_n 3, 1) := by decide +kernel
theorem dX5_heldBy_17 : decode cX5_heldBy 17 = .ok (.invokestatic 72, 3) := by decide +kernel
theorem dX5_heldBy_20 : decode cX5_heldBy 20 = .ok (.iload_n 1, 1) := by decide +kernel
theorem dX5_heldBy_21 : decode cX5_heldBy 21 = .ok (.if_icmp .ne 9, 3) := by decide +kernel
theorem dX5_heldBy_24 : decode cX5_heldBy 24 = .ok (.iload_n 2, 1) := by decide +kernel
theorem dX5_heldBy_25 : decode cX5_heldBy 25 = .ok (.iconst 1, 1) := by decide +kernel
theorem dX5_heldBy_26 : decode cX5_heldBy 26 = .ok (.iload_n 3, 1) := by decide +kernel
theorem dX5_heldBy_27 : decode cX5_heldBy 27 = .ok (.ishl, 1) := by decide +kernel
theorem dX5_heldBy_28 : decode cX5_heldBy 28 = .ok (.ior, 1) := by decide +kernel
theorem dX5_heldBy_29 : decode cX5_heldBy 29 = .ok (.istore_n 2, 1) := by decide +kernel
theorem dX5_heldBy_30 : decode cX5_heldBy 30 = .ok (.iinc 3 1, 3) := by decide +kernel
theorem dX5_heldBy_33 : decode cX5_heldBy 33 = .ok (.goto (-29), 3) := by decide +kernel
theorem dX5_heldBy_36 : decode cX5_heldBy 36 = .ok (.iload_n 2, 1) := by decide +kernel
theorem dX5_heldBy_37 : decode cX5_heldBy 37 = .ok (.ireturn, 1) := by decide +kernel
theorem dX5_passHour_0 : decode cX5_passHour 0 = .ok (.aload_n 0, 1) := by decide +kernel
theorem dX5_passHour_1 : decode cX5_passHour 1 = .ok (.dup, 1) := by decide +kernel
theorem dX5_passHour_2 : decode cX5_passHour 2 = .ok (.getfield 52, 3) := by decide +kernel
theorem dX5_passHour_5 : decode cX5_passHour 5 = .ok (.iconst 1, 1) := by decide +kernel
theorem dX5_passHour_6 : decode cX5_passHour 6 = .ok (.iadd, 1) := by decide +kernel
theorem dX5_passHour_7 : decode cX5_passHour 7 = .ok (.putfield 52, 3) := by decide +kernel
theorem dX5_passHour_10 : decode cX5_passHour 10 = .ok (.iconst 0, 1) := by decide +kernel
theorem dX5_passHour_11 : decode cX5_passHour 11 = .ok (.istore_n 1, 1) := by decide +kernel
theorem dX5_passHour_12 : decode cX5_passHour 12 = .ok (.iload_n 1, 1) := by decide +kernel
theorem dX5_passHour_13 : decode cX5_passHour 13 = .ok (.aload_n 0, 1) := by decide +kernel
theorem dX5_passHour_14 : decode cX5_passHour 14 = .ok (.getfield 45, 3) := by decide +kernel
theorem dX5_passHour_17 : decode cX5_passHour 17 = .ok (.if_icmp .ge 42, 3) := by decide +kernel
theorem dX5_passHour_20 : decode cX5_passHour 20 = .ok (.aload_n 0, 1) := by decide +kernel
theorem dX5_passHour_21 : decode cX5_passHour 21 = .ok (.getfield 21, 3) := by decide +kernel
theorem dX5_passHour_24 : decode cX5_passHour 24 = .ok (.iload_n 1, 1) := by decide +kernel
theorem dX5_passHour_25 : decode cX5_passHour 25 = .ok (.invokestatic 72, 3) := by decide +kernel
theorem dX5_passHour_28 : decode cX5_passHour 28 = .ok (.iconst (-1), 1) := by decide +kernel
theorem dX5_passHour_29 : decode cX5_passHour 29 = .ok (.if_icmp .eq 24, 3) := by decide +kernel
theorem dX5_passHour_32 : decode cX5_passHour 32 = .ok (.aload_n 0, 1) := by decide +kernel
theorem dX5_passHour_33 : decode cX5_passHour 33 = .ok (.getfield 18, 3) := by decide +kernel
theorem dX5_passHour_36 : decode cX5_passHour 36 = .ok (.iload_n 1, 1) := by decide +kernel
theorem dX5_passHour_37 : decode cX5_passHour 37 = .ok (.aload_n 0, 1) := by decide +kernel
theorem dX5_passHour_38 : decode cX5_passHour 38 = .ok (.getfield 18, 3) := by decide +kernel
theorem dX5_passHour_41 : decode cX5_passHour 41 = .ok (.iload_n 1, 1) := by decide +kernel
theorem dX5_passHour_42 : decode cX5_passHour 42 = .ok (.invokestatic 72, 3) := by decide +kernel
theorem dX5_passHour_45 : decode cX5_passHour 45 = .ok (.iconst 1, 1) := by decide +kernel
theorem dX5_passHour_46 : decode cX5_passHour 46 = .ok (.iadd, 1) := by decide +kernel
theorem dX5_passHour_47 : decode cX5_passHour 47 = .ok (.invokestatic 76, 3) := by decide +kernel
theorem dX5_passHour_50 : decode cX5_passHour 50 = .ok (.invokestatic 68, 3) := by decide +kernel
theorem dX5_passHour_53 : decode cX5_passHour 53 = .ok (.iinc 1 1, 3) := by decide +kernel
theorem dX5_passHour_56 : decode cX5_passHour 56 = .ok (.goto (-44), 3) := by decide +kernel
theorem dX5_passHour_59 : decode cX5_passHour 59 = .ok (.return_, 1) := by decide +kernel
theorem dX5_temper_0 : decode cX5_temper 0 = .ok (.aload_n 0, 1) := by decide +kernel
theorem dX5_temper_1 : decode cX5_temper 1 = .ok (.getfield 9, 3) := by decide +kernel
theorem dX5_temper_4 : decode cX5_temper 4 = .ok (.iload_n 1, 1) := by decide +kernel
theorem dX5_temper_5 : decode cX5_temper 5 = .ok (.invokestatic 72, 3) := by decide +kernel
theorem dX5_temper_8 : decode cX5_temper 8 = .ok (.aload_n 0, 1) := by decide +kernel
theorem dX5_temper_9 : decode cX5_temper 9 = .ok (.getfield 15, 3) := by decide +kernel
theorem dX5_temper_12 : decode cX5_temper 12 = .ok (.iload_n 1, 1) := by decide +kernel
theorem dX5_temper_13 : decode cX5_temper 13 = .ok (.invokestatic 72, 3) := by decide +kernel
theorem dX5_temper_16 : decode cX5_temper 16 = .ok (.aload_n 0, 1) := by decide +kernel
theorem dX5_temper_17 : decode cX5_temper 17 = .ok (.getfield 18, 3) := by decide +kernel
theorem dX5_temper_20 : decode cX5_temper 20 = .ok (.iload_n 1, 1) := by decide +kernel
theorem dX5_temper_21 : decode cX5_temper 21 = .ok (.invokestatic 72, 3) := by decide +kernel
theorem dX5_temper_24 : decode cX5_temper 24 = .ok (.iload_n 2, 1) := by decide +kernel
theorem dX5_temper_25 : decode cX5_temper 25 = .ok (.iadd, 1) := by decide +kernel
theorem dX5_temper_26 : decode cX5_temper 26 = .ok (.invokestatic 76, 3) := by decide +kernel
theorem dX5_temper_29 : decode cX5_temper 29 = .ok (.invokestatic 80, 3) := by decide +kernel
theorem dX5_temper_32 : decode cX5_temper 32 = .ok (.ireturn, 1) := by decide +kernel
theorem dX5_quarrels_0 : decode cX5_quarrels 0 = .ok (.iconst 0, 1) := by decide +kernel
theorem dX5_quarrels_1 : decode cX5_quarrels 1 = .ok (.istore_n 2, 1) := by decide +kernel
theorem dX5_quarrels_2 : decode cX5_quarrels 2 = .ok (.aload_n 0, 1) := by decide +kernel
theorem dX5_quarrels_3 : decode cX5_quarrels 3 = .ok (.iload_n 1, 1) := by decide +kernel
theorem dX5_quarrels_4 : decode cX5_quarrels 4 = .ok (.iconst 0, 1) := by decide +kernel
theorem dX5_quarrels_5 : decode cX5_quarrels 5 = .ok (.invokevirtual 84, 3) := by decide +kernel
theorem dX5_quarrels_8 : decode cX5_quarrels 8 = .ok (.istore_n 3, 1) := by decide +kernel
theorem dX5_quarrels_9 : decode cX5_quarrels 9 = .ok (.iconst 0, 1) := by decide +kernel
theorem dX5_quarrels_10 : decode cX5_quarrels 10 = .ok (.istore 4, 2) := by decide +kernel
theorem dX5_quarrels_12 : decode cX5_quarrels 12 = .ok (.iload 4, 2) := by decide +kernel
theorem dX5_quarrels_14 : decode cX5_quarrels 14 = .ok (.aload_n 0, 1) := by decide +kernel
theorem dX5_quarrels_15 : decode cX5_quarrels 15 = .ok (.getfield 45, 3) := by decide +kernel
theorem dX5_quarrels_18 : decode cX5_quarrels 18 = .ok (.if_icmp .ge 36, 3) := by decide +kernel
theorem dX5_quarrels_21 : decode cX5_quarrels 21 = .ok (.iload_n 3, 1) := by decide +kernel
theorem dX5_quarrels_22 : decode cX5_quarrels 22 = .ok (.aload_n 0, 1) := by decide +kernel
theorem dX5_quarrels_23 : decode cX5_quarrels 23 = .ok (.iload 4, 2) := by decide +kernel
theorem dX5_quarrels_25 : decode cX5_quarrels 25 = .ok (.iconst 0, 1) := by decide +kernel
theorem dX5_quarrels_26 : decode cX5_quarrels 26 = .ok (.invokevirtual 84, 3) := by decide +kernel
theorem dX5_quarrels_29 : decode cX5_quarrels 29 = .ok (.isub, 1) := by decide +kernel
theorem dX5_quarrels_30 : decode cX5_quarrels 30 = .ok (.invokestatic 88, 3) := by decide +kernel
theorem dX5_quarrels_33 : decode cX5_quarrels 33 = .ok (.istore 5, 2) := by decide +kernel
theorem dX5_quarrels_35 : decode cX5_quarrels 35 = .ok (.iload 5, 2) := by decide +kernel
theorem dX5_quarrels_37 : decode cX5_quarrels 37 = .ok (.iconst 4, 1) := by decide +kernel
theorem dX5_quarrels_38 : decode cX5_quarrels 38 = .ok (.if_icmp .lt 10, 3) := by decide +kernel
theorem dX5_quarrels_41 : decode cX5_quarrels 41 = .ok (.iload_n 2, 1) := by decide +kernel
theorem dX5_quarrels_42 : decode cX5_quarrels 42 = .ok (.iconst 1, 1) := by decide +kernel
theorem dX5_quarrels_43 : decode cX5_quarrels 43 = .ok (.iload 4, 2) := by decide +kernel
theorem dX5_quarrels_45 : decode cX5_quarrels 45 = .ok (.ishl, 1) := by decide +kernel
theorem dX5_quarrels_46 : decode cX5_quarrels 46 = .ok (.ior, 1) := by decide +kernel
theorem dX5_quarrels_47 : decode cX5_quarrels 47 = .ok (.istore_n 2, 1) := by decide +kernel
theorem dX5_quarrels_48 : decode cX5_quarrels 48 = .ok (.iinc 4 1, 3) := by decide +kernel
theorem dX5_quarrels_51 : decode cX5_quarrels 51 = .ok (.goto (-39), 3) := by decide +kernel
theorem dX5_quarrels_54 : decode cX5_quarrels 54 = .ok (.iload_n 2, 1) := by decide +kernel
theorem dX5_quarrels_55 : decode cX5_quarrels 55 = .ok (.ireturn, 1) := by decide +kernel
theorem dX5_moodWith_0 : decode cX5_moodWith 0 = .ok (.aload_n 0, 1) := by decide +kernel
theorem dX5_moodWith_1 : decode cX5_moodWith 1 = .ok (.getfield 27, 3) := by decide +kernel
theorem dX5_moodWith_4 : decode cX5_moodWith 4 = .ok (.iload_n 1, 1) := by decide +kernel
theorem dX5_moodWith_5 : decode cX5_moodWith 5 = .ok (.invokestatic 72, 3) := by decide +kernel
theorem dX5_moodWith_8 : decode cX5_moodWith 8 = .ok (.istore 4, 2) := by decide +kernel
theorem dX5_moodWith_10 : decode cX5_moodWith 10 = .ok (.bipush 9, 2) := by decide +kernel
theorem dX5_moodWith_12 : decode cX5_moodWith 12 = .ok (.istore 5, 2) := by decide +kernel
theorem dX5_moodWith_14 : decode cX5_moodWith 14 = .ok (.iconst 0, 1) := by decide +kernel
theorem dX5_moodWith_15 : decode cX5_moodWith 15 = .ok (.istore 6, 2) := by decide +kernel
theorem dX5_moodWith_17 : decode cX5_moodWith 17 = .ok (.iconst 0, 1) := by decide +kernel
theorem dX5_moodWith_18 : decode cX5_moodWith 18 = .ok (.istore 7, 2) := by decide +kernel
theorem dX5_moodWith_20 : decode cX5_moodWith 20 = .ok (.iload 7, 2) := by decide +kernel
theorem dX5_moodWith_22 : decode cX5_moodWith 22 = .ok (.aload_n 0, 1) := by decide +kernel
theorem dX5_moodWith_23 : decode cX5_moodWith 23 = .ok (.getfield 45, 3) := by decide +kernel
theorem dX5_moodWith_26 : decode cX5_moodWith 26 = .ok (.if_icmp .ge 52, 3) := by decide +kernel
theorem dX5_moodWith_29 : decode cX5_moodWith 29 = .ok (.iload_n 2, 1) := by decide +kernel
theorem dX5_moodWith_30 : decode cX5_moodWith 30 = .ok (.iload 7, 2) := by decide +kernel
theorem dX5_moodWith_32 : decode cX5_moodWith 32 = .ok (.invokestatic 93, 3) := by decide +kernel
theorem dX5_moodWith_35 : decode cX5_moodWith 35 = .ok (.ifCond .eq 37, 3) := by decide +kernel
theorem dX5_moodWith_38 : decode cX5_moodWith 38 = .ok (.aload_n 0, 1) := by decide +kernel
theorem dX5_moodWith_39 : decode cX5_moodWith 39 = .ok (.iload 7, 2) := by decide +kernel
theorem dX5_moodWith_41 : decode cX5_moodWith 41 = .ok (.iload_n 3, 1) := by decide +kernel
theorem dX5_moodWith_42 : decode cX5_moodWith 42 = .ok (.invokevirtual 84, 3) := by decide +kernel
theorem dX5_moodWith_45 : decode cX5_moodWith 45 = .ok (.istore 8, 2) := by decide +kernel
theorem dX5_moodWith_47 : decode cX5_moodWith 47 = .ok (.iload 4, 2) := by decide +kernel
theorem dX5_moodWith_49 : decode cX5_moodWith 49 = .ok (.iload 8, 2) := by decide +kernel
theorem dX5_moodWith_51 : decode cX5_moodWith 51 = .ok (.iadd, 1) := by decide +kernel
theorem dX5_moodWith_52 : decode cX5_moodWith 52 = .ok (.istore 4, 2) := by decide +kernel
theorem dX5_moodWith_54 : decode cX5_moodWith 54 = .ok (.iload 5, 2) := by decide +kernel
theorem dX5_moodWith_56 : decode cX5_moodWith 56 = .ok (.iload 8, 2) := by decide +kernel
theorem dX5_moodWith_58 : decode cX5_moodWith 58 = .ok (.invokestatic 97, 3) := by decide +kernel
theorem dX5_moodWith_61 : decode cX5_moodWith 61 = .ok (.istore 5, 2) := by decide +kernel
theorem dX5_moodWith_63 : decode cX5_moodWith 63 = .ok (.iload 6, 2) := by decide +kernel
theorem dX5_moodWith_65 : decode cX5_moodWith 65 = .ok (.iload 8, 2) := by decide +kernel
theorem dX5_moodWith_67 : decode cX5_moodWith 67 = .ok (.invokestatic 100, 3) := by decide +kernel
theorem dX5_moodWith_70 : decode cX5_moodWith 70 = .ok (.istore 6, 2) := by decide +kernel
theorem dX5_moodWith_72 : decode cX5_moodWith 72 = .ok (.iinc 7 1, 3) := by decide +kernel
theorem dX5_moodWith_75 : decode cX5_moodWith 75 = .ok (.goto (-55), 3) := by decide +kernel
theorem dX5_moodWith_78 : decode cX5_moodWith 78 = .ok (.iload 6, 2) := by decide +kernel
theorem dX5_moodWith_80 : decode cX5_moodWith 80 = .ok (.iload 5, 2) := by decide +kernel
theorem dX5_moodWith_82 : decode cX5_moodWith 82 = .ok (.isub, 1) := by decide +kernel
theorem dX5_moodWith_83 : decode cX5_moodWith 83 = .ok (.iconst 4, 1) := by decide +kernel
theorem dX5_moodWith_84 : decode cX5_moodWith 84 = .ok (.if_icmp .lt 10, 3) := by decide +kernel
theorem dX5_moodWith_87 : decode cX5_moodWith 87 = .ok (.iload 4, 2) := by decide +kernel
theorem dX5_moodWith_89 : decode cX5_moodWith 89 = .ok (.iconst 3, 1) := by decide +kernel
theorem dX5_moodWith_90 : decode cX5_moodWith 90 = .ok (.iadd, 1) := by decide +kernel
theorem dX5_moodWith_91 : decode cX5_moodWith 91 = .ok (.goto 5, 3) := by decide +kernel
theorem dX5_moodWith_94 : decode cX5_moodWith 94 = .ok (.iload 4, 2) := by decide +kernel
theorem dX5_moodWith_96 : decode cX5_moodWith 96 = .ok (.ireturn, 1) := by decide +kernel
theorem dX5_moodOf_0 : decode cX5_moodOf 0 = .ok (.aload_n 0, 1) := by decide +kernel
theorem dX5_moodOf_1 : decode cX5_moodOf 1 = .ok (.iload_n 1, 1) := by decide +kernel
theorem dX5_moodOf_2 : decode cX5_moodOf 2 = .ok (.aload_n 0, 1) := by decide +kernel
theorem dX5_moodOf_3 : decode cX5_moodOf 3 = .ok (.iload_n 1, 1) := by decide +kernel
theorem dX5_moodOf_4 : decode cX5_moodOf 4 = .ok (.invokevirtual 103, 3) := by decide +kernel
theorem dX5_moodOf_7 : decode cX5_moodOf 7 = .ok (.iload_n 2, 1) := by decide +kernel
theorem dX5_moodOf_8 : decode cX5_moodOf 8 = .ok (.invokevirtual 106, 3) := by decide +kernel
theorem dX5_moodOf_11 : decode cX5_moodOf 11 = .ok (.ireturn, 1) := by decide +kernel
theorem dX5_pleases_0 : decode cX5_pleases 0 = .ok (.aload_n 0, 1) := by decide +kernel
theorem dX5_pleases_1 : decode cX5_pleases 1 = .ok (.getfield 30, 3) := by decide +kernel
theorem dX5_pleases_4 : decode cX5_pleases 4 = .ok (.iload_n 1, 1) := by decide +kernel
theorem dX5_pleases_5 : decode cX5_pleases 5 = .ok (.invokestatic 72, 3) := by decide +kernel
theorem dX5_pleases_8 : decode cX5_pleases 8 = .ok (.istore_n 3, 1) := by decide +kernel
theorem dX5_pleases_9 : decode cX5_pleases 9 = .ok (.iload_n 3, 1) := by decide +kernel
theorem dX5_pleases_10 : decode cX5_pleases 10 = .ok (.iconst 2, 1) := by decide +kernel
theorem dX5_pleases_11 : decode cX5_pleases 11 = .ok (.if_icmp .eq 11, 3) := by decide +kernel
theorem dX5_pleases_14 : decode cX5_pleases 14 = .ok (.iload_n 3, 1) := by decide +kernel
theorem dX5_pleases_15 : decode cX5_pleases 15 = .ok (.iload_n 2, 1) := by decide +kernel
theorem dX5_pleases_16 : decode cX5_pleases 16 = .ok (.invokestatic 109, 3) := by decide +kernel
theorem dX5_pleases_19 : decode cX5_pleases 19 = .ok (.if_icmp .ne 7, 3) := by decide +kernel
theorem dX5_pleases_22 : decode cX5_pleases 22 = .ok (.iconst 1, 1) := by decide +kernel
theorem dX5_pleases_23 : decode cX5_pleases 23 = .ok (.goto 4, 3) := by decide +kernel
theorem dX5_pleases_26 : decode cX5_pleases 26 = .ok (.iconst 0, 1) := by decide +kernel
theorem dX5_pleases_27 : decode cX5_pleases 27 = .ok (.ireturn, 1) := by decide +kernel
theorem dX5_stillSet_0 : decode cX5_stillSet 0 = .ok (.aload_n 0, 1) := by decide +kernel
theorem dX5_stillSet_1 : decode cX5_stillSet 1 = .ok (.iload_n 1, 1) := by decide +kernel
theorem dX5_stillSet_2 : decode cX5_stillSet 2 = .ok (.invokevirtual 103, 3) := by decide +kernel
theorem dX5_stillSet_5 : decode cX5_stillSet 5 = .ok (.istore_n 2, 1) := by decide +kernel
theorem dX5_stillSet_6 : decode cX5_stillSet 6 = .ok (.iload_n 2, 1) := by decide +kernel
theorem dX5_stillSet_7 : decode cX5_stillSet 7 = .ok (.aload_n 0, 1) := by decide +kernel
theorem dX5_stillSet_8 : decode cX5_stillSet 8 = .ok (.iconst (-1), 1) := by decide +kernel
theorem dX5_stillSet_9 : decode cX5_stillSet 9 = .ok (.invokevirtual 103, 3) := by decide +kernel
theorem dX5_stillSet_12 : decode cX5_stillSet 12 = .ok (.ior, 1) := by decide +kernel
theorem dX5_stillSet_13 : decode cX5_stillSet 13 = .ok (.istore_n 3, 1) := by decide +kernel
theorem dX5_stillSet_14 : decode cX5_stillSet 14 = .ok (.iconst (-1), 1) := by decide +kernel
theorem dX5_stillSet_15 : decode cX5_stillSet 15 = .ok (.istore 4, 2) := by decide +kernel
theorem dX5_stillSet_17 : decode cX5_stillSet 17 = .ok (.bipush 7, 2) := by decide +kernel
theorem dX5_stillSet_19 : decode cX5_stillSet 19 = .ok (.istore 5, 2) := by decide +kernel
theorem dX5_stillSet_21 : decode cX5_stillSet 21 = .ok (.iconst 0, 1) := by decide +kernel
theorem dX5_stillSet_22 : decode cX5_stillSet 22 = .ok (.istore 6, 2) := by decide +kernel
theorem dX5_stillSet_24 : decode cX5_stillSet 24 = .ok (.iload 6, 2) := by decide +kernel
theorem dX5_stillSet_26 : decode cX5_stillSet 26 = .ok (.iconst 1, 1) := by decide +kernel
theorem dX5_stillSet_27 : decode cX5_stillSet 27 = .ok (.aload_n 0, 1) := by decide +kernel
theorem dX5_stillSet_28 : decode cX5_stillSet 28 = .ok (.getfield 45, 3) := by decide +kernel
theorem dX5_stillSet_31 : decode cX5_stillSet 31 = .ok (.ishl, 1) := by decide +kernel
theorem dX5_stillSet_32 : decode cX5_stillSet 32 = .ok (.if_icmp .ge 76, 3) := by decide +kernel
theorem dX5_stillSet_35 : decode cX5_stillSet 35 = .ok (.iload 6, 2) := by decide +kernel
theorem dX5_stillSet_37 : decode cX5_stillSet 37 = .ok (.iload_n 2, 1) := by decide +kernel
theorem dX5_stillSet_38 : decode cX5_stillSet 38 = .ok (.ixor, 1) := by decide +kernel
theorem dX5_stillSet_39 : decode cX5_stillSet 39 = .ok (.invokestatic 112, 3) := by decide +kernel
theorem dX5_stillSet_42 : decode cX5_stillSet 42 = .ok (.istore 7, 2) := by decide +kernel
theorem dX5_stillSet_44 : decode cX5_stillSet 44 = .ok (.iload 6, 2) := by decide +kernel
theorem dX5_stillSet_46 : decode cX5_stillSet 46 = .ok (.iload_n 3, 1) := by decide +kernel
theorem dX5_stillSet_47 : decode cX5_stillSet 47 = .ok (.iconst (-1), 1) := by decide +kernel
theorem dX5_stillSet_48 : decode cX5_stillSet 48 = .ok (.ixor, 1) := by decide +kernel
theorem dX5_stillSet_49 : decode cX5_stillSet 49 = .ok (.iand, 1) := by decide +kernel
theorem dX5_stillSet_50 : decode cX5_stillSet 50 = .ok (.ifCond .ne 16, 3) := by decide +kernel
theorem dX5_stillSet_53 : decode cX5_stillSet 53 = .ok (.iload 6, 2) := by decide +kernel
theorem dX5_stillSet_55 : decode cX5_stillSet 55 = .ok (.invokestatic 112, 3) := by decide +kernel
theorem dX5_stillSet_58 : decode cX5_stillSet 58 = .ok (.iconst 2, 1) := by decide +kernel
theorem dX5_stillSet_59 : decode cX5_stillSet 59 = .ok (.if_icmp .gt 7, 3) := by decide +kernel
theorem dX5_stillSet_62 : decode cX5_stillSet 62 = .ok (.iconst 1, 1) := by decide +kernel
theorem dX5_stillSet_63 : decode cX5_stillSet 63 = .ok (.goto 4, 3) := by decide +kernel
theorem dX5_stillSet_66 : decode cX5_stillSet 66 = .ok (.iconst 0, 1) := by decide +kernel
theorem dX5_stillSet_67 : decode cX5_stillSet 67 = .ok (.istore 8, 2) := by decide +kernel
theorem dX5_stillSet_69 : decode cX5_stillSet 69 = .ok (.iload 8, 2) := by decide +kernel
theorem dX5_stillSet_71 : decode cX5_stillSet 71 = .ok (.ifCond .eq 31, 3) := by decide +kernel
theorem dX5_stillSet_74 : decode cX5_stillSet 74 = .ok (.iload 7, 2) := by decide +kernel
theorem dX5_stillSet_76 : decode cX5_stillSet 76 = .ok (.iload 5, 2) := by decide +kernel
theorem dX5_stillSet_78 : decode cX5_stillSet 78 = .ok (.if_icmp .ge 24, 3) := by decide +kernel
theorem dX5_stillSet_81 : decode cX5_stillSet 81 = .ok (.aload_n 0, 1) := by decide +kernel
theorem dX5_stillSet_82 : decode cX5_stillSet 82 = .ok (.iload_n 1, 1) := by decide +kernel
theorem dX5_stillSet_83 : decode cX5_stillSet 83 = .ok (.iload 6, 2) := by decide +kernel
theorem dX5_stillSet_85 : decode cX5_stillSet 85 = .ok (.iconst 0, 1) := by decide +kernel
theorem dX5_stillSet_86 : decode cX5_stillSet 86 = .ok (.invokevirtual 106, 3) := by decide +kernel
theorem dX5_stillSet_89 : decode cX5_stillSet 89 = .ok (.bipush 8, 2) := by decide +kernel
theorem dX5_stillSet_91 : decode cX5_stillSet 91 = .ok (.if_icmp .gt 11, 3) := by decide +kernel
theorem dX5_stillSet_94 : decode cX5_stillSet 94 = .ok (.iload 6, 2) := by decide +kernel
theorem dX5_stillSet_96 : decode cX5_stillSet 96 = .ok (.istore 4, 2) := by decide +kernel
theorem dX5_stillSet_98 : decode cX5_stillSet 98 = .ok (.iload 7, 2) := by decide +kernel
theorem dX5_stillSet_100 : decode cX5_stillSet 100 = .ok (.istore 5, 2) := by decide +kernel
theorem dX5_stillSet_102 : decode cX5_stillSet 102 = .ok (.iinc 6 1, 3) := by decide +kernel
theorem dX5_stillSet_105 : decode cX5_stillSet 105 = .ok (.goto (-81), 3) := by decide +kernel
theorem dX5_stillSet_108 : decode cX5_stillSet 108 = .ok (.iload 4, 2) := by decide +kernel
theorem dX5_stillSet_110 : decode cX5_stillSet 110 = .ok (.ireturn, 1) := by decide +kernel
theorem dX5_changesTo_0 : decode cX5_changesTo 0 = .ok (.iload_n 2, 1) := by decide +kernel
theorem dX5_changesTo_1 : decode cX5_changesTo 1 = .ok (.iconst (-1), 1) := by decide +kernel
theorem dX5_changesTo_2 : decode cX5_changesTo 2 = .ok (.if_icmp .ne 7, 3) := by decide +kernel
theorem dX5_changesTo_5 : decode cX5_changesTo 5 = .ok (.iconst (-1), 1) := by decide +kernel
theorem dX5_changesTo_6 : decode cX5_changesTo 6 = .ok (.goto 13, 3) := by decide +kernel
theorem dX5_changesTo_9 : decode cX5_changesTo 9 = .ok (.iload_n 2, 1) := by decide +kernel
theorem dX5_changesTo_10 : decode cX5_changesTo 10 = .ok (.aload_n 0, 1) := by decide +kernel
theorem dX5_changesTo_11 : decode cX5_changesTo 11 = .ok (.iload_n 1, 1) := by decide +kernel
theorem dX5_changesTo_12 : decode cX5_changesTo 12 = .ok (.invokevirtual 103, 3) := by decide +kernel
theorem dX5_changesTo_15 : decode cX5_changesTo 15 = .ok (.ixor, 1) := by decide +kernel
theorem dX5_changesTo_16 : decode cX5_changesTo 16 = .ok (.invokestatic 112, 3) := by decide +kernel
theorem dX5_changesTo_19 : decode cX5_changesTo 19 = .ok (.ireturn, 1) := by decide +kernel
theorem dX5_possibleMarks_0 : decode cX5_possibleMarks 0 = .ok (.iconst 0, 1) := by decide +kernel
theorem dX5_possibleMarks_1 : decode cX5_possibleMarks 1 = .ok (.istore_n 2, 1) := by decide +kernel
theorem dX5_possibleMarks_2 : decode cX5_possibleMarks 2 = .ok (.iconst 0, 1) := by decide +kernel
theorem dX5_possibleMarks_3 : decode cX5_possibleMarks 3 = .ok (.istore_n 3, 1) := by decide +kernel
theorem dX5_possibleMarks_4 : decode cX5_possibleMarks 4 = .ok (.iload_n 3, 1) := by decide +kernel
theorem dX5_possibleMarks_5 : decode cX5_possibleMarks 5 = .ok (.bipush 9, 2) := by decide +kernel
theorem dX5_possibleMarks_7 : decode cX5_possibleMarks 7 = .ok (.if_icmp .gt 24, 3) := by decide +kernel
theorem dX5_possibleMarks_10 : decode cX5_possibleMarks 10 = .ok (.aload_n 0, 1) := by decide +kernel
theorem dX5_possibleMarks_11 : decode cX5_possibleMarks 11 = .ok (.iload_n 1, 1) := by decide +kernel
theorem dX5_possibleMarks_12 : decode cX5_possibleMarks 12 = .ok (.iload_n 3, 1) := by decide +kernel
theorem dX5_possibleMarks_13 : decode cX5_possibleMarks 13 = .ok (.invokevirtual 117, 3) := by decide +kernel
theorem dX5_possibleMarks_16 : decode cX5_possibleMarks 16 = .ok (.ifCond .eq 9, 3) := by decide +kernel
theorem dX5_possibleMarks_19 : decode cX5_possibleMarks 19 = .ok (.iload_n 2, 1) := by decide +kernel
theorem dX5_possibleMarks_20 : decode cX5_possibleMarks 20 = .ok (.iconst 1, 1) := by decide +kernel
theorem dX5_possibleMarks_21 : decode cX5_possibleMarks 21 = .ok (.iload_n 3, 1) := by decide +kernel
theorem dX5_possibleMarks_22 : decode cX5_possibleMarks 22 = .ok (.ishl, 1) := by decide +kernel
theorem dX5_possibleMarks_23 : decode cX5_possibleMarks 23 = .ok (.ior, 1) := by decide +kernel
theorem dX5_possibleMarks_24 : decode cX5_possibleMarks 24 = .ok (.istore_n 2, 1) := by decide +kernel
theorem dX5_possibleMarks_25 : decode cX5_possibleMarks 25 = .ok (.iinc 3 1, 3) := by decide +kernel
theorem dX5_possibleMarks_28 : decode cX5_possibleMarks 28 = .ok (.goto (-24), 3) := by decide +kernel
theorem dX5_possibleMarks_31 : decode cX5_possibleMarks 31 = .ok (.iload_n 2, 1) := by decide +kernel
theorem dX5_possibleMarks_32 : decode cX5_possibleMarks 32 = .ok (.ireturn, 1) := by decide +kernel
theorem dX5_agreesWithSeen_0 : decode cX5_agreesWithSeen 0 = .ok (.aload_n 0, 1) := by decide +kernel
theorem dX5_agreesWithSeen_1 : decode cX5_agreesWithSeen 1 = .ok (.getfield 9, 3) := by decide +kernel
theorem dX5_agreesWithSeen_4 : decode cX5_agreesWithSeen 4 = .ok (.iload_n 1, 1) := by decide +kernel
theorem dX5_agreesWithSeen_5 : decode cX5_agreesWithSeen 5 = .ok (.invokestatic 72, 3) := by decide +kernel
theorem dX5_agreesWithSeen_8 : decode cX5_agreesWithSeen 8 = .ok (.istore_n 3, 1) := by decide +kernel
theorem dX5_agreesWithSeen_9 : decode cX5_agreesWithSeen 9 = .ok (.iconst 0, 1) := by decide +kernel
theorem dX5_agreesWithSeen_10 : decode cX5_agreesWithSeen 10 = .ok (.istore 4, 2) := by decide +kernel
theorem dX5_agreesWithSeen_12 : decode cX5_agreesWithSeen 12 = .ok (.iload 4, 2) := by decide +kernel
theorem dX5_agreesWithSeen_14 : decode cX5_agreesWithSeen 14 = .ok (.aload_n 0, 1) := by decide +kernel
theorem dX5_agreesWithSeen_15 : decode cX5_agreesWithSeen 15 = .ok (.getfield 55, 3) := by decide +kernel
theorem dX5_agreesWithSeen_18 : decode cX5_agreesWithSeen 18 = .ok (.if_icmp .ge 66, 3) := by decide +kernel
theorem dX5_agreesWithSeen_21 : decode cX5_agreesWithSeen 21 = .ok (.aload_n 0, 1) := by decide +kernel
theorem dX5_agreesWithSeen_22 : decode cX5_agreesWithSeen 22 = .ok (.getfield 18, 3) := by decide +kernel
theorem dX5_agreesWithSeen_25 : decode cX5_agreesWithSeen 25 = .ok (.iload_n 1, 1) := by decide +kernel
theorem dX5_agreesWithSeen_26 : decode cX5_agreesWithSeen 26 = .ok (.invokestatic 72, 3) := by decide +kernel
theorem dX5_agreesWithSeen_29 : decode cX5_agreesWithSeen 29 = .ok (.aload_n 0, 1) := by decide +kernel
theorem dX5_agreesWithSeen_30 : decode cX5_agreesWithSeen 30 = .ok (.getfield 36, 3) := by decide +kernel
theorem dX5_agreesWithSeen_33 : decode cX5_agreesWithSeen 33 = .ok (.iload 4, 2) := by decide +kernel
theorem dX5_agreesWithSeen_35 : decode cX5_agreesWithSeen 35 = .ok (.invokestatic 72, 3) := by decide +kernel
theorem dX5_agreesWithSeen_38 : decode cX5_agreesWithSeen 38 = .ok (.iadd, 1) := by decide +kernel
theorem dX5_agreesWithSeen_39 : decode cX5_agreesWithSeen 39 = .ok (.invokestatic 76, 3) := by decide +kernel
theorem dX5_agreesWithSeen_42 : decode cX5_agreesWithSeen 42 = .ok (.istore 5, 2) := by decide +kernel
theorem dX5_agreesWithSeen_44 : decode cX5_agreesWithSeen 44 = .ok (.aload_n 0, 1) := by decide +kernel
theorem dX5_agreesWithSeen_45 : decode cX5_agreesWithSeen 45 = .ok (.getfield 33, 3) := by decide +kernel
theorem dX5_agreesWithSeen_48 : decode cX5_agreesWithSeen 48 = .ok (.iload 4, 2) := by decide +kernel
theorem dX5_agreesWithSeen_50 : decode cX5_agreesWithSeen 50 = .ok (.invokestatic 72, 3) := by decide +kernel
theorem dX5_agreesWithSeen_53 : decode cX5_agreesWithSeen 53 = .ok (.iload_n 1, 1) := by decide +kernel
theorem dX5_agreesWithSeen_54 : decode cX5_agreesWithSeen 54 = .ok (.if_icmp .ne 24, 3) := by decide +kernel
theorem dX5_agreesWithSeen_57 : decode cX5_agreesWithSeen 57 = .ok (.iload_n 3, 1) := by decide +kernel
theorem dX5_agreesWithSeen_58 : decode cX5_agreesWithSeen 58 = .ok (.iload_n 2, 1) := by decide +kernel
theorem dX5_agreesWithSeen_59 : decode cX5_agreesWithSeen 59 = .ok (.iload 5, 2) := by decide +kernel
theorem dX5_agreesWithSeen_61 : decode cX5_agreesWithSeen 61 = .ok (.invokestatic 80, 3) := by decide +kernel
theorem dX5_agreesWithSeen_64 : decode cX5_agreesWithSeen 64 = .ok (.aload_n 0, 1) := by decide +kernel
theorem dX5_agreesWithSeen_65 : decode cX5_agreesWithSeen 65 = .ok (.getfield 39, 3) := by decide +kernel
theorem dX5_agreesWithSeen_68 : decode cX5_agreesWithSeen 68 = .ok (.iload 4, 2) := by decide +kernel
theorem dX5_agreesWithSeen_70 : decode cX5_agreesWithSeen 70 = .ok (.invokestatic 72, 3) := by decide +kernel
theorem dX5_agreesWithSeen_73 : decode cX5_agreesWithSeen 73 = .ok (.if_icmp .eq 5, 3) := by decide +kernel
theorem dX5_agreesWithSeen_76 : decode cX5_agreesWithSeen 76 = .ok (.iconst 0, 1) := by decide +kernel
theorem dX5_agreesWithSeen_77 : decode cX5_agreesWithSeen 77 = .ok (.ireturn, 1) := by decide +kernel
theorem dX5_agreesWithSeen_78 : decode cX5_agreesWithSeen 78 = .ok (.iinc 4 1, 3) := by decide +kernel
theorem dX5_agreesWithSeen_81 : decode cX5_agreesWithSeen 81 = .ok (.goto (-69), 3) := by decide +kernel
theorem dX5_agreesWithSeen_84 : decode cX5_agreesWithSeen 84 = .ok (.iconst 1, 1) := by decide +kernel
theorem dX5_agreesWithSeen_85 : decode cX5_agreesWithSeen 85 = .ok (.ireturn, 1) := by decide +kernel
theorem dX5_bestFeel_0 : decode cX5_bestFeel 0 = .ok (.aload_n 0, 1) := by decide +kernel
theorem dX5_bestFeel_1 : decode cX5_bestFeel 1 = .ok (.iload_n 1, 1) := by decide +kernel
theorem dX5_bestFeel_2 : decode cX5_bestFeel 2 = .ok (.invokevirtual 120, 3) := by decide +kernel
theorem dX5_bestFeel_5 : decode cX5_bestFeel 5 = .ok (.istore_n 2, 1) := by decide +kernel
theorem dX5_bestFeel_6 : decode cX5_bestFeel 6 = .ok (.iload_n 2, 1) := by decide +kernel
theorem dX5_bestFeel_7 : decode cX5_bestFeel 7 = .ok (.ifCond .ne 5, 3) := by decide +kernel
theorem dX5_bestFeel_10 : decode cX5_bestFeel 10 = .ok (.iconst (-1), 1) := by decide +kernel
theorem dX5_bestFeel_11 : decode cX5_bestFeel 11 = .ok (.ireturn, 1) := by decide +kernel
theorem dX5_bestFeel_12 : decode cX5_bestFeel 12 = .ok (.iconst 0, 1) := by decide +kernel
theorem dX5_bestFeel_13 : decode cX5_bestFeel 13 = .ok (.istore_n 3, 1) := by decide +kernel
theorem dX5_bestFeel_14 : decode cX5_bestFeel 14 = .ok (.bipush 11, 2) := by decide +kernel
theorem dX5_bestFeel_16 : decode cX5_bestFeel 16 = .ok (.istore 4, 2) := by decide +kernel
theorem dX5_bestFeel_18 : decode cX5_bestFeel 18 = .ok (.iconst 0, 1) := by decide +kernel
theorem dX5_bestFeel_19 : decode cX5_bestFeel 19 = .ok (.istore 5, 2) := by decide +kernel
theorem dX5_bestFeel_21 : decode cX5_bestFeel 21 = .ok (.iload 5, 2) := by decide +kernel
theorem dX5_bestFeel_23 : decode cX5_bestFeel 23 = .ok (.bipush 9, 2) := by decide +kernel
theorem dX5_bestFeel_25 : decode cX5_bestFeel 25 = .ok (.if_icmp .gt 33, 3) := by decide +kernel
theorem dX5_bestFeel_28 : decode cX5_bestFeel 28 = .ok (.aload_n 0, 1) := by decide +kernel
theorem dX5_bestFeel_29 : decode cX5_bestFeel 29 = .ok (.iload_n 1, 1) := by decide +kernel
theorem dX5_bestFeel_30 : decode cX5_bestFeel 30 = .ok (.iload_n 2, 1) := by decide +kernel
theorem dX5_bestFeel_31 : decode cX5_bestFeel 31 = .ok (.iload 5, 2) := by decide +kernel
theorem dX5_bestFeel_33 : decode cX5_bestFeel 33 = .ok (.invokevirtual 123, 3) := by decide +kernel
theorem dX5_bestFeel_36 : decode cX5_bestFeel 36 = .ok (.istore 6, 2) := by decide +kernel
theorem dX5_bestFeel_38 : decode cX5_bestFeel 38 = .ok (.iload 6, 2) := by decide +kernel
theorem dX5_bestFeel_40 : decode cX5_bestFeel 40 = .ok (.iload 4, 2) := by decide +kernel
theorem dX5_bestFeel_42 : decode cX5_bestFeel 42 = .ok (.if_icmp .ge 10, 3) := by decide +kernel
theorem dX5_bestFeel_45 : decode cX5_bestFeel 45 = .ok (.iload 5, 2) := by decide +kernel
theorem dX5_bestFeel_47 : decode cX5_bestFeel 47 = .ok (.istore_n 3, 1) := by decide +kernel
