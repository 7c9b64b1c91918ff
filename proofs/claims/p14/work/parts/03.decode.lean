theorem dX0_init_0 : decode cX0_init 0 = .ok (.aload_n 0, 1) := by decide +kernel
theorem dX0_init_1 : decode cX0_init 1 = .ok (.invokespecial 3, 3) := by decide +kernel
theorem dX0_init_4 : decode cX0_init 4 = .ok (.aload_n 0, 1) := by decide +kernel
theorem dX0_init_5 : decode cX0_init 5 = .ok (.iload_n 1, 1) := by decide +kernel
theorem dX0_init_6 : decode cX0_init 6 = .ok (.newarray .int, 2) := by decide +kernel
theorem dX0_init_8 : decode cX0_init 8 = .ok (.putfield 9, 3) := by decide +kernel
theorem dX0_init_11 : decode cX0_init 11 = .ok (.aload_n 0, 1) := by decide +kernel
theorem dX0_init_12 : decode cX0_init 12 = .ok (.iload_n 1, 1) := by decide +kernel
theorem dX0_init_13 : decode cX0_init 13 = .ok (.newarray .int, 2) := by decide +kernel
theorem dX0_init_15 : decode cX0_init 15 = .ok (.putfield 15, 3) := by decide +kernel
theorem dX0_init_18 : decode cX0_init 18 = .ok (.aload_n 0, 1) := by decide +kernel
theorem dX0_init_19 : decode cX0_init 19 = .ok (.iload_n 1, 1) := by decide +kernel
theorem dX0_init_20 : decode cX0_init 20 = .ok (.newarray .int, 2) := by decide +kernel
theorem dX0_init_22 : decode cX0_init 22 = .ok (.putfield 18, 3) := by decide +kernel
theorem dX0_init_25 : decode cX0_init 25 = .ok (.aload_n 0, 1) := by decide +kernel
theorem dX0_init_26 : decode cX0_init 26 = .ok (.iload_n 1, 1) := by decide +kernel
theorem dX0_init_27 : decode cX0_init 27 = .ok (.newarray .long, 2) := by decide +kernel
theorem dX0_init_29 : decode cX0_init 29 = .ok (.putfield 21, 3) := by decide +kernel
theorem dX0_init_32 : decode cX0_init 32 = .ok (.return_, 1) := by decide +kernel
theorem dX0_clear_0 : decode cX0_clear 0 = .ok (.aload_n 0, 1) := by decide +kernel
theorem dX0_clear_1 : decode cX0_clear 1 = .ok (.iconst 0, 1) := by decide +kernel
theorem dX0_clear_2 : decode cX0_clear 2 = .ok (.putfield 25, 3) := by decide +kernel
theorem dX0_clear_5 : decode cX0_clear 5 = .ok (.return_, 1) := by decide +kernel
theorem dX0_size_0 : decode cX0_size 0 = .ok (.aload_n 0, 1) := by decide +kernel
theorem dX0_size_1 : decode cX0_size 1 = .ok (.getfield 25, 3) := by decide +kernel
theorem dX0_size_4 : decode cX0_size 4 = .ok (.ireturn, 1) := by decide +kernel
theorem dX0_owner_0 : decode cX0_owner 0 = .ok (.aload_n 0, 1) := by decide +kernel
theorem dX0_owner_1 : decode cX0_owner 1 = .ok (.getfield 29, 3) := by decide +kernel
theorem dX0_owner_4 : decode cX0_owner 4 = .ok (.ireturn, 1) := by decide +kernel
theorem dX0_deedAt_0 : decode cX0_deedAt 0 = .ok (.iload_n 1, 1) := by decide +kernel
theorem dX0_deedAt_1 : decode cX0_deedAt 1 = .ok (.ifCond .lt 20, 3) := by decide +kernel
theorem dX0_deedAt_4 : decode cX0_deedAt 4 = .ok (.iload_n 1, 1) := by decide +kernel
theorem dX0_deedAt_5 : decode cX0_deedAt 5 = .ok (.aload_n 0, 1) := by decide +kernel
theorem dX0_deedAt_6 : decode cX0_deedAt 6 = .ok (.getfield 25, 3) := by decide +kernel
theorem dX0_deedAt_9 : decode cX0_deedAt 9 = .ok (.if_icmp .ge 12, 3) := by decide +kernel
theorem dX0_deedAt_12 : decode cX0_deedAt 12 = .ok (.aload_n 0, 1) := by decide +kernel
theorem dX0_deedAt_13 : decode cX0_deedAt 13 = .ok (.getfield 9, 3) := by decide +kernel
theorem dX0_deedAt_16 : decode cX0_deedAt 16 = .ok (.iload_n 1, 1) := by decide +kernel
theorem dX0_deedAt_17 : decode cX0_deedAt 17 = .ok (.iaload, 1) := by decide +kernel
theorem dX0_deedAt_18 : decode cX0_deedAt 18 = .ok (.goto 5, 3) := by decide +kernel
theorem dX0_deedAt_21 : decode cX0_deedAt 21 = .ok (.bipush 13, 2) := by decide +kernel
theorem dX0_deedAt_23 : decode cX0_deedAt 23 = .ok (.ireturn, 1) := by decide +kernel
theorem dX0_placeAt_0 : decode cX0_placeAt 0 = .ok (.iload_n 1, 1) := by decide +kernel
theorem dX0_placeAt_1 : decode cX0_placeAt 1 = .ok (.ifCond .lt 20, 3) := by decide +kernel
theorem dX0_placeAt_4 : decode cX0_placeAt 4 = .ok (.iload_n 1, 1) := by decide +kernel
theorem dX0_placeAt_5 : decode cX0_placeAt 5 = .ok (.aload_n 0, 1) := by decide +kernel
theorem dX0_placeAt_6 : decode cX0_placeAt 6 = .ok (.getfield 25, 3) := by decide +kernel
theorem dX0_placeAt_9 : decode cX0_placeAt 9 = .ok (.if_icmp .ge 12, 3) := by decide +kernel
theorem dX0_placeAt_12 : decode cX0_placeAt 12 = .ok (.aload_n 0, 1) := by decide +kernel
theorem dX0_placeAt_13 : decode cX0_placeAt 13 = .ok (.getfield 15, 3) := by decide +kernel
theorem dX0_placeAt_16 : decode cX0_placeAt 16 = .ok (.iload_n 1, 1) := by decide +kernel
theorem dX0_placeAt_17 : decode cX0_placeAt 17 = .ok (.iaload, 1) := by decide +kernel
theorem dX0_placeAt_18 : decode cX0_placeAt 18 = .ok (.goto 4, 3) := by decide +kernel
theorem dX0_placeAt_21 : decode cX0_placeAt 21 = .ok (.iconst 0, 1) := by decide +kernel
theorem dX0_placeAt_22 : decode cX0_placeAt 22 = .ok (.ireturn, 1) := by decide +kernel
theorem dX0_countAt_0 : decode cX0_countAt 0 = .ok (.iload_n 1, 1) := by decide +kernel
theorem dX0_countAt_1 : decode cX0_countAt 1 = .ok (.ifCond .lt 20, 3) := by decide +kernel
theorem dX0_countAt_4 : decode cX0_countAt 4 = .ok (.iload_n 1, 1) := by decide +kernel
theorem dX0_countAt_5 : decode cX0_countAt 5 = .ok (.aload_n 0, 1) := by decide +kernel
theorem dX0_countAt_6 : decode cX0_countAt 6 = .ok (.getfield 25, 3) := by decide +kernel
theorem dX0_countAt_9 : decode cX0_countAt 9 = .ok (.if_icmp .ge 12, 3) := by decide +kernel
theorem dX0_countAt_12 : decode cX0_countAt 12 = .ok (.aload_n 0, 1) := by decide +kernel
theorem dX0_countAt_13 : decode cX0_countAt 13 = .ok (.getfield 18, 3) := by decide +kernel
theorem dX0_countAt_16 : decode cX0_countAt 16 = .ok (.iload_n 1, 1) := by decide +kernel
theorem dX0_countAt_17 : decode cX0_countAt 17 = .ok (.iaload, 1) := by decide +kernel
theorem dX0_countAt_18 : decode cX0_countAt 18 = .ok (.goto 4, 3) := by decide +kernel
theorem dX0_countAt_22 : decode cX0_countAt 22 = .ok (.ireturn, 1) := by decide +kernel
theorem dX0_coreAt_0 : decode cX0_coreAt 0 = .ok (.iload_n 1, 1) := by decide +kernel
theorem dX0_coreAt_1 : decode cX0_coreAt 1 = .ok (.ifCond .lt 20, 3) := by decide +kernel
theorem dX0_coreAt_4 : decode cX0_coreAt 4 = .ok (.iload_n 1, 1) := by decide +kernel
theorem dX0_coreAt_5 : decode cX0_coreAt 5 = .ok (.aload_n 0, 1) := by decide +kernel
theorem dX0_coreAt_6 : decode cX0_coreAt 6 = .ok (.getfield 25, 3) := by decide +kernel
theorem dX0_coreAt_9 : decode cX0_coreAt 9 = .ok (.if_icmp .ge 12, 3) := by decide +kernel
theorem dX0_coreAt_12 : decode cX0_coreAt 12 = .ok (.aload_n 0, 1) := by decide +kernel
theorem dX0_coreAt_13 : decode cX0_coreAt 13 = .ok (.getfield 21, 3) := by decide +kernel
theorem dX0_coreAt_16 : decode cX0_coreAt 16 = .ok (.iload_n 1, 1) := by decide +kernel
theorem dX0_coreAt_17 : decode cX0_coreAt 17 = .ok (.laload, 1) := by decide +kernel
theorem dX0_coreAt_18 : decode cX0_coreAt 18 = .ok (.goto 4, 3) := by decide +kernel
theorem dX0_coreAt_21 : decode cX0_coreAt 21 = .ok (.lconst 0, 1) := by decide +kernel
theorem dX0_coreAt_22 : decode cX0_coreAt 22 = .ok (.lreturn, 1) := by decide +kernel
theorem dX0_add_0 : decode cX0_add 0 = .ok (.aload_n 0, 1) := by decide +kernel
theorem dX0_add_1 : decode cX0_add 1 = .ok (.iload_n 1, 1) := by decide +kernel
theorem dX0_add_2 : decode cX0_add 2 = .ok (.iload_n 2, 1) := by decide +kernel
theorem dX0_add_3 : decode cX0_add 3 = .ok (.iconst 0, 1) := by decide +kernel
theorem dX0_add_4 : decode cX0_add 4 = .ok (.lconst 0, 1) := by decide +kernel
theorem dX0_add_5 : decode cX0_add 5 = .ok (.invokevirtual 32, 3) := by decide +kernel
theorem dX0_add_8 : decode cX0_add 8 = .ok (.return_, 1) := by decide +kernel
theorem dX0_addWith_0 : decode cX0_addWith 0 = .ok (.aload_n 0, 1) := by decide +kernel
theorem dX0_addWith_1 : decode cX0_addWith 1 = .ok (.getfield 25, 3) := by decide +kernel
theorem dX0_addWith_4 : decode cX0_addWith 4 = .ok (.aload_n 0, 1) := by decide +kernel
theorem dX0_addWith_5 : decode cX0_addWith 5 = .ok (.getfield 9, 3) := by decide +kernel
theorem dX0_addWith_8 : decode cX0_addWith 8 = .ok (.arraylength, 1) := by decide +kernel
theorem dX0_addWith_9 : decode cX0_addWith 9 = .ok (.if_icmp .ge 54, 3) := by decide +kernel
theorem dX0_addWith_12 : decode cX0_addWith 12 = .ok (.aload_n 0, 1) := by decide +kernel
theorem dX0_addWith_13 : decode cX0_addWith 13 = .ok (.getfield 9, 3) := by decide +kernel
theorem dX0_addWith_16 : decode cX0_addWith 16 = .ok (.aload_n 0, 1) := by decide +kernel
theorem dX0_addWith_17 : decode cX0_addWith 17 = .ok (.getfield 25, 3) := by decide +kernel
theorem dX0_addWith_20 : decode cX0_addWith 20 = .ok (.iload_n 1, 1) := by decide +kernel
theorem dX0_addWith_21 : decode cX0_addWith 21 = .ok (.iastore, 1) := by decide +kernel
theorem dX0_addWith_22 : decode cX0_addWith 22 = .ok (.aload_n 0, 1) := by decide +kernel
theorem dX0_addWith_23 : decode cX0_addWith 23 = .ok (.getfield 15, 3) := by decide +kernel
theorem dX0_addWith_26 : decode cX0_addWith 26 = .ok (.aload_n 0, 1) := by decide +kernel
theorem dX0_addWith_27 : decode cX0_addWith 27 = .ok (.getfield 25, 3) := by decide +kernel
theorem dX0_addWith_30 : decode cX0_addWith 30 = .ok (.iload_n 2, 1) := by decide +kernel
theorem dX0_addWith_31 : decode cX0_addWith 31 = .ok (.iastore, 1) := by decide +kernel
theorem dX0_addWith_32 : decode cX0_addWith 32 = .ok (.aload_n 0, 1) := by decide +kernel
theorem dX0_addWith_33 : decode cX0_addWith 33 = .ok (.getfield 18, 3) := by decide +kernel
theorem dX0_addWith_36 : decode cX0_addWith 36 = .ok (.aload_n 0, 1) := by decide +kernel
theorem dX0_addWith_37 : decode cX0_addWith 37 = .ok (.getfield 25, 3) := by decide +kernel
theorem dX0_addWith_40 : decode cX0_addWith 40 = .ok (.iload_n 3, 1) := by decide +kernel
theorem dX0_addWith_41 : decode cX0_addWith 41 = .ok (.iastore, 1) := by decide +kernel
theorem dX0_addWith_42 : decode cX0_addWith 42 = .ok (.aload_n 0, 1) := by decide +kernel
theorem dX0_addWith_43 : decode cX0_addWith 43 = .ok (.getfield 21, 3) := by decide +kernel
theorem dX0_addWith_46 : decode cX0_addWith 46 = .ok (.aload_n 0, 1) := by decide +kernel
theorem dX0_addWith_47 : decode cX0_addWith 47 = .ok (.getfield 25, 3) := by decide +kernel
theorem dX0_addWith_50 : decode cX0_addWith 50 = .ok (.lload 4, 2) := by decide +kernel
theorem dX0_addWith_52 : decode cX0_addWith 52 = .ok (.lastore, 1) := by decide +kernel
theorem dX0_addWith_53 : decode cX0_addWith 53 = .ok (.aload_n 0, 1) := by decide +kernel
theorem dX0_addWith_54 : decode cX0_addWith 54 = .ok (.dup, 1) := by decide +kernel
theorem dX0_addWith_55 : decode cX0_addWith 55 = .ok (.getfield 25, 3) := by decide +kernel
theorem dX0_addWith_58 : decode cX0_addWith 58 = .ok (.iconst 1, 1) := by decide +kernel
theorem dX0_addWith_59 : decode cX0_addWith 59 = .ok (.iadd, 1) := by decide +kernel
theorem dX0_addWith_60 : decode cX0_addWith 60 = .ok (.putfield 25, 3) := by decide +kernel
theorem dX0_addWith_63 : decode cX0_addWith 63 = .ok (.return_, 1) := by decide +kernel
theorem dX0_beginAhead_0 : decode cX0_beginAhead 0 = .ok (.iload_n 1, 1) := by decide +kernel
theorem dX0_beginAhead_1 : decode cX0_beginAhead 1 = .ok (.ifCond .lt 118, 3) := by decide +kernel
theorem dX0_beginAhead_4 : decode cX0_beginAhead 4 = .ok (.iload_n 1, 1) := by decide +kernel
theorem dX0_beginAhead_5 : decode cX0_beginAhead 5 = .ok (.aload_n 0, 1) := by decide +kernel
theorem dX0_beginAhead_6 : decode cX0_beginAhead 6 = .ok (.getfield 25, 3) := by decide +kernel
theorem dX0_beginAhead_9 : decode cX0_beginAhead 9 = .ok (.if_icmp .gt 110, 3) := by decide +kernel
theorem dX0_beginAhead_12 : decode cX0_beginAhead 12 = .ok (.aload_n 0, 1) := by decide +kernel
theorem dX0_beginAhead_13 : decode cX0_beginAhead 13 = .ok (.getfield 25, 3) := by decide +kernel
theorem dX0_beginAhead_16 : decode cX0_beginAhead 16 = .ok (.aload_n 0, 1) := by decide +kernel
theorem dX0_beginAhead_17 : decode cX0_beginAhead 17 = .ok (.getfield 9, 3) := by decide +kernel
theorem dX0_beginAhead_20 : decode cX0_beginAhead 20 = .ok (.arraylength, 1) := by decide +kernel
theorem dX0_beginAhead_21 : decode cX0_beginAhead 21 = .ok (.if_icmp .ge 98, 3) := by decide +kernel
theorem dX0_beginAhead_24 : decode cX0_beginAhead 24 = .ok (.aload_n 0, 1) := by decide +kernel
theorem dX0_beginAhead_25 : decode cX0_beginAhead 25 = .ok (.getfield 25, 3) := by decide +kernel
theorem dX0_beginAhead_28 : decode cX0_beginAhead 28 = .ok (.iload_n 1, 1) := by decide +kernel
theorem dX0_beginAhead_29 : decode cX0_beginAhead 29 = .ok (.isub, 1) := by decide +kernel
theorem dX0_beginAhead_30 : decode cX0_beginAhead 30 = .ok (.istore_n 3, 1) := by decide +kernel
theorem dX0_beginAhead_31 : decode cX0_beginAhead 31 = .ok (.aload_n 0, 1) := by decide +kernel
theorem dX0_beginAhead_32 : decode cX0_beginAhead 32 = .ok (.getfield 9, 3) := by decide +kernel
theorem dX0_beginAhead_35 : decode cX0_beginAhead 35 = .ok (.iload_n 1, 1) := by decide +kernel
theorem dX0_beginAhead_36 : decode cX0_beginAhead 36 = .ok (.aload_n 0, 1) := by decide +kernel
theorem dX0_beginAhead_37 : decode cX0_beginAhead 37 = .ok (.getfield 9, 3) := by decide +kernel
theorem dX0_beginAhead_40 : decode cX0_beginAhead 40 = .ok (.iload_n 1, 1) := by decide +kernel
theorem dX0_beginAhead_41 : decode cX0_beginAhead 41 = .ok (.iconst 1, 1) := by decide +kernel
theorem dX0_beginAhead_42 : decode cX0_beginAhead 42 = .ok (.iadd, 1) := by decide +kernel
theorem dX0_beginAhead_43 : decode cX0_beginAhead 43 = .ok (.iload_n 3, 1) := by decide +kernel
theorem dX0_beginAhead_44 : decode cX0_beginAhead 44 = .ok (.invokestatic 36, 3) := by decide +kernel
theorem dX0_beginAhead_47 : decode cX0_beginAhead 47 = .ok (.aload_n 0, 1) := by decide +kernel
theorem dX0_beginAhead_48 : decode cX0_beginAhead 48 = .ok (.getfield 15, 3) := by decide +kernel
theorem dX0_beginAhead_51 : decode cX0_beginAhead 51 = .ok (.iload_n 1, 1) := by decide +kernel
theorem dX0_beginAhead_52 : decode cX0_beginAhead 52 = .ok (.aload_n 0, 1) := by decide +kernel
theorem dX0_beginAhead_53 : decode cX0_beginAhead 53 = .ok (.getfield 15, 3) := by decide +kernel
theorem dX0_beginAhead_56 : decode cX0_beginAhead 56 = .ok (.iload_n 1, 1) := by decide +kernel
theorem dX0_beginAhead_57 : decode cX0_beginAhead 57 = .ok (.iconst 1, 1) := by decide +kernel
theorem dX0_beginAhead_58 : decode cX0_beginAhead 58 = .ok (.iadd, 1) := by decide +kernel
theorem dX0_beginAhead_59 : decode cX0_beginAhead 59 = .ok (.iload_n 3, 1) := by decide +kernel
theorem dX0_beginAhead_60 : decode cX0_beginAhead 60 = .ok (.invokestatic 36, 3) := by decide +kernel
theorem dX0_beginAhead_63 : decode cX0_beginAhead 63 = .ok (.aload_n 0, 1) := by decide +kernel
theorem dX0_beginAhead_64 : decode cX0_beginAhead 64 = .ok (.getfield 18, 3) := by decide +kernel
theorem dX0_beginAhead_67 : decode cX0_beginAhead 67 = .ok (.iload_n 1, 1) := by decide +kernel
theorem dX0_beginAhead_68 : decode cX0_beginAhead 68 = .ok (.aload_n 0, 1) := by decide +kernel
theorem dX0_beginAhead_69 : decode cX0_beginAhead 69 = .ok (.getfield 18, 3) := by decide +kernel
theorem dX0_beginAhead_72 : decode cX0_beginAhead 72 = .ok (.iload_n 1, 1) := by decide +kernel
theorem dX0_beginAhead_73 : decode cX0_beginAhead 73 = .ok (.iconst 1, 1) := by decide +kernel
theorem dX0_beginAhead_74 : decode cX0_beginAhead 74 = .ok (.iadd, 1) := by decide +kernel
theorem dX0_beginAhead_75 : decode cX0_beginAhead 75 = .ok (.iload_n 3, 1) := by decide +kernel
theorem dX0_beginAhead_76 : decode cX0_beginAhead 76 = .ok (.invokestatic 36, 3) := by decide +kernel
theorem dX0_beginAhead_79 : decode cX0_beginAhead 79 = .ok (.aload_n 0, 1) := by decide +kernel
theorem dX0_beginAhead_80 : decode cX0_beginAhead 80 = .ok (.getfield 21, 3) := by decide +kernel
theorem dX0_beginAhead_83 : decode cX0_beginAhead 83 = .ok (.iload_n 1, 1) := by decide +kernel
theorem dX0_beginAhead_84 : decode cX0_beginAhead 84 = .ok (.aload_n 0, 1) := by decide +kernel
theorem dX0_beginAhead_85 : decode cX0_beginAhead 85 = .ok (.getfield 21, 3) := by decide +kernel
theorem dX0_beginAhead_88 : decode cX0_beginAhead 88 = .ok (.iload_n 1, 1) := by decide +kernel
theorem dX0_beginAhead_89 : decode cX0_beginAhead 89 = .ok (.iconst 1, 1) := by decide +kernel
theorem dX0_beginAhead_90 : decode cX0_beginAhead 90 = .ok (.iadd, 1) := by decide +kernel
theorem dX0_beginAhead_91 : decode cX0_beginAhead 91 = .ok (.iload_n 3, 1) := by decide +kernel
theorem dX0_beginAhead_92 : decode cX0_beginAhead 92 = .ok (.invokestatic 36, 3) := by decide +kernel
theorem dX0_beginAhead_95 : decode cX0_beginAhead 95 = .ok (.aload_n 0, 1) := by decide +kernel
theorem dX0_beginAhead_96 : decode cX0_beginAhead 96 = .ok (.getfield 9, 3) := by decide +kernel
theorem dX0_beginAhead_99 : decode cX0_beginAhead 99 = .ok (.iload_n 1, 1) := by decide +kernel
theorem dX0_beginAhead_100 : decode cX0_beginAhead 100 = .ok (.iconst 1, 1) := by decide +kernel
theorem dX0_beginAhead_101 : decode cX0_beginAhead 101 = .ok (.iastore, 1) := by decide +kernel
theorem dX0_beginAhead_102 : decode cX0_beginAhead 102 = .ok (.aload_n 0, 1) := by decide +kernel
theorem dX0_beginAhead_103 : decode cX0_beginAhead 103 = .ok (.getfield 15, 3) := by decide +kernel
theorem dX0_beginAhead_106 : decode cX0_beginAhead 106 = .ok (.iload_n 1, 1) := by decide +kernel
theorem dX0_beginAhead_107 : decode cX0_beginAhead 107 = .ok (.iload_n 2, 1) := by decide +kernel
theorem dX0_beginAhead_108 : decode cX0_beginAhead 108 = .ok (.iastore, 1) := by decide +kernel
theorem dX0_beginAhead_109 : decode cX0_beginAhead 109 = .ok (.aload_n 0, 1) := by decide +kernel
theorem dX0_beginAhead_110 : decode cX0_beginAhead 110 = .ok (.dup, 1) := by decide +kernel
theorem dX0_beginAhead_111 : decode cX0_beginAhead 111 = .ok (.getfield 25, 3) := by decide +kernel
theorem dX0_beginAhead_114 : decode cX0_beginAhead 114 = .ok (.iconst 1, 1) := by decide +kernel
theorem dX0_beginAhead_115 : decode cX0_beginAhead 115 = .ok (.iadd, 1) := by decide +kernel
theorem dX0_beginAhead_116 : decode cX0_beginAhead 116 = .ok (.putfield 25, 3) := by decide +kernel
theorem dX0_beginAhead_119 : decode cX0_beginAhead 119 = .ok (.return_, 1) := by decide +kernel
theorem dX0_setCount_0 : decode cX0_setCount 0 = .ok (.iload_n 1, 1) := by decide +kernel
theorem dX0_setCount_1 : decode cX0_setCount 1 = .ok (.ifCond .lt 18, 3) := by decide +kernel
theorem dX0_setCount_4 : decode cX0_setCount 4 = .ok (.iload_n 1, 1) := by decide +kernel
theorem dX0_setCount_5 : decode cX0_setCount 5 = .ok (.aload_n 0, 1) := by decide +kernel
theorem dX0_setCount_6 : decode cX0_setCount 6 = .ok (.getfield 25, 3) := by decide +kernel
theorem dX0_setCount_9 : decode cX0_setCount 9 = .ok (.if_icmp .ge 10, 3) := by decide +kernel
theorem dX0_setCount_12 : decode cX0_setCount 12 = .ok (.aload_n 0, 1) := by decide +kernel
theorem dX0_setCount_13 : decode cX0_setCount 13 = .ok (.getfield 18, 3) := by decide +kernel
theorem dX0_setCount_16 : decode cX0_setCount 16 = .ok (.iload_n 1, 1) := by decide +kernel
theorem dX0_setCount_17 : decode cX0_setCount 17 = .ok (.iload_n 2, 1) := by decide +kernel
theorem dX0_setCount_18 : decode cX0_setCount 18 = .ok (.iastore, 1) := by decide +kernel
theorem dX0_setCount_19 : decode cX0_setCount 19 = .ok (.return_, 1) := by decide +kernel
theorem dX0_aimAtEnd_0 : decode cX0_aimAtEnd 0 = .ok (.aload_n 0, 1) := by decide +kernel
theorem dX0_aimAtEnd_1 : decode cX0_aimAtEnd 1 = .ok (.iload_n 1, 1) := by decide +kernel
theorem dX0_aimAtEnd_2 : decode cX0_aimAtEnd 2 = .ok (.aload_n 0, 1) := by decide +kernel
theorem dX0_aimAtEnd_3 : decode cX0_aimAtEnd 3 = .ok (.getfield 25, 3) := by decide +kernel
theorem dX0_aimAtEnd_6 : decode cX0_aimAtEnd 6 = .ok (.iload_n 1, 1) := by decide +kernel
theorem dX0_aimAtEnd_7 : decode cX0_aimAtEnd 7 = .ok (.isub, 1) := by decide +kernel
theorem dX0_aimAtEnd_8 : decode cX0_aimAtEnd 8 = .ok (.iconst 1, 1) := by decide +kernel
theorem dX0_aimAtEnd_9 : decode cX0_aimAtEnd 9 = .ok (.isub, 1) := by decide +kernel
theorem dX0_aimAtEnd_10 : decode cX0_aimAtEnd 10 = .ok (.invokevirtual 42, 3) := by decide +kernel
theorem dX0_aimAtEnd_13 : decode cX0_aimAtEnd 13 = .ok (.return_, 1) := by decide +kernel
theorem dX0_numberNames_0 : decode cX0_numberNames 0 = .ok (.aload_n 0, 1) := by decide +kernel
theorem dX0_numberNames_1 : decode cX0_numberNames 1 = .ok (.iload_n 2, 1) := by decide +kernel
theorem dX0_numberNames_2 : decode cX0_numberNames 2 = .ok (.putfield 29, 3) := by decide +kernel
theorem dX0_numberNames_5 : decode cX0_numberNames 5 = .ok (.iconst 0, 1) := by decide +kernel
theorem dX0_numberNames_6 : decode cX0_numberNames 6 = .ok (.istore_n 3, 1) := by decide +kernel
theorem dX0_numberNames_7 : decode cX0_numberNames 7 = .ok (.iload_n 3, 1) := by decide +kernel
theorem dX0_numberNames_8 : decode cX0_numberNames 8 = .ok (.aload_n 0, 1) := by decide +kernel
theorem dX0_numberNames_9 : decode cX0_numberNames 9 = .ok (.getfield 25, 3) := by decide +kernel
theorem dX0_numberNames_12 : decode cX0_numberNames 12 = .ok (.if_icmp .ge 69, 3) := by decide +kernel
theorem dX0_numberNames_15 : decode cX0_numberNames 15 = .ok (.aload_n 0, 1) := by decide +kernel
theorem dX0_numberNames_16 : decode cX0_numberNames 16 = .ok (.getfield 9, 3) := by decide +kernel
theorem dX0_numberNames_19 : decode cX0_numberNames 19 = .ok (.iload_n 3, 1) := by decide +kernel
theorem dX0_numberNames_20 : decode cX0_numberNames 20 = .ok (.iaload, 1) := by decide +kernel
theorem dX0_numberNames_21 : decode cX0_numberNames 21 = .ok (.iconst 5, 1) := by decide +kernel
theorem dX0_numberNames_22 : decode cX0_numberNames 22 = .ok (.if_icmp .eq 36, 3) := by decide +kernel
theorem dX0_numberNames_25 : decode cX0_numberNames 25 = .ok (.aload_n 0, 1) := by decide +kernel
theorem dX0_numberNames_26 : decode cX0_numberNames 26 = .ok (.getfield 9, 3) := by decide +kernel
theorem dX0_numberNames_29 : decode cX0_numberNames 29 = .ok (.iload_n 3, 1) := by decide +kernel
theorem dX0_numberNames_30 : decode cX0_numberNames 30 = .ok (.iaload, 1) := by decide +kernel
theorem dX0_numberNames_31 : decode cX0_numberNames 31 = .ok (.bipush 6, 2) := by decide +kernel
theorem dX0_numberNames_33 : decode cX0_numberNames 33 = .ok (.if_icmp .eq 25, 3) := by decide +kernel
theorem dX0_numberNames_36 : decode cX0_numberNames 36 = .ok (.aload_n 0, 1) := by decide +kernel
theorem dX0_numberNames_37 : decode cX0_numberNames 37 = .ok (.getfield 9, 3) := by decide +kernel
theorem dX0_numberNames_40 : decode cX0_numberNames 40 = .ok (.iload_n 3, 1) := by decide +kernel
theorem dX0_numberNames_41 : decode cX0_numberNames 41 = .ok (.iaload, 1) := by decide +kernel
theorem dX0_numberNames_42 : decode cX0_numberNames 42 = .ok (.bipush 8, 2) := by decide +kernel
theorem dX0_numberNames_44 : decode cX0_numberNames 44 = .ok (.if_icmp .eq 14, 3) := by decide +kernel
theorem dX0_numberNames_47 : decode cX0_numberNames 47 = .ok (.aload_n 0, 1) := by decide +kernel
theorem dX0_numberNames_48 : decode cX0_numberNames 48 = .ok (.getfield 9, 3) := by decide +kernel
theorem dX0_numberNames_51 : decode cX0_numberNames 51 = .ok (.iload_n 3, 1) := by decide +kernel
theorem dX0_numberNames_52 : decode cX0_numberNames 52 = .ok (.iaload, 1) := by decide +kernel
theorem dX0_numberNames_53 : decode cX0_numberNames 53 = .ok (.bipush 9, 2) := by decide +kernel
theorem dX0_numberNames_55 : decode cX0_numberNames 55 = .ok (.if_icmp .ne 20, 3) := by decide +kernel
theorem dX0_numberNames_58 : decode cX0_numberNames 58 = .ok (.aload_n 0, 1) := by decide +kernel
theorem dX0_numberNames_59 : decode cX0_numberNames 59 = .ok (.getfield 21, 3) := by decide +kernel
theorem dX0_numberNames_62 : decode cX0_numberNames 62 = .ok (.iload_n 3, 1) := by decide +kernel
theorem dX0_numberNames_63 : decode cX0_numberNames 63 = .ok (.aload_n 1, 1) := by decide +kernel
theorem dX0_numberNames_64 : decode cX0_numberNames 64 = .ok (.aload_n 0, 1) := by decide +kernel
theorem dX0_numberNames_65 : decode cX0_numberNames 65 = .ok (.getfield 21, 3) := by decide +kernel
theorem dX0_numberNames_68 : decode cX0_numberNames 68 = .ok (.iload_n 3, 1) := by decide +kernel
theorem dX0_numberNames_69 : decode cX0_numberNames 69 = .ok (.laload, 1) := by decide +kernel
theorem dX0_numberNames_70 : decode cX0_numberNames 70 = .ok (.invokevirtual 46, 3) := by decide +kernel
theorem dX0_numberNames_73 : decode cX0_numberNames 73 = .ok (.i2l, 1) := by decide +kernel
theorem dX0_numberNames_74 : decode cX0_numberNames 74 = .ok (.lastore, 1) := by decide +kernel
theorem dX0_numberNames_75 : decode cX0_numberNames 75 = .ok (.iinc 3 1, 3) := by decide +kernel
theorem dX0_numberNames_78 : decode cX0_numberNames 78 = .ok (.goto (-71), 3) := by decide +kernel
theorem dX0_numberNames_81 : decode cX0_numberNames 81 = .ok (.return_, 1) := by decide +kernel
theorem dX0_copy_0 : decode cX0_copy 0 = .ok (.new 10, 3) := by decide +kernel
theorem dX0_copy_3 : decode cX0_copy 3 = .ok (.dup, 1) := by decide +kernel
theorem dX0_copy_4 : decode cX0_copy 4 = .ok (.aload_n 0, 1) := by decide +kernel
theorem dX0_copy_5 : decode cX0_copy 5 = .ok (.getfield 25, 3) := by decide +kernel
theorem dX0_copy_8 : decode cX0_copy 8 = .ok (.invokespecial 52, 3) := by decide +kernel
theorem dX0_copy_11 : decode cX0_copy 11 = .ok (.astore_n 1, 1) := by decide +kernel
theorem dX0_copy_12 : decode cX0_copy 12 = .ok (.aload_n 0, 1) := by decide +kernel
theorem dX0_copy_13 : decode cX0_copy 13 = .ok (.getfield 9, 3) := by decide +kernel
theorem dX0_copy_16 : decode cX0_copy 16 = .ok (.iconst 0, 1) := by decide +kernel
theorem dX0_copy_17 : decode cX0_copy 17 = .ok (.aload_n 1, 1) := by decide +kernel
theorem dX0_copy_18 : decode cX0_copy 18 = .ok (.getfield 9, 3) := by decide +kernel
theorem dX0_copy_21 : decode cX0_copy 21 = .ok (.iconst 0, 1) := by decide +kernel
theorem dX0_copy_22 : decode cX0_copy 22 = .ok (.aload_n 0, 1) := by decide +kernel
theorem dX0_copy_23 : decode cX0_copy 23 = .ok (.getfield 25, 3) := by decide +kernel
theorem dX0_copy_26 : decode cX0_copy 26 = .ok (.invokestatic 36, 3) := by decide +kernel
theorem dX0_copy_29 : decode cX0_copy 29 = .ok (.aload_n 0, 1) := by decide +kernel
theorem dX0_copy_30 : decode cX0_copy 30 = .ok (.getfield 15, 3) := by decide +kernel
theorem dX0_copy_33 : decode cX0_copy 33 = .ok (.iconst 0, 1) := by decide +kernel
theorem dX0_copy_34 : decode cX0_copy 34 = .ok (.aload_n 1, 1) := by decide +kernel
theorem dX0_copy_35 : decode cX0_copy 35 = .ok (.getfield 15, 3) := by decide +kernel
theorem dX0_copy_38 : decode cX0_copy 38 = .ok (.iconst 0, 1) := by decide +kernel
theorem dX0_copy_39 : decode cX0_copy 39 = .ok (.aload_n 0, 1) := by decide +kernel
theorem dX0_copy_40 : decode cX0_copy 40 = .ok (.getfield 25, 3) := by decide +kernel
theorem dX0_copy_43 : decode cX0_copy 43 = .ok (.invokestatic 36, 3) := by decide +kernel
theorem dX0_copy_46 : decode cX0_copy 46 = .ok (.aload_n 0, 1) := by decide +kernel
theorem dX0_copy_47 : decode cX0_copy 47 = .ok (.getfield 18, 3) := by decide +kernel
theorem dX0_copy_50 : decode cX0_copy 50 = .ok (.iconst 0, 1) := by decide +kernel
theorem dX0_copy_51 : decode cX0_copy 51 = .ok (.aload_n 1, 1) := by decide +kernel
theorem dX0_copy_52 : decode cX0_copy 52 = .ok (.getfield 18, 3) := by decide +kernel
theorem dX0_copy_55 : decode cX0_copy 55 = .ok (.iconst 0, 1) := by decide +kernel
theorem dX0_copy_56 : decode cX0_copy 56 = .ok (.aload_n 0, 1) := by decide +kernel
theorem dX0_copy_57 : decode cX0_copy 57 = .ok (.getfield 25, 3) := by decide +kernel
theorem dX0_copy_60 : decode cX0_copy 60 = .ok (.invokestatic 36, 3) := by decide +kernel
theorem dX0_copy_63 : decode cX0_copy 63 = .ok (.aload_n 0, 1) := by decide +kernel
theorem dX0_copy_64 : decode cX0_copy 64 = .ok (.getfield 21, 3) := by decide +kernel
theorem dX0_copy_67 : decode cX0_copy 67 = .ok (.iconst 0, 1) := by decide +kernel
theorem dX0_copy_68 : decode cX0_copy 68 = .ok (.aload_n 1, 1) := by decide +kernel
theorem dX0_copy_69 : decode cX0_copy 69 = .ok (.getfield 21, 3) := by decide +kernel
theorem dX0_copy_72 : decode cX0_copy 72 = .ok (.iconst 0, 1) := by decide +kernel
theorem dX0_copy_73 : decode cX0_copy 73 = .ok (.aload_n 0, 1) := by decide +kernel
theorem dX0_copy_74 : decode cX0_copy 74 = .ok (.getfield 25, 3) := by decide +kernel
theorem dX0_copy_77 : decode cX0_copy 77 = .ok (.invokestatic 36, 3) := by decide +kernel
theorem dX0_copy_80 : decode cX0_copy 80 = .ok (.aload_n 1, 1) := by decide +kernel
theorem dX0_copy_81 : decode cX0_copy 81 = .ok (.aload_n 0, 1) := by decide +kernel
theorem dX0_copy_82 : decode cX0_copy 82 = .ok (.getfield 25, 3) := by decide +kernel
theorem dX0_copy_85 : decode cX0_copy 85 = .ok (.putfield 25, 3) := by decide +kernel
theorem dX0_copy_88 : decode cX0_copy 88 = .ok (.aload_n 1, 1) := by decide +kernel
theorem dX0_copy_89 : decode cX0_copy 89 = .ok (.aload_n 0, 1) := by decide +kernel
theorem dX0_copy_90 : decode cX0_copy 90 = .ok (.getfield 29, 3) := by decide +kernel
theorem dX0_copy_93 : decode cX0_copy 93 = .ok (.putfield 29, 3) := by decide +kernel
theorem dX0_copy_96 : decode cX0_copy 96 = .ok (.aload_n 1, 1) := by decide +kernel
theorem dX0_copy_97 : decode cX0_copy 97 = .ok (.areturn, 1) := by decide +kernel
theorem dX1_init_0 : decode cX1_init 0 = .ok (.aload_n 0, 1) := by decide +kernel
theorem dX1_init_1 : decode cX1_init 1 = .ok (.invokespecial 1, 3) := by decide +kernel
theorem dX1_init_4 : decode cX1_init 4 = .ok (.aload_n 0, 1) := by decide +kernel
theorem dX1_init_5 : decode cX1_init 5 = .ok (.new 7, 3) := by decide +kernel
theorem dX1_init_8 : decode cX1_init 8 = .ok (.dup, 1) := by decide +kernel
theorem dX1_init_9 : decode cX1_init 9 = .ok (.sipush 401, 3) := by decide +kernel
theorem dX1_init_12 : decode cX1_init 12 = .ok (.invokespecial 11, 3) := by decide +kernel
theorem dX1_init_15 : decode cX1_init 15 = .ok (.putfield 14, 3) := by decide +kernel
theorem dX1_init_18 : decode cX1_init 18 = .ok (.aload_n 0, 1) := by decide +kernel
theorem dX1_init_19 : decode cX1_init 19 = .ok (.bipush 20, 2) := by decide +kernel
theorem dX1_init_21 : decode cX1_init 21 = .ok (.anewarray 18, 3) := by decide +kernel
theorem dX1_init_24 : decode cX1_init 24 = .ok (.putfield 20, 3) := by decide +kernel
theorem dX1_init_27 : decode cX1_init 27 = .ok (.aload_n 0, 1) := by decide +kernel
theorem dX1_init_28 : decode cX1_init 28 = .ok (.bipush 20, 2) := by decide +kernel
theorem dX1_init_30 : decode cX1_init 30 = .ok (.newarray .int, 2) := by decide +kernel
theorem dX1_init_32 : decode cX1_init 32 = .ok (.putfield 24, 3) := by decide +kernel
theorem dX1_init_35 : decode cX1_init 35 = .ok (.aload_n 0, 1) := by decide +kernel
theorem dX1_init_36 : decode cX1_init 36 = .ok (.bipush 20, 2) := by decide +kernel
theorem dX1_init_38 : decode cX1_init 38 = .ok (.newarray .int, 2) := by decide +kernel
theorem dX1_init_40 : decode cX1_init 40 = .ok (.putfield 28, 3) := by decide +kernel
theorem dX1_init_43 : decode cX1_init 43 = .ok (.aload_n 0, 1) := by decide +kernel
theorem dX1_init_44 : decode cX1_init 44 = .ok (.iconst 5, 1) := by decide +kernel
theorem dX1_init_45 : decode cX1_init 45 = .ok (.newarray .int, 2) := by decide +kernel
theorem dX1_init_47 : decode cX1_init 47 = .ok (.putfield 31, 3) := by decide +kernel
theorem dX1_init_50 : decode cX1_init 50 = .ok (.aload_n 0, 1) := by decide +kernel
theorem dX1_init_51 : decode cX1_init 51 = .ok (.new 18, 3) := by decide +kernel
theorem dX1_init_54 : decode cX1_init 54 = .ok (.dup, 1) := by decide +kernel
theorem dX1_init_55 : decode cX1_init 55 = .ok (.iconst 0, 1) := by decide +kernel
theorem dX1_init_56 : decode cX1_init 56 = .ok (.invokespecial 34, 3) := by decide +kernel
theorem dX1_init_59 : decode cX1_init 59 = .ok (.putfield 35, 3) := by decide +kernel
theorem dX1_init_62 : decode cX1_init 62 = .ok (.aload_n 0, 1) := by decide +kernel
theorem dX1_init_63 : decode cX1_init 63 = .ok (.aload_n 1, 1) := by decide +kernel
theorem dX1_init_64 : decode cX1_init 64 = .ok (.putfield 39, 3) := by decide +kernel
theorem dX1_init_67 : decode cX1_init 67 = .ok (.return_, 1) := by decide +kernel
theorem dX1_clear_0 : decode cX1_clear 0 = .ok (.aload_n 0, 1) := by decide +kernel
theorem dX1_clear_1 : decode cX1_clear 1 = .ok (.invokevirtual 43, 3) := by decide +kernel
theorem dX1_clear_4 : decode cX1_clear 4 = .ok (.aload_n 0, 1) := by decide +kernel
theorem dX1_clear_5 : decode cX1_clear 5 = .ok (.iconst 0, 1) := by decide +kernel
theorem dX1_clear_6 : decode cX1_clear 6 = .ok (.putfield 46, 3) := by decide +kernel
theorem dX1_clear_9 : decode cX1_clear 9 = .ok (.return_, 1) := by decide +kernel
theorem dX1_forgetReport_0 : decode cX1_forgetReport 0 = .ok (.aload_n 0, 1) := by decide +kernel
theorem dX1_forgetReport_1 : decode cX1_forgetReport 1 = .ok (.getfield 31, 3) := by decide +kernel
theorem dX1_forgetReport_4 : decode cX1_forgetReport 4 = .ok (.iconst 0, 1) := by decide +kernel
theorem dX1_forgetReport_5 : decode cX1_forgetReport 5 = .ok (.invokestatic 50, 3) := by decide +kernel
theorem dX1_forgetReport_8 : decode cX1_forgetReport 8 = .ok (.return_, 1) := by decide +kernel
theorem dX1_reported_0 : decode cX1_reported 0 = .ok (.iload_n 1, 1) := by decide +kernel
theorem dX1_reported_1 : decode cX1_reported 1 = .ok (.ifCond .lt 17, 3) := by decide +kernel
theorem dX1_reported_4 : decode cX1_reported 4 = .ok (.iload_n 1, 1) := by decide +kernel
theorem dX1_reported_5 : decode cX1_reported 5 = .ok (.iconst 5, 1) := by decide +kernel
theorem dX1_reported_6 : decode cX1_reported 6 = .ok (.if_icmp .ge 12, 3) := by decide +kernel
theorem dX1_reported_9 : decode cX1_reported 9 = .ok (.aload_n 0, 1) := by decide +kernel
theorem dX1_reported_10 : decode cX1_reported 10 = .ok (.getfield 31, 3) := by decide +kernel
theorem dX1_reported_13 : decode cX1_reported 13 = .ok (.iload_n 1, 1) := by decide +kernel
theorem dX1_reported_14 : decode cX1_reported 14 = .ok (.iaload, 1) := by decide +kernel
theorem dX1_reported_15 : decode cX1_reported 15 = .ok (.goto 4, 3) := by decide +kernel
theorem dX1_reported_18 : decode cX1_reported 18 = .ok (.iconst 0, 1) := by decide +kernel
theorem dX1_reported_19 : decode cX1_reported 19 = .ok (.ireturn, 1) := by decide +kernel
theorem dX1_failure_0 : decode cX1_failure 0 = .ok (.aload_n 0, 1) := by decide +kernel
theorem dX1_failure_1 : decode cX1_failure 1 = .ok (.getfield 31, 3) := by decide +kernel
theorem dX1_failure_4 : decode cX1_failure 4 = .ok (.iconst 0, 1) := by decide +kernel
theorem dX1_failure_5 : decode cX1_failure 5 = .ok (.iaload, 1) := by decide +kernel
theorem dX1_failure_6 : decode cX1_failure 6 = .ok (.ireturn, 1) := by decide +kernel
theorem dX1_stepsInAll_0 : decode cX1_stepsInAll 0 = .ok (.aload_n 0, 1) := by decide +kernel
theorem dX1_stepsInAll_1 : decode cX1_stepsInAll 1 = .ok (.getfield 46, 3) := by decide +kernel
theorem dX1_stepsInAll_4 : decode cX1_stepsInAll 4 = .ok (.ireturn, 1) := by decide +kernel
theorem dX1_valueKind_0 : decode cX1_valueKind 0 = .ok (.aload_n 0, 1) := by decide +kernel
theorem dX1_valueKind_1 : decode cX1_valueKind 1 = .ok (.getfield 14, 3) := by decide +kernel
theorem dX1_valueKind_4 : decode cX1_valueKind 4 = .ok (.aload_n 0, 1) := by decide +kernel
theorem dX1_valueKind_5 : decode cX1_valueKind 5 = .ok (.getfield 56, 3) := by decide +kernel
theorem dX1_valueKind_8 : decode cX1_valueKind 8 = .ok (.iconst 1, 1) := by decide +kernel
theorem dX1_valueKind_9 : decode cX1_valueKind 9 = .ok (.isub, 1) := by decide +kernel
theorem dX1_valueKind_10 : decode cX1_valueKind 10 = .ok (.invokevirtual 59, 3) := by decide +kernel
theorem dX1_valueKind_13 : decode cX1_valueKind 13 = .ok (.ireturn, 1) := by decide +kernel
theorem dX1_valueCore_0 : decode cX1_valueCore 0 = .ok (.aload_n 0, 1) := by decide +kernel
theorem dX1_valueCore_1 : decode cX1_valueCore 1 = .ok (.getfield 14, 3) := by decide +kernel
theorem dX1_valueCore_4 : decode cX1_valueCore 4 = .ok (.aload_n 0, 1) := by decide +kernel
theorem dX1_valueCore_5 : decode cX1_valueCore 5 = .ok (.getfield 56, 3) := by decide +kernel
theorem dX1_valueCore_8 : decode cX1_valueCore 8 = .ok (.iconst 1, 1) := by decide +kernel
theorem dX1_valueCore_9 : decode cX1_valueCore 9 = .ok (.isub, 1) := by decide +kernel
theorem dX1_valueCore_10 : decode cX1_valueCore 10 = .ok (.invokevirtual 63, 3) := by decide +kernel
theorem dX1_valueCore_13 : decode cX1_valueCore 13 = .ok (.lreturn, 1) := by decide +kernel
theorem dX1_work_0 : decode cX1_work 0 = .ok (.aload_n 0, 1) := by decide +kernel
theorem dX1_work_1 : decode cX1_work 1 = .ok (.getfield 39, 3) := by decide +kernel
theorem dX1_work_4 : decode cX1_work 4 = .ok (.getfield 67, 3) := by decide +kernel
theorem dX1_work_7 : decode cX1_work 7 = .ok (.invokevirtual 73, 3) := by decide +kernel
theorem dX1_work_10 : decode cX1_work 10 = .ok (.istore_n 2, 1) := by decide +kernel
theorem dX1_work_11 : decode cX1_work 11 = .ok (.aload_n 0, 1) := by decide +kernel
theorem dX1_work_12 : decode cX1_work 12 = .ok (.aload_n 1, 1) := by decide +kernel
theorem dX1_work_13 : decode cX1_work 13 = .ok (.putfield 35, 3) := by decide +kernel
theorem dX1_work_16 : decode cX1_work 16 = .ok (.aload_n 0, 1) := by decide +kernel
theorem dX1_work_17 : decode cX1_work 17 = .ok (.iconst 0, 1) := by decide +kernel
theorem dX1_work_18 : decode cX1_work 18 = .ok (.putfield 79, 3) := by decide +kernel
theorem dX1_work_21 : decode cX1_work 21 = .ok (.aload_n 0, 1) := by decide +kernel
theorem dX1_work_22 : decode cX1_work 22 = .ok (.iconst 0, 1) := by decide +kernel
theorem dX1_work_23 : decode cX1_work 23 = .ok (.putfield 82, 3) := by decide +kernel
theorem dX1_work_26 : decode cX1_work 26 = .ok (.aload_n 0, 1) := by decide +kernel
theorem dX1_work_27 : decode cX1_work 27 = .ok (.iconst 0, 1) := by decide +kernel
theorem dX1_work_28 : decode cX1_work 28 = .ok (.putfield 56, 3) := by decide +kernel
theorem dX1_work_31 : decode cX1_work 31 = .ok (.aload_n 0, 1) := by decide +kernel
theorem dX1_work_32 : decode cX1_work 32 = .ok (.iconst 0, 1) := by decide +kernel
theorem dX1_work_33 : decode cX1_work 33 = .ok (.putfield 85, 3) := by decide +kernel
theorem dX1_work_36 : decode cX1_work 36 = .ok (.aload_n 0, 1) := by decide +kernel
theorem dX1_work_37 : decode cX1_work 37 = .ok (.iconst 1, 1) := by decide +kernel
theorem dX1_work_38 : decode cX1_work 38 = .ok (.putfield 88, 3) := by decide +kernel
theorem dX1_work_41 : decode cX1_work 41 = .ok (.iconst 0, 1) := by decide +kernel
theorem dX1_work_42 : decode cX1_work 42 = .ok (.istore_n 3, 1) := by decide +kernel
theorem dX1_work_43 : decode cX1_work 43 = .ok (.iload_n 3, 1) := by decide +kernel
theorem dX1_work_44 : decode cX1_work 44 = .ok (.sipush 10000, 3) := by decide +kernel
theorem dX1_work_47 : decode cX1_work 47 = .ok (.if_icmp .ge 20, 3) := by decide +kernel
theorem dX1_work_50 : decode cX1_work 50 = .ok (.aload_n 0, 1) := by decide +kernel
theorem dX1_work_51 : decode cX1_work 51 = .ok (.getfield 88, 3) := by decide +kernel
theorem dX1_work_54 : decode cX1_work 54 = .ok (.ifCond .eq 13, 3) := by decide +kernel
theorem dX1_work_57 : decode cX1_work 57 = .ok (.aload_n 0, 1) := by decide +kernel
theorem dX1_work_58 : decode cX1_work 58 = .ok (.invokevirtual 92, 3) := by decide +kernel
theorem dX1_work_61 : decode cX1_work 61 = .ok (.iinc 3 1, 3) := by decide +kernel
theorem dX1_work_64 : decode cX1_work 64 = .ok (.goto (-21), 3) := by decide +kernel
theorem dX1_work_67 : decode cX1_work 67 = .ok (.aload_n 0, 1) := by decide +kernel
theorem dX1_work_68 : decode cX1_work 68 = .ok (.invokevirtual 95, 3) := by decide +kernel
theorem dX1_work_71 : decode cX1_work 71 = .ok (.ifCond .eq 14, 3) := by decide +kernel
theorem dX1_work_74 : decode cX1_work 74 = .ok (.aload_n 0, 1) := by decide +kernel
theorem dX1_work_75 : decode cX1_work 75 = .ok (.getfield 39, 3) := by decide +kernel
theorem dX1_work_78 : decode cX1_work 78 = .ok (.getfield 67, 3) := by decide +kernel
theorem dX1_work_81 : decode cX1_work 81 = .ok (.iload_n 2, 1) := by decide +kernel
theorem dX1_work_82 : decode cX1_work 82 = .ok (.invokevirtual 98, 3) := by decide +kernel
theorem dX1_work_85 : decode cX1_work 85 = .ok (.return_, 1) := by decide +kernel
theorem dX1_doNext_0 : decode cX1_doNext 0 = .ok (.aload_n 0, 1) := by decide +kernel
theorem dX1_doNext_1 : decode cX1_doNext 1 = .ok (.aload_n 0, 1) := by decide +kernel
theorem dX1_doNext_2 : decode cX1_doNext 2 = .ok (.getfield 79, 3) := by decide +kernel
theorem dX1_doNext_5 : decode cX1_doNext 5 = .ok (.putfield 101, 3) := by decide +kernel
theorem dX1_doNext_8 : decode cX1_doNext 8 = .ok (.aload_n 0, 1) := by decide +kernel
theorem dX1_doNext_9 : decode cX1_doNext 9 = .ok (.dup, 1) := by decide +kernel
theorem dX1_doNext_10 : decode cX1_doNext 10 = .ok (.getfield 79, 3) := by decide +kernel
theorem dX1_doNext_13 : decode cX1_doNext 13 = .ok (.iconst 1, 1) := by decide +kernel
theorem dX1_doNext_14 : decode cX1_doNext 14 = .ok (.iadd, 1) := by decide +kernel
theorem dX1_doNext_15 : decode cX1_doNext 15 = .ok (.putfield 79, 3) := by decide +kernel
theorem dX1_doNext_18 : decode cX1_doNext 18 = .ok (.aload_n 0, 1) := by decide +kernel
theorem dX1_doNext_19 : decode cX1_doNext 19 = .ok (.getfield 35, 3) := by decide +kernel
theorem dX1_doNext_22 : decode cX1_doNext 22 = .ok (.aload_n 0, 1) := by decide +kernel
theorem dX1_doNext_23 : decode cX1_doNext 23 = .ok (.getfield 101, 3) := by decide +kernel
theorem dX1_doNext_26 : decode cX1_doNext 26 = .ok (.invokevirtual 104, 3) := by decide +kernel
theorem dX1_doNext_29 : decode cX1_doNext 29 = .ok (.istore_n 1, 1) := by decide +kernel
theorem dX1_doNext_30 : decode cX1_doNext 30 = .ok (.iload_n 1, 1) := by decide +kernel
theorem dX1_doNext_31 : decode cX1_doNext 31 = .ok (.bipush 7, 2) := by decide +kernel
theorem dX1_doNext_33 : decode cX1_doNext 33 = .ok (.if_icmp .ge 11, 3) := by decide +kernel
theorem dX1_doNext_36 : decode cX1_doNext 36 = .ok (.aload_n 0, 1) := by decide +kernel
theorem dX1_doNext_37 : decode cX1_doNext 37 = .ok (.invokevirtual 107, 3) := by decide +kernel
theorem dX1_doNext_40 : decode cX1_doNext 40 = .ok (.ifCond .ne 4, 3) := by decide +kernel
theorem dX1_doNext_43 : decode cX1_doNext 43 = .ok (.return_, 1) := by decide +kernel
theorem dX1_doNext_44 : decode cX1_doNext 44 = .ok (.iload_n 1, 1) := by decide +kernel
theorem dX1_doNext_45 : decode cX1_doNext 45 = .ok (.tableswitch 295 1 13 #[67, 70, 89, 107, 134, 153, 183, 192, 222, 240, 247, 265, 288], 67) := by decide +kernel
theorem dX1_doNext_112 : decode cX1_doNext 112 = .ok (.goto 233, 3) := by decide +kernel
theorem dX1_doNext_115 : decode cX1_doNext 115 = .ok (.aload_n 0, 1) := by decide +kernel
theorem dX1_doNext_116 : decode cX1_doNext 116 = .ok (.iconst 1, 1) := by decide +kernel
theorem dX1_doNext_117 : decode cX1_doNext 117 = .ok (.aload_n 0, 1) := by decide +kernel
theorem dX1_doNext_118 : decode cX1_doNext 118 = .ok (.getfield 35, 3) := by decide +kernel
theorem dX1_doNext_121 : decode cX1_doNext 121 = .ok (.aload_n 0, 1) := by decide +kernel
theorem dX1_doNext_122 : decode cX1_doNext 122 = .ok (.getfield 101, 3) := by decide +kernel
theorem dX1_doNext_125 : decode cX1_doNext 125 = .ok (.invokevirtual 111, 3) := by decide +kernel
theorem dX1_doNext_128 : decode cX1_doNext 128 = .ok (.invokevirtual 112, 3) := by decide +kernel
theorem dX1_doNext_131 : decode cX1_doNext 131 = .ok (.goto 214, 3) := by decide +kernel
theorem dX1_doNext_134 : decode cX1_doNext 134 = .ok (.aload_n 0, 1) := by decide +kernel
theorem dX1_doNext_135 : decode cX1_doNext 135 = .ok (.aload_n 0, 1) := by decide +kernel
theorem dX1_doNext_136 : decode cX1_doNext 136 = .ok (.getfield 35, 3) := by decide +kernel
theorem dX1_doNext_139 : decode cX1_doNext 139 = .ok (.aload_n 0, 1) := by decide +kernel
theorem dX1_doNext_140 : decode cX1_doNext 140 = .ok (.getfield 101, 3) := by decide +kernel
theorem dX1_doNext_143 : decode cX1_doNext 143 = .ok (.invokevirtual 116, 3) := by decide +kernel
theorem dX1_doNext_146 : decode cX1_doNext 146 = .ok (.invokevirtual 119, 3) := by decide +kernel
theorem dX1_doNext_149 : decode cX1_doNext 149 = .ok (.goto 196, 3) := by decide +kernel
theorem dX1_doNext_152 : decode cX1_doNext 152 = .ok (.aload_n 0, 1) := by decide +kernel
theorem dX1_doNext_153 : decode cX1_doNext 153 = .ok (.aload_n 0, 1) := by decide +kernel
theorem dX1_doNext_154 : decode cX1_doNext 154 = .ok (.getfield 14, 3) := by decide +kernel
theorem dX1_doNext_157 : decode cX1_doNext 157 = .ok (.aload_n 0, 1) := by decide +kernel
theorem dX1_doNext_158 : decode cX1_doNext 158 = .ok (.getfield 82, 3) := by decide +kernel
theorem dX1_doNext_161 : decode cX1_doNext 161 = .ok (.aload_n 0, 1) := by decide +kernel
theorem dX1_doNext_162 : decode cX1_doNext 162 = .ok (.getfield 35, 3) := by decide +kernel
theorem dX1_doNext_165 : decode cX1_doNext 165 = .ok (.aload_n 0, 1) := by decide +kernel
theorem dX1_doNext_166 : decode cX1_doNext 166 = .ok (.getfield 101, 3) := by decide +kernel
theorem dX1_doNext_169 : decode cX1_doNext 169 = .ok (.invokevirtual 116, 3) := by decide +kernel
theorem dX1_doNext_172 : decode cX1_doNext 172 = .ok (.iadd, 1) := by decide +kernel
theorem dX1_doNext_173 : decode cX1_doNext 173 = .ok (.invokevirtual 122, 3) := by decide +kernel
theorem dX1_doNext_176 : decode cX1_doNext 176 = .ok (.goto 169, 3) := by decide +kernel
theorem dX1_doNext_179 : decode cX1_doNext 179 = .ok (.aload_n 0, 1) := by decide +kernel
theorem dX1_doNext_180 : decode cX1_doNext 180 = .ok (.aload_n 0, 1) := by decide +kernel
theorem dX1_doNext_181 : decode cX1_doNext 181 = .ok (.getfield 35, 3) := by decide +kernel
theorem dX1_doNext_184 : decode cX1_doNext 184 = .ok (.aload_n 0, 1) := by decide +kernel
theorem dX1_doNext_185 : decode cX1_doNext 185 = .ok (.getfield 101, 3) := by decide +kernel
theorem dX1_doNext_188 : decode cX1_doNext 188 = .ok (.invokevirtual 111, 3) := by decide +kernel
theorem dX1_doNext_191 : decode cX1_doNext 191 = .ok (.l2i, 1) := by decide +kernel
theorem dX1_doNext_192 : decode cX1_doNext 192 = .ok (.invokevirtual 126, 3) := by decide +kernel
theorem dX1_doNext_195 : decode cX1_doNext 195 = .ok (.goto 150, 3) := by decide +kernel
theorem dX1_doNext_198 : decode cX1_doNext 198 = .ok (.aload_n 0, 1) := by decide +kernel
theorem dX1_doNext_199 : decode cX1_doNext 199 = .ok (.aload_n 0, 1) := by decide +kernel
theorem dX1_doNext_200 : decode cX1_doNext 200 = .ok (.getfield 35, 3) := by decide +kernel
theorem dX1_doNext_203 : decode cX1_doNext 203 = .ok (.aload_n 0, 1) := by decide +kernel
theorem dX1_doNext_204 : decode cX1_doNext 204 = .ok (.getfield 101, 3) := by decide +kernel
theorem dX1_doNext_207 : decode cX1_doNext 207 = .ok (.invokevirtual 111, 3) := by decide +kernel
theorem dX1_doNext_210 : decode cX1_doNext 210 = .ok (.l2i, 1) := by decide +kernel
theorem dX1_doNext_211 : decode cX1_doNext 211 = .ok (.aload_n 0, 1) := by decide +kernel
theorem dX1_doNext_212 : decode cX1_doNext 212 = .ok (.getfield 35, 3) := by decide +kernel
theorem dX1_doNext_215 : decode cX1_doNext 215 = .ok (.aload_n 0, 1) := by decide +kernel
theorem dX1_doNext_216 : decode cX1_doNext 216 = .ok (.getfield 101, 3) := by decide +kernel
theorem dX1_doNext_219 : decode cX1_doNext 219 = .ok (.invokevirtual 116, 3) := by decide +kernel
theorem dX1_doNext_222 : decode cX1_doNext 222 = .ok (.invokevirtual 129, 3) := by decide +kernel
theorem dX1_doNext_225 : decode cX1_doNext 225 = .ok (.goto 120, 3) := by decide +kernel
theorem dX1_doNext_228 : decode cX1_doNext 228 = .ok (.aload_n 0, 1) := by decide +kernel
theorem dX1_doNext_229 : decode cX1_doNext 229 = .ok (.iconst 0, 1) := by decide +kernel
theorem dX1_doNext_230 : decode cX1_doNext 230 = .ok (.lconst 0, 1) := by decide +kernel
theorem dX1_doNext_231 : decode cX1_doNext 231 = .ok (.invokevirtual 112, 3) := by decide +kernel
theorem dX1_doNext_234 : decode cX1_doNext 234 = .ok (.goto 111, 3) := by decide +kernel
theorem dX1_doNext_237 : decode cX1_doNext 237 = .ok (.aload_n 0, 1) := by decide +kernel
theorem dX1_doNext_238 : decode cX1_doNext 238 = .ok (.aload_n 0, 1) := by decide +kernel
theorem dX1_doNext_239 : decode cX1_doNext 239 = .ok (.getfield 35, 3) := by decide +kernel
theorem dX1_doNext_242 : decode cX1_doNext 242 = .ok (.aload_n 0, 1) := by decide +kernel
theorem dX1_doNext_243 : decode cX1_doNext 243 = .ok (.getfield 101, 3) := by decide +kernel
theorem dX1_doNext_246 : decode cX1_doNext 246 = .ok (.invokevirtual 111, 3) := by decide +kernel
theorem dX1_doNext_249 : decode cX1_doNext 249 = .ok (.l2i, 1) := by decide +kernel
theorem dX1_doNext_250 : decode cX1_doNext 250 = .ok (.aload_n 0, 1) := by decide +kernel
theorem dX1_doNext_251 : decode cX1_doNext 251 = .ok (.getfield 35, 3) := by decide +kernel
theorem dX1_doNext_254 : decode cX1_doNext 254 = .ok (.aload_n 0, 1) := by decide +kernel
theorem dX1_doNext_255 : decode cX1_doNext 255 = .ok (.getfield 101, 3) := by decide +kernel
theorem dX1_doNext_258 : decode cX1_doNext 258 = .ok (.invokevirtual 116, 3) := by decide +kernel
theorem dX1_doNext_261 : decode cX1_doNext 261 = .ok (.invokevirtual 133, 3) := by decide +kernel
theorem dX1_doNext_264 : decode cX1_doNext 264 = .ok (.goto 81, 3) := by decide +kernel
theorem dX1_doNext_267 : decode cX1_doNext 267 = .ok (.aload_n 0, 1) := by decide +kernel
theorem dX1_doNext_268 : decode cX1_doNext 268 = .ok (.aload_n 0, 1) := by decide +kernel
theorem dX1_doNext_269 : decode cX1_doNext 269 = .ok (.getfield 35, 3) := by decide +kernel
theorem dX1_doNext_272 : decode cX1_doNext 272 = .ok (.aload_n 0, 1) := by decide +kernel
theorem dX1_doNext_273 : decode cX1_doNext 273 = .ok (.getfield 101, 3) := by decide +kernel
theorem dX1_doNext_276 : decode cX1_doNext 276 = .ok (.invokevirtual 111, 3) := by decide +kernel
theorem dX1_doNext_279 : decode cX1_doNext 279 = .ok (.invokevirtual 136, 3) := by decide +kernel
theorem dX1_doNext_282 : decode cX1_doNext 282 = .ok (.goto 63, 3) := by decide +kernel
theorem dX1_doNext_285 : decode cX1_doNext 285 = .ok (.aload_n 0, 1) := by decide +kernel
theorem dX1_doNext_286 : decode cX1_doNext 286 = .ok (.invokevirtual 140, 3) := by decide +kernel
theorem dX1_doNext_289 : decode cX1_doNext 289 = .ok (.goto 56, 3) := by decide +kernel
theorem dX1_doNext_292 : decode cX1_doNext 292 = .ok (.aload_n 0, 1) := by decide +kernel
theorem dX1_doNext_293 : decode cX1_doNext 293 = .ok (.aload_n 0, 1) := by decide +kernel
theorem dX1_doNext_294 : decode cX1_doNext 294 = .ok (.getfield 35, 3) := by decide +kernel
theorem dX1_doNext_297 : decode cX1_doNext 297 = .ok (.aload_n 0, 1) := by decide +kernel
theorem dX1_doNext_298 : decode cX1_doNext 298 = .ok (.getfield 101, 3) := by decide +kernel
theorem dX1_doNext_301 : decode cX1_doNext 301 = .ok (.invokevirtual 116, 3) := by decide +kernel
theorem dX1_doNext_304 : decode cX1_doNext 304 = .ok (.invokevirtual 143, 3) := by decide +kernel
theorem dX1_doNext_307 : decode cX1_doNext 307 = .ok (.goto 38, 3) := by decide +kernel
theorem dX1_doNext_310 : decode cX1_doNext 310 = .ok (.aload_n 0, 1) := by decide +kernel
theorem dX1_doNext_311 : decode cX1_doNext 311 = .ok (.dup, 1) := by decide +kernel
theorem dX1_doNext_312 : decode cX1_doNext 312 = .ok (.getfield 79, 3) := by decide +kernel
theorem dX1_doNext_315 : decode cX1_doNext 315 = .ok (.aload_n 0, 1) := by decide +kernel
theorem dX1_doNext_316 : decode cX1_doNext 316 = .ok (.getfield 35, 3) := by decide +kernel
theorem dX1_doNext_319 : decode cX1_doNext 319 = .ok (.aload_n 0, 1) := by decide +kernel
theorem dX1_doNext_320 : decode cX1_doNext 320 = .ok (.getfield 101, 3) := by decide +kernel
theorem dX1_doNext_323 : decode cX1_doNext 323 = .ok (.invokevirtual 116, 3) := by decide +kernel
theorem dX1_doNext_326 : decode cX1_doNext 326 = .ok (.iadd, 1) := by decide +kernel
theorem dX1_doNext_327 : decode cX1_doNext 327 = .ok (.putfield 79, 3) := by decide +kernel
theorem dX1_doNext_330 : decode cX1_doNext 330 = .ok (.goto 15, 3) := by decide +kernel
theorem dX1_doNext_333 : decode cX1_doNext 333 = .ok (.aload_n 0, 1) := by decide +kernel
theorem dX1_doNext_334 : decode cX1_doNext 334 = .ok (.invokevirtual 146, 3) := by decide +kernel
theorem dX1_doNext_337 : decode cX1_doNext 337 = .ok (.goto 8, 3) := by decide +kernel
theorem dX1_doNext_340 : decode cX1_doNext 340 = .ok (.aload_n 0, 1) := by decide +kernel
theorem dX1_doNext_341 : decode cX1_doNext 341 = .ok (.iload_n 1, 1) := by decide +kernel
theorem dX1_doNext_342 : decode cX1_doNext 342 = .ok (.invokevirtual 149, 3) := by decide +kernel
theorem dX1_doNext_345 : decode cX1_doNext 345 = .ok (.return_, 1) := by decide +kernel
theorem dX1_takeStep_0 : decode cX1_takeStep 0 = .ok (.aload_n 0, 1) := by decide +kernel
theorem dX1_takeStep_1 : decode cX1_takeStep 1 = .ok (.getfield 31, 3) := by decide +kernel
theorem dX1_takeStep_4 : decode cX1_takeStep 4 = .ok (.iconst 4, 1) := by decide +kernel
theorem dX1_takeStep_5 : decode cX1_takeStep 5 = .ok (.dup2, 1) := by decide +kernel
theorem dX1_takeStep_6 : decode cX1_takeStep 6 = .ok (.iaload, 1) := by decide +kernel
theorem dX1_takeStep_7 : decode cX1_takeStep 7 = .ok (.iconst 1, 1) := by decide +kernel
theorem dX1_takeStep_8 : decode cX1_takeStep 8 = .ok (.iadd, 1) := by decide +kernel
theorem dX1_takeStep_9 : decode cX1_takeStep 9 = .ok (.iastore, 1) := by decide +kernel
theorem dX1_takeStep_10 : decode cX1_takeStep 10 = .ok (.aload_n 0, 1) := by decide +kernel
theorem dX1_takeStep_11 : decode cX1_takeStep 11 = .ok (.dup, 1) := by decide +kernel
theorem dX1_takeStep_12 : decode cX1_takeStep 12 = .ok (.getfield 46, 3) := by decide +kernel
theorem dX1_takeStep_15 : decode cX1_takeStep 15 = .ok (.iconst 1, 1) := by decide +kernel
theorem dX1_takeStep_16 : decode cX1_takeStep 16 = .ok (.iadd, 1) := by decide +kernel
theorem dX1_takeStep_17 : decode cX1_takeStep 17 = .ok (.putfield 46, 3) := by decide +kernel
theorem dX1_takeStep_20 : decode cX1_takeStep 20 = .ok (.aload_n 0, 1) := by decide +kernel
theorem dX1_takeStep_21 : decode cX1_takeStep 21 = .ok (.getfield 31, 3) := by decide +kernel
theorem dX1_takeStep_24 : decode cX1_takeStep 24 = .ok (.iconst 4, 1) := by decide +kernel
theorem dX1_takeStep_25 : decode cX1_takeStep 25 = .ok (.iaload, 1) := by decide +kernel
theorem dX1_takeStep_26 : decode cX1_takeStep 26 = .ok (.sipush 400, 3) := by decide +kernel
theorem dX1_takeStep_29 : decode cX1_takeStep 29 = .ok (.if_icmp .le 11, 3) := by decide +kernel
theorem dX1_takeStep_32 : decode cX1_takeStep 32 = .ok (.aload_n 0, 1) := by decide +kernel
theorem dX1_takeStep_33 : decode cX1_takeStep 33 = .ok (.bipush 8, 2) := by decide +kernel
theorem dX1_takeStep_35 : decode cX1_takeStep 35 = .ok (.invokevirtual 152, 3) := by decide +kernel
theorem dX1_takeStep_38 : decode cX1_takeStep 38 = .ok (.iconst 0, 1) := by decide +kernel
theorem dX1_takeStep_39 : decode cX1_takeStep 39 = .ok (.ireturn, 1) := by decide +kernel
theorem dX1_takeStep_40 : decode cX1_takeStep 40 = .ok (.iconst 1, 1) := by decide +kernel
theorem dX1_takeStep_41 : decode cX1_takeStep 41 = .ok (.ireturn, 1) := by decide +kernel
theorem dX1_fail_0 : decode cX1_fail 0 = .ok (.aload_n 0, 1) := by decide +kernel
theorem dX1_fail_1 : decode cX1_fail 1 = .ok (.getfield 31, 3) := by decide +kernel
theorem dX1_fail_4 : decode cX1_fail 4 = .ok (.iconst 0, 1) := by decide +kernel
theorem dX1_fail_5 : decode cX1_fail 5 = .ok (.iload_n 1, 1) := by decide +kernel
theorem dX1_fail_6 : decode cX1_fail 6 = .ok (.iastore, 1) := by decide +kernel
theorem dX1_fail_7 : decode cX1_fail 7 = .ok (.aload_n 0, 1) := by decide +kernel
theorem dX1_fail_8 : decode cX1_fail 8 = .ok (.getfield 31, 3) := by decide +kernel
theorem dX1_fail_11 : decode cX1_fail 11 = .ok (.iconst 1, 1) := by decide +kernel
theorem dX1_fail_12 : decode cX1_fail 12 = .ok (.aload_n 0, 1) := by decide +kernel
theorem dX1_fail_13 : decode cX1_fail 13 = .ok (.getfield 35, 3) := by decide +kernel
theorem dX1_fail_16 : decode cX1_fail 16 = .ok (.invokevirtual 155, 3) := by decide +kernel
theorem dX1_fail_19 : decode cX1_fail 19 = .ok (.iastore, 1) := by decide +kernel
theorem dX1_fail_20 : decode cX1_fail 20 = .ok (.aload_n 0, 1) := by decide +kernel
theorem dX1_fail_21 : decode cX1_fail 21 = .ok (.getfield 31, 3) := by decide +kernel
theorem dX1_fail_24 : decode cX1_fail 24 = .ok (.iconst 2, 1) := by decide +kernel
theorem dX1_fail_25 : decode cX1_fail 25 = .ok (.aload_n 0, 1) := by decide +kernel
theorem dX1_fail_26 : decode cX1_fail 26 = .ok (.getfield 35, 3) := by decide +kernel
theorem dX1_fail_29 : decode cX1_fail 29 = .ok (.aload_n 0, 1) := by decide +kernel
theorem dX1_fail_30 : decode cX1_fail 30 = .ok (.getfield 101, 3) := by decide +kernel
theorem dX1_fail_33 : decode cX1_fail 33 = .ok (.invokevirtual 158, 3) := by decide +kernel
theorem dX1_fail_36 : decode cX1_fail 36 = .ok (.iastore, 1) := by decide +kernel
theorem dX1_fail_37 : decode cX1_fail 37 = .ok (.aload_n 0, 1) := by decide +kernel
theorem dX1_fail_38 : decode cX1_fail 38 = .ok (.getfield 31, 3) := by decide +kernel
theorem dX1_fail_41 : decode cX1_fail 41 = .ok (.iconst 3, 1) := by decide +kernel
theorem dX1_fail_42 : decode cX1_fail 42 = .ok (.aload_n 0, 1) := by decide +kernel
theorem dX1_fail_43 : decode cX1_fail 43 = .ok (.getfield 85, 3) := by decide +kernel
theorem dX1_fail_46 : decode cX1_fail 46 = .ok (.iastore, 1) := by decide +kernel
theorem dX1_fail_47 : decode cX1_fail 47 = .ok (.aload_n 0, 1) := by decide +kernel
theorem dX1_fail_48 : decode cX1_fail 48 = .ok (.iconst 0, 1) := by decide +kernel
theorem dX1_fail_49 : decode cX1_fail 49 = .ok (.putfield 88, 3) := by decide +kernel
theorem dX1_fail_52 : decode cX1_fail 52 = .ok (.return_, 1) := by decide +kernel
theorem dX1_push_0 : decode cX1_push 0 = .ok (.aload_n 0, 1) := by decide +kernel
theorem dX1_push_1 : decode cX1_push 1 = .ok (.getfield 14, 3) := by decide +kernel
theorem dX1_push_4 : decode cX1_push 4 = .ok (.aload_n 0, 1) := by decide +kernel
theorem dX1_push_5 : decode cX1_push 5 = .ok (.getfield 56, 3) := by decide +kernel
theorem dX1_push_8 : decode cX1_push 8 = .ok (.iload_n 1, 1) := by decide +kernel
theorem dX1_push_9 : decode cX1_push 9 = .ok (.lload_n 2, 1) := by decide +kernel
theorem dX1_push_10 : decode cX1_push 10 = .ok (.invokevirtual 161, 3) := by decide +kernel
theorem dX1_push_13 : decode cX1_push 13 = .ok (.aload_n 0, 1) := by decide +kernel
theorem dX1_push_14 : decode cX1_push 14 = .ok (.dup, 1) := by decide +kernel
theorem dX1_push_15 : decode cX1_push 15 = .ok (.getfield 56, 3) := by decide +kernel
theorem dX1_push_18 : decode cX1_push 18 = .ok (.iconst 1, 1) := by decide +kernel
theorem dX1_push_19 : decode cX1_push 19 = .ok (.iadd, 1) := by decide +kernel
theorem dX1_push_20 : decode cX1_push 20 = .ok (.putfield 56, 3) := by decide +kernel
theorem dX1_push_23 : decode cX1_push 23 = .ok (.return_, 1) := by decide +kernel
theorem dX1_pushFrom_0 : decode cX1_pushFrom 0 = .ok (.aload_n 0, 1) := by decide +kernel
theorem dX1_pushFrom_1 : decode cX1_pushFrom 1 = .ok (.aload_n 1, 1) := by decide +kernel
theorem dX1_pushFrom_2 : decode cX1_pushFrom 2 = .ok (.iload_n 2, 1) := by decide +kernel
theorem dX1_pushFrom_3 : decode cX1_pushFrom 3 = .ok (.invokevirtual 59, 3) := by decide +kernel
theorem dX1_pushFrom_6 : decode cX1_pushFrom 6 = .ok (.aload_n 1, 1) := by decide +kernel
theorem dX1_pushFrom_7 : decode cX1_pushFrom 7 = .ok (.iload_n 2, 1) := by decide +kernel
theorem dX1_pushFrom_8 : decode cX1_pushFrom 8 = .ok (.invokevirtual 63, 3) := by decide +kernel
theorem dX1_pushFrom_11 : decode cX1_pushFrom 11 = .ok (.invokevirtual 112, 3) := by decide +kernel
theorem dX1_pushFrom_14 : decode cX1_pushFrom 14 = .ok (.return_, 1) := by decide +kernel
theorem dX1_pushResult_0 : decode cX1_pushResult 0 = .ok (.aload_n 0, 1) := by decide +kernel
theorem dX1_pushResult_1 : decode cX1_pushResult 1 = .ok (.getfield 39, 3) := by decide +kernel
theorem dX1_pushResult_4 : decode cX1_pushResult 4 = .ok (.iload_n 1, 1) := by decide +kernel
theorem dX1_pushResult_5 : decode cX1_pushResult 5 = .ok (.i2l, 1) := by decide +kernel
theorem dX1_pushResult_6 : decode cX1_pushResult 6 = .ok (.invokevirtual 165, 3) := by decide +kernel
theorem dX1_pushResult_9 : decode cX1_pushResult 9 = .ok (.ifCond .eq 18, 3) := by decide +kernel
theorem dX1_pushResult_12 : decode cX1_pushResult 12 = .ok (.aload_n 0, 1) := by decide +kernel
theorem dX1_pushResult_13 : decode cX1_pushResult 13 = .ok (.aload_n 0, 1) := by decide +kernel
theorem dX1_pushResult_14 : decode cX1_pushResult 14 = .ok (.getfield 39, 3) := by decide +kernel
theorem dX1_pushResult_17 : decode cX1_pushResult 17 = .ok (.getfield 169, 3) := by decide +kernel
theorem dX1_pushResult_20 : decode cX1_pushResult 20 = .ok (.iload_n 1, 1) := by decide +kernel
theorem dX1_pushResult_21 : decode cX1_pushResult 21 = .ok (.invokevirtual 122, 3) := by decide +kernel
theorem dX1_pushResult_24 : decode cX1_pushResult 24 = .ok (.goto 8, 3) := by decide +kernel
theorem dX1_pushResult_27 : decode cX1_pushResult 27 = .ok (.aload_n 0, 1) := by decide +kernel
theorem dX1_pushResult_28 : decode cX1_pushResult 28 = .ok (.iconst 1, 1) := by decide +kernel
theorem dX1_pushResult_29 : decode cX1_pushResult 29 = .ok (.invokevirtual 152, 3) := by decide +kernel
theorem dX1_pushResult_32 : decode cX1_pushResult 32 = .ok (.return_, 1) := by decide +kernel
theorem dX1_pushVariable_0 : decode cX1_pushVariable 0 = .ok (.aload_n 0, 1) := by decide +kernel
theorem dX1_pushVariable_1 : decode cX1_pushVariable 1 = .ok (.getfield 39, 3) := by decide +kernel
theorem dX1_pushVariable_4 : decode cX1_pushVariable 4 = .ok (.getfield 172, 3) := by decide +kernel
theorem dX1_pushVariable_7 : decode cX1_pushVariable 7 = .ok (.iload_n 1, 1) := by decide +kernel
theorem dX1_pushVariable_8 : decode cX1_pushVariable 8 = .ok (.invokevirtual 176, 3) := by decide +kernel
theorem dX1_pushVariable_11 : decode cX1_pushVariable 11 = .ok (.iconst 1, 1) := by decide +kernel
theorem dX1_pushVariable_12 : decode cX1_pushVariable 12 = .ok (.if_icmp .ne 18, 3) := by decide +kernel
theorem dX1_pushVariable_15 : decode cX1_pushVariable 15 = .ok (.aload_n 0, 1) := by decide +kernel
theorem dX1_pushVariable_16 : decode cX1_pushVariable 16 = .ok (.aload_n 0, 1) := by decide +kernel
theorem dX1_pushVariable_17 : decode cX1_pushVariable 17 = .ok (.getfield 39, 3) := by decide +kernel
theorem dX1_pushVariable_20 : decode cX1_pushVariable 20 = .ok (.getfield 183, 3) := by decide +kernel
theorem dX1_pushVariable_23 : decode cX1_pushVariable 23 = .ok (.iload_n 1, 1) := by decide +kernel
theorem dX1_pushVariable_24 : decode cX1_pushVariable 24 = .ok (.invokevirtual 122, 3) := by decide +kernel
theorem dX1_pushVariable_27 : decode cX1_pushVariable 27 = .ok (.goto 8, 3) := by decide +kernel
theorem dX1_pushVariable_30 : decode cX1_pushVariable 30 = .ok (.aload_n 0, 1) := by decide +kernel
theorem dX1_pushVariable_31 : decode cX1_pushVariable 31 = .ok (.iconst 1, 1) := by decide +kernel
theorem dX1_pushVariable_32 : decode cX1_pushVariable 32 = .ok (.invokevirtual 152, 3) := by decide +kernel
theorem dX1_pushVariable_35 : decode cX1_pushVariable 35 = .ok (.return_, 1) := by decide +kernel
theorem dX1_openCall_0 : decode cX1_openCall 0 = .ok (.aload_n 0, 1) := by decide +kernel
theorem dX1_openCall_1 : decode cX1_openCall 1 = .ok (.getfield 39, 3) := by decide +kernel
theorem dX1_openCall_4 : decode cX1_openCall 4 = .ok (.iload_n 1, 1) := by decide +kernel
theorem dX1_openCall_5 : decode cX1_openCall 5 = .ok (.invokevirtual 186, 3) := by decide +kernel
theorem dX1_openCall_8 : decode cX1_openCall 8 = .ok (.astore_n 3, 1) := by decide +kernel
theorem dX1_openCall_9 : decode cX1_openCall 9 = .ok (.aload_n 3, 1) := by decide +kernel
theorem dX1_openCall_10 : decode cX1_openCall 10 = .ok (.ifnonnull 11, 3) := by decide +kernel
theorem dX1_openCall_13 : decode cX1_openCall 13 = .ok (.aload_n 0, 1) := by decide +kernel
theorem dX1_openCall_14 : decode cX1_openCall 14 = .ok (.iconst 1, 1) := by decide +kernel
theorem dX1_openCall_15 : decode cX1_openCall 15 = .ok (.invokevirtual 152, 3) := by decide +kernel
theorem dX1_openCall_18 : decode cX1_openCall 18 = .ok (.goto 42, 3) := by decide +kernel
theorem dX1_openCall_21 : decode cX1_openCall 21 = .ok (.aload_n 3, 1) := by decide +kernel
theorem dX1_openCall_22 : decode cX1_openCall 22 = .ok (.invokevirtual 190, 3) := by decide +kernel
theorem dX1_openCall_25 : decode cX1_openCall 25 = .ok (.iload_n 2, 1) := by decide +kernel
theorem dX1_openCall_26 : decode cX1_openCall 26 = .ok (.if_icmp .eq 11, 3) := by decide +kernel
theorem dX1_openCall_29 : decode cX1_openCall 29 = .ok (.aload_n 0, 1) := by decide +kernel
theorem dX1_openCall_30 : decode cX1_openCall 30 = .ok (.iconst 5, 1) := by decide +kernel
theorem dX1_openCall_31 : decode cX1_openCall 31 = .ok (.invokevirtual 152, 3) := by decide +kernel
theorem dX1_openCall_34 : decode cX1_openCall 34 = .ok (.goto 26, 3) := by decide +kernel
theorem dX1_openCall_37 : decode cX1_openCall 37 = .ok (.aload_n 3, 1) := by decide +kernel
theorem dX1_openCall_38 : decode cX1_openCall 38 = .ok (.invokevirtual 191, 3) := by decide +kernel
theorem dX1_openCall_41 : decode cX1_openCall 41 = .ok (.iconst 2, 1) := by decide +kernel
theorem dX1_openCall_42 : decode cX1_openCall 42 = .ok (.if_icmp .ne 18, 3) := by decide +kernel
theorem dX1_openCall_45 : decode cX1_openCall 45 = .ok (.aload_n 0, 1) := by decide +kernel
theorem dX1_openCall_46 : decode cX1_openCall 46 = .ok (.getfield 85, 3) := by decide +kernel
theorem dX1_openCall_49 : decode cX1_openCall 49 = .ok (.bipush 20, 2) := by decide +kernel
theorem dX1_openCall_51 : decode cX1_openCall 51 = .ok (.if_icmp .lt 9, 3) := by decide +kernel
theorem dX1_openCall_54 : decode cX1_openCall 54 = .ok (.aload_n 0, 1) := by decide +kernel
theorem dX1_openCall_55 : decode cX1_openCall 55 = .ok (.bipush 9, 2) := by decide +kernel
theorem dX1_openCall_57 : decode cX1_openCall 57 = .ok (.invokevirtual 152, 3) := by decide +kernel
theorem dX1_openCall_60 : decode cX1_openCall 60 = .ok (.return_, 1) := by decide +kernel
theorem dX1_call_0 : decode cX1_call 0 = .ok (.aload_n 0, 1) := by decide +kernel
theorem dX1_call_1 : decode cX1_call 1 = .ok (.getfield 39, 3) := by decide +kernel
theorem dX1_call_4 : decode cX1_call 4 = .ok (.iload_n 1, 1) := by decide +kernel
theorem dX1_call_5 : decode cX1_call 5 = .ok (.invokevirtual 186, 3) := by decide +kernel
theorem dX1_call_8 : decode cX1_call 8 = .ok (.astore_n 3, 1) := by decide +kernel
theorem dX1_call_9 : decode cX1_call 9 = .ok (.aload_n 0, 1) := by decide +kernel
theorem dX1_call_10 : decode cX1_call 10 = .ok (.getfield 56, 3) := by decide +kernel
theorem dX1_call_13 : decode cX1_call 13 = .ok (.iload_n 2, 1) := by decide +kernel
theorem dX1_call_14 : decode cX1_call 14 = .ok (.isub, 1) := by decide +kernel
theorem dX1_call_15 : decode cX1_call 15 = .ok (.istore 4, 2) := by decide +kernel
theorem dX1_call_17 : decode cX1_call 17 = .ok (.aload_n 3, 1) := by decide +kernel
theorem dX1_call_18 : decode cX1_call 18 = .ok (.ifnonnull 11, 3) := by decide +kernel
theorem dX1_call_29 : decode cX1_call 29 = .ok (.aload_n 3, 1) := by decide +kernel
theorem dX1_call_30 : decode cX1_call 30 = .ok (.invokevirtual 191, 3) := by decide +kernel
theorem dX1_call_33 : decode cX1_call 33 = .ok (.iconst 3, 1) := by decide +kernel
theorem dX1_call_34 : decode cX1_call 34 = .ok (.if_icmp .ne 51, 3) := by decide +kernel
theorem dX1_call_37 : decode cX1_call 37 = .ok (.aload_n 0, 1) := by decide +kernel
theorem dX1_call_38 : decode cX1_call 38 = .ok (.getfield 39, 3) := by decide +kernel
theorem dX1_call_41 : decode cX1_call 41 = .ok (.getfield 67, 3) := by decide +kernel
theorem dX1_call_44 : decode cX1_call 44 = .ok (.iload_n 1, 1) := by decide +kernel
theorem dX1_call_45 : decode cX1_call 45 = .ok (.aload_n 0, 1) := by decide +kernel
theorem dX1_call_46 : decode cX1_call 46 = .ok (.getfield 39, 3) := by decide +kernel
theorem dX1_call_49 : decode cX1_call 49 = .ok (.getfield 172, 3) := by decide +kernel
theorem dX1_call_52 : decode cX1_call 52 = .ok (.iload_n 1, 1) := by decide +kernel
theorem dX1_call_53 : decode cX1_call 53 = .ok (.invokevirtual 194, 3) := by decide +kernel
theorem dX1_call_56 : decode cX1_call 56 = .ok (.aload_n 0, 1) := by decide +kernel
theorem dX1_call_57 : decode cX1_call 57 = .ok (.getfield 14, 3) := by decide +kernel
theorem dX1_call_60 : decode cX1_call 60 = .ok (.iload 4, 2) := by decide +kernel
theorem dX1_call_62 : decode cX1_call 62 = .ok (.iload_n 2, 1) := by decide +kernel
theorem dX1_call_63 : decode cX1_call 63 = .ok (.invokevirtual 197, 3) := by decide +kernel
theorem dX1_call_66 : decode cX1_call 66 = .ok (.istore 5, 2) := by decide +kernel
theorem dX1_call_68 : decode cX1_call 68 = .ok (.aload_n 0, 1) := by decide +kernel
theorem dX1_call_69 : decode cX1_call 69 = .ok (.iload 4, 2) := by decide +kernel
theorem dX1_call_71 : decode cX1_call 71 = .ok (.putfield 56, 3) := by decide +kernel
theorem dX1_call_74 : decode cX1_call 74 = .ok (.aload_n 0, 1) := by decide +kernel
theorem dX1_call_75 : decode cX1_call 75 = .ok (.iconst 2, 1) := by decide +kernel
theorem dX1_call_76 : decode cX1_call 76 = .ok (.iload 5, 2) := by decide +kernel
theorem dX1_call_78 : decode cX1_call 78 = .ok (.i2l, 1) := by decide +kernel
theorem dX1_call_79 : decode cX1_call 79 = .ok (.invokevirtual 112, 3) := by decide +kernel
theorem dX1_call_82 : decode cX1_call 82 = .ok (.goto 13, 3) := by decide +kernel
theorem dX1_call_85 : decode cX1_call 85 = .ok (.aload_n 0, 1) := by decide +kernel
theorem dX1_call_86 : decode cX1_call 86 = .ok (.aload_n 3, 1) := by decide +kernel
theorem dX1_call_87 : decode cX1_call 87 = .ok (.invokevirtual 201, 3) := by decide +kernel
theorem dX1_call_90 : decode cX1_call 90 = .ok (.iload 4, 2) := by decide +kernel
theorem dX1_call_92 : decode cX1_call 92 = .ok (.invokevirtual 204, 3) := by decide +kernel
theorem dX1_call_95 : decode cX1_call 95 = .ok (.return_, 1) := by decide +kernel
theorem dX1_enterMember_0 : decode cX1_enterMember 0 = .ok (.aload_n 0, 1) := by decide +kernel
theorem dX1_enterMember_1 : decode cX1_enterMember 1 = .ok (.getfield 85, 3) := by decide +kernel
theorem dX1_enterMember_4 : decode cX1_enterMember 4 = .ok (.bipush 20, 2) := by decide +kernel
theorem dX1_enterMember_6 : decode cX1_enterMember 6 = .ok (.if_icmp .lt 10, 3) := by decide +kernel
theorem dX1_enterMember_16 : decode cX1_enterMember 16 = .ok (.aload_n 0, 1) := by decide +kernel
theorem dX1_enterMember_17 : decode cX1_enterMember 17 = .ok (.getfield 20, 3) := by decide +kernel
theorem dX1_enterMember_20 : decode cX1_enterMember 20 = .ok (.aload_n 0, 1) := by decide +kernel
theorem dX1_enterMember_21 : decode cX1_enterMember 21 = .ok (.getfield 85, 3) := by decide +kernel
theorem dX1_enterMember_24 : decode cX1_enterMember 24 = .ok (.aload_n 0, 1) := by decide +kernel
theorem dX1_enterMember_25 : decode cX1_enterMember 25 = .ok (.getfield 35, 3) := by decide +kernel
theorem dX1_enterMember_28 : decode cX1_enterMember 28 = .ok (.aastore, 1) := by decide +kernel
theorem dX1_enterMember_29 : decode cX1_enterMember 29 = .ok (.aload_n 0, 1) := by decide +kernel
theorem dX1_enterMember_30 : decode cX1_enterMember 30 = .ok (.getfield 24, 3) := by decide +kernel
theorem dX1_enterMember_33 : decode cX1_enterMember 33 = .ok (.aload_n 0, 1) := by decide +kernel
theorem dX1_enterMember_34 : decode cX1_enterMember 34 = .ok (.getfield 85, 3) := by decide +kernel
theorem dX1_enterMember_37 : decode cX1_enterMember 37 = .ok (.aload_n 0, 1) := by decide +kernel
theorem dX1_enterMember_38 : decode cX1_enterMember 38 = .ok (.getfield 79, 3) := by decide +kernel
theorem dX1_enterMember_41 : decode cX1_enterMember 41 = .ok (.iastore, 1) := by decide +kernel
theorem dX1_enterMember_42 : decode cX1_enterMember 42 = .ok (.aload_n 0, 1) := by decide +kernel
theorem dX1_enterMember_43 : decode cX1_enterMember 43 = .ok (.getfield 28, 3) := by decide +kernel
theorem dX1_enterMember_46 : decode cX1_enterMember 46 = .ok (.aload_n 0, 1) := by decide +kernel
theorem dX1_enterMember_47 : decode cX1_enterMember 47 = .ok (.getfield 85, 3) := by decide +kernel
theorem dX1_enterMember_50 : decode cX1_enterMember 50 = .ok (.aload_n 0, 1) := by decide +kernel
theorem dX1_enterMember_51 : decode cX1_enterMember 51 = .ok (.getfield 82, 3) := by decide +kernel
theorem dX1_enterMember_54 : decode cX1_enterMember 54 = .ok (.iastore, 1) := by decide +kernel
theorem dX1_enterMember_55 : decode cX1_enterMember 55 = .ok (.aload_n 0, 1) := by decide +kernel
theorem dX1_enterMember_56 : decode cX1_enterMember 56 = .ok (.dup, 1) := by decide +kernel
theorem dX1_enterMember_57 : decode cX1_enterMember 57 = .ok (.getfield 85, 3) := by decide +kernel
theorem dX1_enterMember_60 : decode cX1_enterMember 60 = .ok (.iconst 1, 1) := by decide +kernel
theorem dX1_enterMember_61 : decode cX1_enterMember 61 = .ok (.iadd, 1) := by decide +kernel
theorem dX1_enterMember_62 : decode cX1_enterMember 62 = .ok (.putfield 85, 3) := by decide +kernel
theorem dX1_enterMember_65 : decode cX1_enterMember 65 = .ok (.aload_n 0, 1) := by decide +kernel
theorem dX1_enterMember_66 : decode cX1_enterMember 66 = .ok (.aload_n 1, 1) := by decide +kernel
theorem dX1_enterMember_67 : decode cX1_enterMember 67 = .ok (.putfield 35, 3) := by decide +kernel
theorem dX1_enterMember_70 : decode cX1_enterMember 70 = .ok (.aload_n 0, 1) := by decide +kernel
theorem dX1_enterMember_71 : decode cX1_enterMember 71 = .ok (.iconst 0, 1) := by decide +kernel
theorem dX1_enterMember_72 : decode cX1_enterMember 72 = .ok (.putfield 79, 3) := by decide +kernel
theorem dX1_enterMember_75 : decode cX1_enterMember 75 = .ok (.aload_n 0, 1) := by decide +kernel
theorem dX1_enterMember_76 : decode cX1_enterMember 76 = .ok (.iload_n 2, 1) := by decide +kernel
theorem dX1_enterMember_77 : decode cX1_enterMember 77 = .ok (.putfield 82, 3) := by decide +kernel
theorem dX1_enterMember_80 : decode cX1_enterMember 80 = .ok (.return_, 1) := by decide +kernel
theorem dX1_leaveMember_0 : decode cX1_leaveMember 0 = .ok (.aload_n 0, 1) := by decide +kernel
theorem dX1_leaveMember_1 : decode cX1_leaveMember 1 = .ok (.getfield 85, 3) := by decide +kernel
theorem dX1_leaveMember_4 : decode cX1_leaveMember 4 = .ok (.ifCond .le 26, 3) := by decide +kernel
theorem dX1_leaveMember_7 : decode cX1_leaveMember 7 = .ok (.aload_n 0, 1) := by decide +kernel
theorem dX1_leaveMember_8 : decode cX1_leaveMember 8 = .ok (.getfield 85, 3) := by decide +kernel
theorem dX1_leaveMember_11 : decode cX1_leaveMember 11 = .ok (.bipush 20, 2) := by decide +kernel
theorem dX1_leaveMember_13 : decode cX1_leaveMember 13 = .ok (.if_icmp .gt 17, 3) := by decide +kernel
theorem dX1_leaveMember_16 : decode cX1_leaveMember 16 = .ok (.aload_n 0, 1) := by decide +kernel
theorem dX1_leaveMember_17 : decode cX1_leaveMember 17 = .ok (.getfield 20, 3) := by decide +kernel
theorem dX1_leaveMember_20 : decode cX1_leaveMember 20 = .ok (.aload_n 0, 1) := by decide +kernel
theorem dX1_leaveMember_21 : decode cX1_leaveMember 21 = .ok (.getfield 85, 3) := by decide +kernel
theorem dX1_leaveMember_24 : decode cX1_leaveMember 24 = .ok (.iconst 1, 1) := by decide +kernel
theorem dX1_leaveMember_25 : decode cX1_leaveMember 25 = .ok (.isub, 1) := by decide +kernel
theorem dX1_leaveMember_26 : decode cX1_leaveMember 26 = .ok (.aaload, 1) := by decide +kernel
theorem dX1_leaveMember_27 : decode cX1_leaveMember 27 = .ok (.ifnonnull 9, 3) := by decide +kernel
theorem dX1_leaveMember_30 : decode cX1_leaveMember 30 = .ok (.aload_n 0, 1) := by decide +kernel
theorem dX1_leaveMember_31 : decode cX1_leaveMember 31 = .ok (.iconst 0, 1) := by decide +kernel
theorem dX1_leaveMember_32 : decode cX1_leaveMember 32 = .ok (.putfield 88, 3) := by decide +kernel
theorem dX1_leaveMember_35 : decode cX1_leaveMember 35 = .ok (.return_, 1) := by decide +kernel
theorem dX1_leaveMember_36 : decode cX1_leaveMember 36 = .ok (.aload_n 0, 1) := by decide +kernel
theorem dX1_leaveMember_37 : decode cX1_leaveMember 37 = .ok (.invokevirtual 208, 3) := by decide +kernel
theorem dX1_leaveMember_40 : decode cX1_leaveMember 40 = .ok (.istore_n 1, 1) := by decide +kernel
theorem dX1_leaveMember_41 : decode cX1_leaveMember 41 = .ok (.aload_n 0, 1) := by decide +kernel
theorem dX1_leaveMember_42 : decode cX1_leaveMember 42 = .ok (.invokevirtual 211, 3) := by decide +kernel
theorem dX1_leaveMember_45 : decode cX1_leaveMember 45 = .ok (.lstore_n 2, 1) := by decide +kernel
theorem dX1_leaveMember_46 : decode cX1_leaveMember 46 = .ok (.aload_n 0, 1) := by decide +kernel
theorem dX1_leaveMember_47 : decode cX1_leaveMember 47 = .ok (.aload_n 0, 1) := by decide +kernel
theorem dX1_leaveMember_48 : decode cX1_leaveMember 48 = .ok (.getfield 82, 3) := by decide +kernel
theorem dX1_leaveMember_51 : decode cX1_leaveMember 51 = .ok (.putfield 56, 3) := by decide +kernel
theorem dX1_leaveMember_54 : decode cX1_leaveMember 54 = .ok (.aload_n 0, 1) := by decide +kernel
theorem dX1_leaveMember_55 : decode cX1_leaveMember 55 = .ok (.iload_n 1, 1) := by decide +kernel
theorem dX1_leaveMember_56 : decode cX1_leaveMember 56 = .ok (.lload_n 2, 1) := by decide +kernel
theorem dX1_leaveMember_57 : decode cX1_leaveMember 57 = .ok (.invokevirtual 112, 3) := by decide +kernel
theorem dX1_leaveMember_60 : decode cX1_leaveMember 60 = .ok (.aload_n 0, 1) := by decide +kernel
theorem dX1_leaveMember_61 : decode cX1_leaveMember 61 = .ok (.dup, 1) := by decide +kernel
theorem dX1_leaveMember_62 : decode cX1_leaveMember 62 = .ok (.getfield 85, 3) := by decide +kernel
theorem dX1_leaveMember_65 : decode cX1_leaveMember 65 = .ok (.iconst 1, 1) := by decide +kernel
theorem dX1_leaveMember_66 : decode cX1_leaveMember 66 = .ok (.isub, 1) := by decide +kernel
theorem dX1_leaveMember_67 : decode cX1_leaveMember 67 = .ok (.putfield 85, 3) := by decide +kernel
theorem dX1_leaveMember_70 : decode cX1_leaveMember 70 = .ok (.aload_n 0, 1) := by decide +kernel
theorem dX1_leaveMember_71 : decode cX1_leaveMember 71 = .ok (.aload_n 0, 1) := by decide +kernel
theorem dX1_leaveMember_72 : decode cX1_leaveMember 72 = .ok (.getfield 20, 3) := by decide +kernel
theorem dX1_leaveMember_75 : decode cX1_leaveMember 75 = .ok (.aload_n 0, 1) := by decide +kernel
theorem dX1_leaveMember_76 : decode cX1_leaveMember 76 = .ok (.getfield 85, 3) := by decide +kernel
theorem dX1_leaveMember_79 : decode cX1_leaveMember 79 = .ok (.aaload, 1) := by decide +kernel
theorem dX1_leaveMember_80 : decode cX1_leaveMember 80 = .ok (.putfield 35, 3) := by decide +kernel
theorem dX1_leaveMember_83 : decode cX1_leaveMember 83 = .ok (.aload_n 0, 1) := by decide +kernel
theorem dX1_leaveMember_84 : decode cX1_leaveMember 84 = .ok (.aload_n 0, 1) := by decide +kernel
theorem dX1_leaveMember_85 : decode cX1_leaveMember 85 = .ok (.getfield 24, 3) := by decide +kernel
theorem dX1_leaveMember_88 : decode cX1_leaveMember 88 = .ok (.aload_n 0, 1) := by decide +kernel
theorem dX1_leaveMember_89 : decode cX1_leaveMember 89 = .ok (.getfield 85, 3) := by decide +kernel
theorem dX1_leaveMember_92 : decode cX1_leaveMember 92 = .ok (.iaload, 1) := by decide +kernel
theorem dX1_leaveMember_93 : decode cX1_leaveMember 93 = .ok (.putfield 79, 3) := by decide +kernel
theorem dX1_leaveMember_96 : decode cX1_leaveMember 96 = .ok (.aload_n 0, 1) := by decide +kernel
theorem dX1_leaveMember_97 : decode cX1_leaveMember 97 = .ok (.aload_n 0, 1) := by decide +kernel
theorem dX1_leaveMember_98 : decode cX1_leaveMember 98 = .ok (.getfield 28, 3) := by decide +kernel
theorem dX1_leaveMember_101 : decode cX1_leaveMember 101 = .ok (.aload_n 0, 1) := by decide +kernel
theorem dX1_leaveMember_102 : decode cX1_leaveMember 102 = .ok (.getfield 85, 3) := by decide +kernel
theorem dX1_leaveMember_105 : decode cX1_leaveMember 105 = .ok (.iaload, 1) := by decide +kernel
theorem dX1_leaveMember_106 : decode cX1_leaveMember 106 = .ok (.putfield 82, 3) := by decide +kernel
theorem dX1_leaveMember_109 : decode cX1_leaveMember 109 = .ok (.return_, 1) := by decide +kernel
theorem dX1_takeField_0 : decode cX1_takeField 0 = .ok (.aload_n 0, 1) := by decide +kernel
theorem dX1_takeField_1 : decode cX1_takeField 1 = .ok (.invokevirtual 208, 3) := by decide +kernel
theorem dX1_takeField_4 : decode cX1_takeField 4 = .ok (.istore_n 3, 1) := by decide +kernel
theorem dX1_takeField_5 : decode cX1_takeField 5 = .ok (.iload_n 3, 1) := by decide +kernel
theorem dX1_takeField_6 : decode cX1_takeField 6 = .ok (.iconst 2, 1) := by decide +kernel
theorem dX1_takeField_7 : decode cX1_takeField 7 = .ok (.if_icmp .eq 17, 3) := by decide +kernel
theorem dX1_takeField_10 : decode cX1_takeField 10 = .ok (.aload_n 0, 1) := by decide +kernel
theorem dX1_takeField_11 : decode cX1_takeField 11 = .ok (.iload_n 3, 1) := by decide +kernel
theorem dX1_takeField_12 : decode cX1_takeField 12 = .ok (.ifCond .ne 7, 3) := by decide +kernel
theorem dX1_takeField_15 : decode cX1_takeField 15 = .ok (.iconst 2, 1) := by decide +kernel
theorem dX1_takeField_16 : decode cX1_takeField 16 = .ok (.goto 4, 3) := by decide +kernel
theorem dX1_takeField_19 : decode cX1_takeField 19 = .ok (.iconst 3, 1) := by decide +kernel
theorem dX1_takeField_20 : decode cX1_takeField 20 = .ok (.invokevirtual 152, 3) := by decide +kernel
theorem dX1_takeField_23 : decode cX1_takeField 23 = .ok (.return_, 1) := by decide +kernel
theorem dX1_takeField_24 : decode cX1_takeField 24 = .ok (.aload_n 0, 1) := by decide +kernel
theorem dX1_takeField_25 : decode cX1_takeField 25 = .ok (.invokevirtual 211, 3) := by decide +kernel
theorem dX1_takeField_28 : decode cX1_takeField 28 = .ok (.l2i, 1) := by decide +kernel
theorem dX1_takeField_29 : decode cX1_takeField 29 = .ok (.istore 4, 2) := by decide +kernel
theorem dX1_takeField_31 : decode cX1_takeField 31 = .ok (.aload_n 0, 1) := by decide +kernel
theorem dX1_takeField_32 : decode cX1_takeField 32 = .ok (.getfield 39, 3) := by decide +kernel
theorem dX1_takeField_35 : decode cX1_takeField 35 = .ok (.aload_n 0, 1) := by decide +kernel
theorem dX1_takeField_36 : decode cX1_takeField 36 = .ok (.getfield 39, 3) := by decide +kernel
theorem dX1_takeField_39 : decode cX1_takeField 39 = .ok (.getfield 67, 3) := by decide +kernel
theorem dX1_takeField_42 : decode cX1_takeField 42 = .ok (.iload 4, 2) := by decide +kernel
theorem dX1_takeField_44 : decode cX1_takeField 44 = .ok (.invokevirtual 215, 3) := by decide +kernel
theorem dX1_takeField_47 : decode cX1_takeField 47 = .ok (.invokevirtual 186, 3) := by decide +kernel
theorem dX1_takeField_50 : decode cX1_takeField 50 = .ok (.astore 5, 2) := by decide +kernel
theorem dX1_takeField_52 : decode cX1_takeField 52 = .ok (.aload 5, 2) := by decide +kernel
theorem dX1_takeField_54 : decode cX1_takeField 54 = .ok (.ifnull 15, 3) := by decide +kernel
theorem dX1_takeField_57 : decode cX1_takeField 57 = .ok (.aload_n 0, 1) := by decide +kernel
theorem dX1_takeField_58 : decode cX1_takeField 58 = .ok (.getfield 39, 3) := by decide +kernel
theorem dX1_takeField_61 : decode cX1_takeField 61 = .ok (.iload 4, 2) := by decide +kernel
theorem dX1_takeField_63 : decode cX1_takeField 63 = .ok (.invokevirtual 218, 3) := by decide +kernel
theorem dX1_takeField_66 : decode cX1_takeField 66 = .ok (.ifCond .eq 10, 3) := by decide +kernel
theorem dX1_takeField_69 : decode cX1_takeField 69 = .ok (.aload_n 0, 1) := by decide +kernel
theorem dX1_takeField_70 : decode cX1_takeField 70 = .ok (.bipush 7, 2) := by decide +kernel
theorem dX1_takeField_72 : decode cX1_takeField 72 = .ok (.invokevirtual 152, 3) := by decide +kernel
theorem dX1_takeField_75 : decode cX1_takeField 75 = .ok (.return_, 1) := by decide +kernel
theorem dX1_takeField_76 : decode cX1_takeField 76 = .ok (.aload 5, 2) := by decide +kernel
theorem dX1_takeField_78 : decode cX1_takeField 78 = .ok (.lload_n 1, 1) := by decide +kernel
theorem dX1_takeField_79 : decode cX1_takeField 79 = .ok (.invokevirtual 222, 3) := by decide +kernel
theorem dX1_takeField_82 : decode cX1_takeField 82 = .ok (.istore 6, 2) := by decide +kernel
theorem dX1_takeField_84 : decode cX1_takeField 84 = .ok (.iload 6, 2) := by decide +kernel
theorem dX1_takeField_86 : decode cX1_takeField 86 = .ok (.ifCond .ge 10, 3) := by decide +kernel
theorem dX1_takeField_89 : decode cX1_takeField 89 = .ok (.aload_n 0, 1) := by decide +kernel
theorem dX1_takeField_90 : decode cX1_takeField 90 = .ok (.bipush 6, 2) := by decide +kernel
theorem dX1_takeField_92 : decode cX1_takeField 92 = .ok (.invokevirtual 152, 3) := by decide +kernel
theorem dX1_takeField_95 : decode cX1_takeField 95 = .ok (.return_, 1) := by decide +kernel
theorem dX1_takeField_96 : decode cX1_takeField 96 = .ok (.aload_n 0, 1) := by decide +kernel
theorem dX1_takeField_97 : decode cX1_takeField 97 = .ok (.dup, 1) := by decide +kernel
theorem dX1_takeField_98 : decode cX1_takeField 98 = .ok (.getfield 56, 3) := by decide +kernel
theorem dX1_takeField_101 : decode cX1_takeField 101 = .ok (.iconst 1, 1) := by decide +kernel
theorem dX1_takeField_102 : decode cX1_takeField 102 = .ok (.isub, 1) := by decide +kernel
theorem dX1_takeField_103 : decode cX1_takeField 103 = .ok (.putfield 56, 3) := by decide +kernel
theorem dX1_takeField_106 : decode cX1_takeField 106 = .ok (.aload_n 0, 1) := by decide +kernel
theorem dX1_takeField_107 : decode cX1_takeField 107 = .ok (.aload_n 0, 1) := by decide +kernel
theorem dX1_takeField_108 : decode cX1_takeField 108 = .ok (.getfield 39, 3) := by decide +kernel
theorem dX1_takeField_111 : decode cX1_takeField 111 = .ok (.getfield 67, 3) := by decide +kernel
theorem dX1_takeField_114 : decode cX1_takeField 114 = .ok (.iload 4, 2) := by decide +kernel
theorem dX1_takeField_116 : decode cX1_takeField 116 = .ok (.iload 6, 2) := by decide +kernel
theorem dX1_takeField_118 : decode cX1_takeField 118 = .ok (.invokevirtual 226, 3) := by decide +kernel
theorem dX1_takeField_121 : decode cX1_takeField 121 = .ok (.aload_n 0, 1) := by decide +kernel
theorem dX1_takeField_122 : decode cX1_takeField 122 = .ok (.getfield 39, 3) := by decide +kernel
theorem dX1_takeField_125 : decode cX1_takeField 125 = .ok (.getfield 67, 3) := by decide +kernel
theorem dX1_takeField_128 : decode cX1_takeField 128 = .ok (.iload 4, 2) := by decide +kernel
theorem dX1_takeField_130 : decode cX1_takeField 130 = .ok (.iload 6, 2) := by decide +kernel
theorem dX1_takeField_132 : decode cX1_takeField 132 = .ok (.invokevirtual 230, 3) := by decide +kernel
theorem dX1_takeField_135 : decode cX1_takeField 135 = .ok (.invokevirtual 112, 3) := by decide +kernel
theorem dX1_takeField_138 : decode cX1_takeField 138 = .ok (.return_, 1) := by decide +kernel
theorem dX1_negate_0 : decode cX1_negate 0 = .ok (.aload_n 0, 1) := by decide +kernel
theorem dX1_negate_1 : decode cX1_negate 1 = .ok (.invokevirtual 234, 3) := by decide +kernel
theorem dX1_negate_4 : decode cX1_negate 4 = .ok (.ifCond .eq 25, 3) := by decide +kernel
theorem dX1_negate_7 : decode cX1_negate 7 = .ok (.aload_n 0, 1) := by decide +kernel
theorem dX1_negate_8 : decode cX1_negate 8 = .ok (.invokevirtual 211, 3) := by decide +kernel
theorem dX1_negate_11 : decode cX1_negate 11 = .ok (.lstore_n 1, 1) := by decide +kernel
theorem dX1_negate_12 : decode cX1_negate 12 = .ok (.aload_n 0, 1) := by decide +kernel
theorem dX1_negate_13 : decode cX1_negate 13 = .ok (.dup, 1) := by decide +kernel
theorem dX1_negate_14 : decode cX1_negate 14 = .ok (.getfield 56, 3) := by decide +kernel
theorem dX1_negate_17 : decode cX1_negate 17 = .ok (.iconst 1, 1) := by decide +kernel
theorem dX1_negate_18 : decode cX1_negate 18 = .ok (.isub, 1) := by decide +kernel
theorem dX1_negate_19 : decode cX1_negate 19 = .ok (.putfield 56, 3) := by decide +kernel
theorem dX1_negate_22 : decode cX1_negate 22 = .ok (.aload_n 0, 1) := by decide +kernel
theorem dX1_negate_23 : decode cX1_negate 23 = .ok (.iconst 1, 1) := by decide +kernel
theorem dX1_negate_24 : decode cX1_negate 24 = .ok (.lload_n 1, 1) := by decide +kernel
theorem dX1_negate_25 : decode cX1_negate 25 = .ok (.lneg, 1) := by decide +kernel
theorem dX1_negate_26 : decode cX1_negate 26 = .ok (.invokevirtual 112, 3) := by decide +kernel
theorem dX1_negate_29 : decode cX1_negate 29 = .ok (.return_, 1) := by decide +kernel
theorem dX1_branch_0 : decode cX1_branch 0 = .ok (.aload_n 0, 1) := by decide +kernel
theorem dX1_branch_1 : decode cX1_branch 1 = .ok (.invokevirtual 234, 3) := by decide +kernel
theorem dX1_branch_4 : decode cX1_branch 4 = .ok (.ifCond .eq 32, 3) := by decide +kernel
theorem dX1_branch_7 : decode cX1_branch 7 = .ok (.aload_n 0, 1) := by decide +kernel
theorem dX1_branch_8 : decode cX1_branch 8 = .ok (.invokevirtual 211, 3) := by decide +kernel
theorem dX1_branch_11 : decode cX1_branch 11 = .ok (.lconst 0, 1) := by decide +kernel
theorem dX1_branch_12 : decode cX1_branch 12 = .ok (.lcmp, 1) := by decide +kernel
theorem dX1_branch_13 : decode cX1_branch 13 = .ok (.ifCond .ne 13, 3) := by decide +kernel
theorem dX1_branch_16 : decode cX1_branch 16 = .ok (.aload_n 0, 1) := by decide +kernel
theorem dX1_branch_17 : decode cX1_branch 17 = .ok (.dup, 1) := by decide +kernel
theorem dX1_branch_18 : decode cX1_branch 18 = .ok (.getfield 79, 3) := by decide +kernel
theorem dX1_branch_21 : decode cX1_branch 21 = .ok (.iload_n 1, 1) := by decide +kernel
theorem dX1_branch_22 : decode cX1_branch 22 = .ok (.iadd, 1) := by decide +kernel
theorem dX1_branch_23 : decode cX1_branch 23 = .ok (.putfield 79, 3) := by decide +kernel
theorem dX1_branch_26 : decode cX1_branch 26 = .ok (.aload_n 0, 1) := by decide +kernel
theorem dX1_branch_27 : decode cX1_branch 27 = .ok (.dup, 1) := by decide +kernel
theorem dX1_branch_28 : decode cX1_branch 28 = .ok (.getfield 56, 3) := by decide +kernel
theorem dX1_branch_31 : decode cX1_branch 31 = .ok (.iconst 1, 1) := by decide +kernel
theorem dX1_branch_32 : decode cX1_branch 32 = .ok (.isub, 1) := by decide +kernel
theorem dX1_branch_33 : decode cX1_branch 33 = .ok (.putfield 56, 3) := by decide +kernel
theorem dX1_branch_36 : decode cX1_branch 36 = .ok (.return_, 1) := by decide +kernel
theorem dX1_isWholeAhead_0 : decode cX1_isWholeAhead 0 = .ok (.aload_n 0, 1) := by decide +kernel
theorem dX1_isWholeAhead_1 : decode cX1_isWholeAhead 1 = .ok (.invokevirtual 208, 3) := by decide +kernel
theorem dX1_isWholeAhead_4 : decode cX1_isWholeAhead 4 = .ok (.istore_n 1, 1) := by decide +kernel
theorem dX1_isWholeAhead_5 : decode cX1_isWholeAhead 5 = .ok (.iload_n 1, 1) := by decide +kernel
theorem dX1_isWholeAhead_6 : decode cX1_isWholeAhead 6 = .ok (.iconst 1, 1) := by decide +kernel
theorem dX1_isWholeAhead_7 : decode cX1_isWholeAhead 7 = .ok (.if_icmp .eq 16, 3) := by decide +kernel
theorem dX1_isWholeAhead_10 : decode cX1_isWholeAhead 10 = .ok (.aload_n 0, 1) := by decide +kernel
theorem dX1_isWholeAhead_11 : decode cX1_isWholeAhead 11 = .ok (.iload_n 1, 1) := by decide +kernel
theorem dX1_isWholeAhead_12 : decode cX1_isWholeAhead 12 = .ok (.ifCond .ne 7, 3) := by decide +kernel
theorem dX1_isWholeAhead_15 : decode cX1_isWholeAhead 15 = .ok (.iconst 2, 1) := by decide +kernel
theorem dX1_isWholeAhead_16 : decode cX1_isWholeAhead 16 = .ok (.goto 4, 3) := by decide +kernel
theorem dX1_isWholeAhead_19 : decode cX1_isWholeAhead 19 = .ok (.iconst 3, 1) := by decide +kernel
theorem dX1_isWholeAhead_20 : decode cX1_isWholeAhead 20 = .ok (.invokevirtual 152, 3) := by decide +kernel
theorem dX1_isWholeAhead_23 : decode cX1_isWholeAhead 23 = .ok (.iload_n 1, 1) := by decide +kernel
theorem dX1_isWholeAhead_24 : decode cX1_isWholeAhead 24 = .ok (.iconst 1, 1) := by decide +kernel
theorem dX1_isWholeAhead_25 : decode cX1_isWholeAhead 25 = .ok (.if_icmp .ne 7, 3) := by decide +kernel
theorem dX1_isWholeAhead_28 : decode cX1_isWholeAhead 28 = .ok (.iconst 1, 1) := by decide +kernel
theorem dX1_isWholeAhead_29 : decode cX1_isWholeAhead 29 = .ok (.goto 4, 3) := by decide +kernel
theorem dX1_isWholeAhead_32 : decode cX1_isWholeAhead 32 = .ok (.iconst 0, 1) := by decide +kernel
theorem dX1_isWholeAhead_33 : decode cX1_isWholeAhead 33 = .ok (.ireturn, 1) := by decide +kernel
theorem dX1_operate_0 : decode cX1_operate 0 = .ok (.aload_n 0, 1) := by decide +kernel
theorem dX1_operate_1 : decode cX1_operate 1 = .ok (.getfield 14, 3) := by decide +kernel
theorem dX1_operate_4 : decode cX1_operate 4 = .ok (.aload_n 0, 1) := by decide +kernel
theorem dX1_operate_5 : decode cX1_operate 5 = .ok (.getfield 56, 3) := by decide +kernel
theorem dX1_operate_8 : decode cX1_operate 8 = .ok (.iconst 2, 1) := by decide +kernel
theorem dX1_operate_9 : decode cX1_operate 9 = .ok (.isub, 1) := by decide +kernel
theorem dX1_operate_10 : decode cX1_operate 10 = .ok (.invokevirtual 59, 3) := by decide +kernel
theorem dX1_operate_13 : decode cX1_operate 13 = .ok (.istore_n 2, 1) := by decide +kernel
theorem dX1_operate_14 : decode cX1_operate 14 = .ok (.aload_n 0, 1) := by decide +kernel
theorem dX1_operate_15 : decode cX1_operate 15 = .ok (.invokevirtual 208, 3) := by decide +kernel
theorem dX1_operate_18 : decode cX1_operate 18 = .ok (.istore_n 3, 1) := by decide +kernel
theorem dX1_operate_19 : decode cX1_operate 19 = .ok (.aload_n 0, 1) := by decide +kernel
theorem dX1_operate_20 : decode cX1_operate 20 = .ok (.getfield 14, 3) := by decide +kernel
theorem dX1_operate_23 : decode cX1_operate 23 = .ok (.aload_n 0, 1) := by decide +kernel
theorem dX1_operate_24 : decode cX1_operate 24 = .ok (.getfield 56, 3) := by decide +kernel
theorem dX1_operate_27 : decode cX1_operate 27 = .ok (.iconst 2, 1) := by decide +kernel
theorem dX1_operate_28 : decode cX1_operate 28 = .ok (.isub, 1) := by decide +kernel
theorem dX1_operate_29 : decode cX1_operate 29 = .ok (.invokevirtual 63, 3) := by decide +kernel
theorem dX1_operate_32 : decode cX1_operate 32 = .ok (.lstore 4, 2) := by decide +kernel
theorem dX1_operate_34 : decode cX1_operate 34 = .ok (.aload_n 0, 1) := by decide +kernel
theorem dX1_operate_35 : decode cX1_operate 35 = .ok (.invokevirtual 211, 3) := by decide +kernel
theorem dX1_operate_38 : decode cX1_operate 38 = .ok (.lstore 6, 2) := by decide +kernel
theorem dX1_operate_40 : decode cX1_operate 40 = .ok (.iload_n 2, 1) := by decide +kernel
theorem dX1_operate_41 : decode cX1_operate 41 = .ok (.ifCond .eq 7, 3) := by decide +kernel
theorem dX1_operate_44 : decode cX1_operate 44 = .ok (.iload_n 3, 1) := by decide +kernel
theorem dX1_operate_45 : decode cX1_operate 45 = .ok (.ifCond .ne 11, 3) := by decide +kernel
theorem dX1_operate_48 : decode cX1_operate 48 = .ok (.aload_n 0, 1) := by decide +kernel
theorem dX1_operate_49 : decode cX1_operate 49 = .ok (.iconst 2, 1) := by decide +kernel
theorem dX1_operate_50 : decode cX1_operate 50 = .ok (.invokevirtual 152, 3) := by decide +kernel
theorem dX1_operate_53 : decode cX1_operate 53 = .ok (.goto 77, 3) := by decide +kernel
theorem dX1_operate_56 : decode cX1_operate 56 = .ok (.iload_n 2, 1) := by decide +kernel
theorem dX1_operate_57 : decode cX1_operate 57 = .ok (.iload_n 3, 1) := by decide +kernel
theorem dX1_operate_58 : decode cX1_operate 58 = .ok (.if_icmp .ne 14, 3) := by decide +kernel
theorem dX1_operate_61 : decode cX1_operate 61 = .ok (.iload_n 2, 1) := by decide +kernel
theorem dX1_operate_62 : decode cX1_operate 62 = .ok (.iconst 2, 1) := by decide +kernel
theorem dX1_operate_63 : decode cX1_operate 63 = .ok (.if_icmp .ne 17, 3) := by decide +kernel
theorem dX1_operate_66 : decode cX1_operate 66 = .ok (.iload_n 1, 1) := by decide +kernel
theorem dX1_operate_67 : decode cX1_operate 67 = .ok (.bipush 61, 2) := by decide +kernel
theorem dX1_operate_69 : decode cX1_operate 69 = .ok (.if_icmp .eq 11, 3) := by decide +kernel
theorem dX1_operate_72 : decode cX1_operate 72 = .ok (.aload_n 0, 1) := by decide +kernel
theorem dX1_operate_73 : decode cX1_operate 73 = .ok (.iconst 3, 1) := by decide +kernel
theorem dX1_operate_74 : decode cX1_operate 74 = .ok (.invokevirtual 152, 3) := by decide +kernel
theorem dX1_operate_77 : decode cX1_operate 77 = .ok (.goto 53, 3) := by decide +kernel
theorem dX1_operate_80 : decode cX1_operate 80 = .ok (.lload 6, 2) := by decide +kernel
theorem dX1_operate_82 : decode cX1_operate 82 = .ok (.lconst 0, 1) := by decide +kernel
theorem dX1_operate_83 : decode cX1_operate 83 = .ok (.lcmp, 1) := by decide +kernel
theorem dX1_operate_84 : decode cX1_operate 84 = .ok (.ifCond .ne 23, 3) := by decide +kernel
theorem dX1_operate_87 : decode cX1_operate 87 = .ok (.iload_n 1, 1) := by decide +kernel
theorem dX1_operate_88 : decode cX1_operate 88 = .ok (.bipush 47, 2) := by decide +kernel
theorem dX1_operate_90 : decode cX1_operate 90 = .ok (.if_icmp .eq 9, 3) := by decide +kernel
theorem dX1_operate_93 : decode cX1_operate 93 = .ok (.iload_n 1, 1) := by decide +kernel
theorem dX1_operate_94 : decode cX1_operate 94 = .ok (.bipush 37, 2) := by decide +kernel
theorem dX1_operate_96 : decode cX1_operate 96 = .ok (.if_icmp .ne 11, 3) := by decide +kernel
theorem dX1_operate_99 : decode cX1_operate 99 = .ok (.aload_n 0, 1) := by decide +kernel
theorem dX1_operate_100 : decode cX1_operate 100 = .ok (.iconst 4, 1) := by decide +kernel
theorem dX1_operate_101 : decode cX1_operate 101 = .ok (.invokevirtual 152, 3) := by decide +kernel
theorem dX1_operate_104 : decode cX1_operate 104 = .ok (.goto 26, 3) := by decide +kernel
theorem dX1_operate_107 : decode cX1_operate 107 = .ok (.aload_n 0, 1) := by decide +kernel
theorem dX1_operate_108 : decode cX1_operate 108 = .ok (.dup, 1) := by decide +kernel
theorem dX1_operate_109 : decode cX1_operate 109 = .ok (.getfield 56, 3) := by decide +kernel
theorem dX1_operate_112 : decode cX1_operate 112 = .ok (.iconst 2, 1) := by decide +kernel
theorem dX1_operate_113 : decode cX1_operate 113 = .ok (.isub, 1) := by decide +kernel
theorem dX1_operate_114 : decode cX1_operate 114 = .ok (.putfield 56, 3) := by decide +kernel
theorem dX1_operate_117 : decode cX1_operate 117 = .ok (.aload_n 0, 1) := by decide +kernel
theorem dX1_operate_118 : decode cX1_operate 118 = .ok (.iconst 1, 1) := by decide +kernel
theorem dX1_operate_119 : decode cX1_operate 119 = .ok (.iload_n 1, 1) := by decide +kernel
theorem dX1_operate_120 : decode cX1_operate 120 = .ok (.lload 4, 2) := by decide +kernel
theorem dX1_operate_122 : decode cX1_operate 122 = .ok (.lload 6, 2) := by decide +kernel
theorem dX1_operate_124 : decode cX1_operate 124 = .ok (.invokestatic 237, 3) := by decide +kernel
theorem dX1_operate_127 : decode cX1_operate 127 = .ok (.invokevirtual 112, 3) := by decide +kernel
theorem dX1_operate_130 : decode cX1_operate 130 = .ok (.return_, 1) := by decide +kernel
theorem dX1_worked_0 : decode cX1_worked 0 = .ok (.iload_n 0, 1) := by decide +kernel
theorem dX1_worked_1 : decode cX1_worked 1 = .ok (.lookupswitch 123 #[(37, 93), (42, 71), (43, 59), (45, 65), (47, 77), (60, 109)], 59) := by decide +kernel
theorem dX1_worked_60 : decode cX1_worked 60 = .ok (.lload_n 1, 1) := by decide +kernel
theorem dX1_worked_61 : decode cX1_worked 61 = .ok (.lload_n 3, 1) := by decide +kernel
theorem dX1_worked_62 : decode cX1_worked 62 = .ok (.ladd, 1) := by decide +kernel
theorem dX1_worked_63 : decode cX1_worked 63 = .ok (.goto 72, 3) := by decide +kernel
theorem dX1_worked_66 : decode cX1_worked 66 = .ok (.lload_n 1, 1) := by decide +kernel
theorem dX1_worked_67 : decode cX1_worked 67 = .ok (.lload_n 3, 1) := by decide +kernel
theorem dX1_worked_68 : decode cX1_worked 68 = .ok (.lsub, 1) := by decide +kernel
theorem dX1_worked_69 : decode cX1_worked 69 = .ok (.goto 66, 3) := by decide +kernel
theorem dX1_worked_72 : decode cX1_worked 72 = .ok (.lload_n 1, 1) := by decide +kernel
theorem dX1_worked_73 : decode cX1_worked 73 = .ok (.lload_n 3, 1) := by decide +kernel
theorem dX1_worked_74 : decode cX1_worked 74 = .ok (.lmul, 1) := by decide +kernel
theorem dX1_worked_75 : decode cX1_worked 75 = .ok (.goto 60, 3) := by decide +kernel
theorem dX1_worked_78 : decode cX1_worked 78 = .ok (.lload_n 3, 1) := by decide +kernel
theorem dX1_worked_79 : decode cX1_worked 79 = .ok (.lconst 0, 1) := by decide +kernel
theorem dX1_worked_80 : decode cX1_worked 80 = .ok (.lcmp, 1) := by decide +kernel
theorem dX1_worked_81 : decode cX1_worked 81 = .ok (.ifCond .ne 7, 3) := by decide +kernel
theorem dX1_worked_88 : decode cX1_worked 88 = .ok (.lload_n 1, 1) := by decide +kernel
theorem dX1_worked_89 : decode cX1_worked 89 = .ok (.lload_n 3, 1) := by decide +kernel
theorem dX1_worked_90 : decode cX1_worked 90 = .ok (.ldiv, 1) := by decide +kernel
theorem dX1_worked_91 : decode cX1_worked 91 = .ok (.goto 44, 3) := by decide +kernel
theorem dX1_worked_94 : decode cX1_worked 94 = .ok (.lload_n 3, 1) := by decide +kernel
theorem dX1_worked_95 : decode cX1_worked 95 = .ok (.lconst 0, 1) := by decide +kernel
theorem dX1_worked_96 : decode cX1_worked 96 = .ok (.lcmp, 1) := by decide +kernel
theorem dX1_worked_97 : decode cX1_worked 97 = .ok (.ifCond .ne 7, 3) := by decide +kernel
theorem dX1_worked_104 : decode cX1_worked 104 = .ok (.lload_n 1, 1) := by decide +kernel
theorem dX1_worked_105 : decode cX1_worked 105 = .ok (.lload_n 3, 1) := by decide +kernel
theorem dX1_worked_106 : decode cX1_worked 106 = .ok (.lrem, 1) := by decide +kernel
theorem dX1_worked_107 : decode cX1_worked 107 = .ok (.goto 28, 3) := by decide +kernel
theorem dX1_worked_110 : decode cX1_worked 110 = .ok (.lload_n 1, 1) := by decide +kernel
theorem dX1_worked_111 : decode cX1_worked 111 = .ok (.lload_n 3, 1) := by decide +kernel
theorem dX1_worked_112 : decode cX1_worked 112 = .ok (.lcmp, 1) := by decide +kernel
theorem dX1_worked_113 : decode cX1_worked 113 = .ok (.ifCond .ge 7, 3) := by decide +kernel
theorem dX1_worked_116 : decode cX1_worked 116 = .ok (.lconst 1, 1) := by decide +kernel
theorem dX1_worked_117 : decode cX1_worked 117 = .ok (.goto 18, 3) := by decide +kernel
theorem dX1_worked_120 : decode cX1_worked 120 = .ok (.lconst 0, 1) := by decide +kernel
theorem dX1_worked_121 : decode cX1_worked 121 = .ok (.goto 14, 3) := by decide +kernel
theorem dX1_worked_124 : decode cX1_worked 124 = .ok (.lload_n 1, 1) := by decide +kernel
theorem dX1_worked_125 : decode cX1_worked 125 = .ok (.lload_n 3, 1) := by decide +kernel
theorem dX1_worked_126 : decode cX1_worked 126 = .ok (.lcmp, 1) := by decide +kernel
theorem dX1_worked_127 : decode cX1_worked 127 = .ok (.ifCond .ne 7, 3) := by decide +kernel
theorem dX1_worked_130 : decode cX1_worked 130 = .ok (.lconst 1, 1) := by decide +kernel
theorem dX1_worked_131 : decode cX1_worked 131 = .ok (.goto 4, 3) := by decide +kernel
theorem dX1_worked_134 : decode cX1_worked 134 = .ok (.lconst 0, 1) := by decide +kernel
theorem dX1_worked_135 : decode cX1_worked 135 = .ok (.lreturn, 1) := by decide +kernel
theorem dX2_init_0 : decode cX2_init 0 = .ok (.aload_n 0, 1) := by decide +kernel
theorem dX2_init_1 : decode cX2_init 1 = .ok (.invokespecial 3, 3) := by decide +kernel
theorem dX2_init_4 : decode cX2_init 4 = .ok (.aload_n 0, 1) := by decide +kernel
theorem dX2_init_5 : decode cX2_init 5 = .ok (.bipush 40, 2) := by decide +kernel
theorem dX2_init_7 : decode cX2_init 7 = .ok (.newarray .long, 2) := by decide +kernel
theorem dX2_init_9 : decode cX2_init 9 = .ok (.putfield 11, 3) := by decide +kernel
theorem dX2_init_12 : decode cX2_init 12 = .ok (.aload_n 0, 1) := by decide +kernel
theorem dX2_init_13 : decode cX2_init 13 = .ok (.bipush 40, 2) := by decide +kernel
theorem dX2_init_15 : decode cX2_init 15 = .ok (.newarray .int, 2) := by decide +kernel
theorem dX2_init_17 : decode cX2_init 17 = .ok (.putfield 15, 3) := by decide +kernel
theorem dX2_init_20 : decode cX2_init 20 = .ok (.aload_n 0, 1) := by decide +kernel
theorem dX2_init_21 : decode cX2_init 21 = .ok (.bipush 40, 2) := by decide +kernel
theorem dX2_init_23 : decode cX2_init 23 = .ok (.newarray .int, 2) := by decide +kernel
theorem dX2_init_25 : decode cX2_init 25 = .ok (.putfield 19, 3) := by decide +kernel
theorem dX2_init_28 : decode cX2_init 28 = .ok (.aload_n 0, 1) := by decide +kernel
theorem dX2_init_29 : decode cX2_init 29 = .ok (.bipush 40, 2) := by decide +kernel
theorem dX2_init_31 : decode cX2_init 31 = .ok (.newarray .int, 2) := by decide +kernel
theorem dX2_init_33 : decode cX2_init 33 = .ok (.putfield 22, 3) := by decide +kernel
theorem dX2_init_36 : decode cX2_init 36 = .ok (.return_, 1) := by decide +kernel
theorem dX2_clear_0 : decode cX2_clear 0 = .ok (.aload_n 0, 1) := by decide +kernel
theorem dX2_clear_1 : decode cX2_clear 1 = .ok (.iconst 0, 1) := by decide +kernel
theorem dX2_clear_2 : decode cX2_clear 2 = .ok (.putfield 25, 3) := by decide +kernel
theorem dX2_clear_5 : decode cX2_clear 5 = .ok (.return_, 1) := by decide +kernel
theorem dX2_size_0 : decode cX2_size 0 = .ok (.aload_n 0, 1) := by decide +kernel
theorem dX2_size_1 : decode cX2_size 1 = .ok (.getfield 25, 3) := by decide +kernel
theorem dX2_size_4 : decode cX2_size 4 = .ok (.ireturn, 1) := by decide +kernel
theorem dX2_has_0 : decode cX2_has 0 = .ok (.iload_n 1, 1) := by decide +kernel
theorem dX2_has_1 : decode cX2_has 1 = .ok (.ifCond .lt 15, 3) := by decide +kernel
theorem dX2_has_4 : decode cX2_has 4 = .ok (.iload_n 1, 1) := by decide +kernel
theorem dX2_has_5 : decode cX2_has 5 = .ok (.aload_n 0, 1) := by decide +kernel
theorem dX2_has_6 : decode cX2_has 6 = .ok (.getfield 25, 3) := by decide +kernel
theorem dX2_has_9 : decode cX2_has 9 = .ok (.if_icmp .ge 7, 3) := by decide +kernel
theorem dX2_has_12 : decode cX2_has 12 = .ok (.iconst 1, 1) := by decide +kernel
theorem dX2_has_13 : decode cX2_has 13 = .ok (.goto 4, 3) := by decide +kernel
theorem dX2_has_16 : decode cX2_has 16 = .ok (.iconst 0, 1) := by decide +kernel
theorem dX2_has_17 : decode cX2_has 17 = .ok (.ireturn, 1) := by decide +kernel
theorem dX2_find_0 : decode cX2_find 0 = .ok (.iconst 0, 1) := by decide +kernel
theorem dX2_find_1 : decode cX2_find 1 = .ok (.istore_n 3, 1) := by decide +kernel
theorem dX2_find_2 : decode cX2_find 2 = .ok (.iload_n 3, 1) := by decide +kernel
theorem dX2_find_3 : decode cX2_find 3 = .ok (.aload_n 0, 1) := by decide +kernel
theorem dX2_find_4 : decode cX2_find 4 = .ok (.getfield 25, 3) := by decide +kernel
theorem dX2_find_7 : decode cX2_find 7 = .ok (.if_icmp .ge 22, 3) := by decide +kernel
theorem dX2_find_10 : decode cX2_find 10 = .ok (.aload_n 0, 1) := by decide +kernel
theorem dX2_find_11 : decode cX2_find 11 = .ok (.getfield 11, 3) := by decide +kernel
theorem dX2_find_14 : decode cX2_find 14 = .ok (.iload_n 3, 1) := by decide +kernel
theorem dX2_find_15 : decode cX2_find 15 = .ok (.laload, 1) := by decide +kernel
theorem dX2_find_16 : decode cX2_find 16 = .ok (.lload_n 1, 1) := by decide +kernel
theorem dX2_find_17 : decode cX2_find 17 = .ok (.lcmp, 1) := by decide +kernel
theorem dX2_find_18 : decode cX2_find 18 = .ok (.ifCond .ne 5, 3) := by decide +kernel
theorem dX2_find_21 : decode cX2_find 21 = .ok (.iload_n 3, 1) := by decide +kernel
theorem dX2_find_22 : decode cX2_find 22 = .ok (.ireturn, 1) := by decide +kernel
theorem dX2_find_23 : decode cX2_find 23 = .ok (.iinc 3 1, 3) := by decide +kernel
theorem dX2_find_26 : decode cX2_find 26 = .ok (.goto (-24), 3) := by decide +kernel
theorem dX2_find_29 : decode cX2_find 29 = .ok (.bipush (-5), 2) := by decide +kernel
theorem dX2_find_31 : decode cX2_find 31 = .ok (.ireturn, 1) := by decide +kernel
theorem dX2_takeAll_0 : decode cX2_takeAll 0 = .ok (.aload_n 0, 1) := by decide +kernel
theorem dX2_takeAll_1 : decode cX2_takeAll 1 = .ok (.getfield 25, 3) := by decide +kernel
theorem dX2_takeAll_4 : decode cX2_takeAll 4 = .ok (.istore_n 2, 1) := by decide +kernel
theorem dX2_takeAll_5 : decode cX2_takeAll 5 = .ok (.iconst 0, 1) := by decide +kernel
theorem dX2_takeAll_6 : decode cX2_takeAll 6 = .ok (.istore_n 3, 1) := by decide +kernel
theorem dX2_takeAll_7 : decode cX2_takeAll 7 = .ok (.iload_n 3, 1) := by decide +kernel
theorem dX2_takeAll_8 : decode cX2_takeAll 8 = .ok (.aload_n 1, 1) := by decide +kernel
theorem dX2_takeAll_9 : decode cX2_takeAll 9 = .ok (.invokevirtual 29, 3) := by decide +kernel
theorem dX2_takeAll_12 : decode cX2_takeAll 12 = .ok (.if_icmp .ge 58, 3) := by decide +kernel
theorem dX2_takeAll_15 : decode cX2_takeAll 15 = .ok (.aload_n 1, 1) := by decide +kernel
theorem dX2_takeAll_16 : decode cX2_takeAll 16 = .ok (.iload_n 3, 1) := by decide +kernel
theorem dX2_takeAll_17 : decode cX2_takeAll 17 = .ok (.invokevirtual 35, 3) := by decide +kernel
theorem dX2_takeAll_20 : decode cX2_takeAll 20 = .ok (.bipush 97, 2) := by decide +kernel
theorem dX2_takeAll_22 : decode cX2_takeAll 22 = .ok (.if_icmp .ne 42, 3) := by decide +kernel
theorem dX2_takeAll_25 : decode cX2_takeAll 25 = .ok (.aload_n 0, 1) := by decide +kernel
theorem dX2_takeAll_26 : decode cX2_takeAll 26 = .ok (.aload_n 1, 1) := by decide +kernel
theorem dX2_takeAll_27 : decode cX2_takeAll 27 = .ok (.iload_n 3, 1) := by decide +kernel
theorem dX2_takeAll_28 : decode cX2_takeAll 28 = .ok (.invokevirtual 39, 3) := by decide +kernel
theorem dX2_takeAll_31 : decode cX2_takeAll 31 = .ok (.invokevirtual 43, 3) := by decide +kernel
theorem dX2_takeAll_34 : decode cX2_takeAll 34 = .ok (.bipush (-5), 2) := by decide +kernel
theorem dX2_takeAll_36 : decode cX2_takeAll 36 = .ok (.if_icmp .ne 28, 3) := by decide +kernel
theorem dX2_takeAll_39 : decode cX2_takeAll 39 = .ok (.aload_n 0, 1) := by decide +kernel
theorem dX2_takeAll_40 : decode cX2_takeAll 40 = .ok (.getfield 25, 3) := by decide +kernel
theorem dX2_takeAll_43 : decode cX2_takeAll 43 = .ok (.bipush 40, 2) := by decide +kernel
theorem dX2_takeAll_45 : decode cX2_takeAll 45 = .ok (.if_icmp .lt 10, 3) := by decide +kernel
theorem dX2_takeAll_48 : decode cX2_takeAll 48 = .ok (.aload_n 0, 1) := by decide +kernel
theorem dX2_takeAll_49 : decode cX2_takeAll 49 = .ok (.iload_n 2, 1) := by decide +kernel
theorem dX2_takeAll_50 : decode cX2_takeAll 50 = .ok (.putfield 25, 3) := by decide +kernel
theorem dX2_takeAll_53 : decode cX2_takeAll 53 = .ok (.iconst 0, 1) := by decide +kernel
theorem dX2_takeAll_54 : decode cX2_takeAll 54 = .ok (.ireturn, 1) := by decide +kernel
theorem dX2_takeAll_55 : decode cX2_takeAll 55 = .ok (.aload_n 0, 1) := by decide +kernel
theorem dX2_takeAll_56 : decode cX2_takeAll 56 = .ok (.aload_n 1, 1) := by decide +kernel
theorem dX2_takeAll_57 : decode cX2_takeAll 57 = .ok (.iload_n 3, 1) := by decide +kernel
theorem dX2_takeAll_58 : decode cX2_takeAll 58 = .ok (.invokevirtual 39, 3) := by decide +kernel
theorem dX2_takeAll_61 : decode cX2_takeAll 61 = .ok (.invokevirtual 47, 3) := by decide +kernel
theorem dX2_takeAll_64 : decode cX2_takeAll 64 = .ok (.iinc 3 1, 3) := by decide +kernel
theorem dX2_takeAll_67 : decode cX2_takeAll 67 = .ok (.goto (-60), 3) := by decide +kernel
theorem dX2_takeAll_70 : decode cX2_takeAll 70 = .ok (.iconst 1, 1) := by decide +kernel
theorem dX2_takeAll_71 : decode cX2_takeAll 71 = .ok (.ireturn, 1) := by decide +kernel
theorem dX2_declare_0 : decode cX2_declare 0 = .ok (.aload_n 0, 1) := by decide +kernel
theorem dX2_declare_1 : decode cX2_declare 1 = .ok (.iload_n 1, 1) := by decide +kernel
theorem dX2_declare_2 : decode cX2_declare 2 = .ok (.invokevirtual 51, 3) := by decide +kernel
theorem dX2_declare_5 : decode cX2_declare 5 = .ok (.ifCond .eq 32, 3) := by decide +kernel
theorem dX2_declare_8 : decode cX2_declare 8 = .ok (.aload_n 0, 1) := by decide +kernel
theorem dX2_declare_9 : decode cX2_declare 9 = .ok (.getfield 15, 3) := by decide +kernel
theorem dX2_declare_12 : decode cX2_declare 12 = .ok (.iload_n 1, 1) := by decide +kernel
theorem dX2_declare_13 : decode cX2_declare 13 = .ok (.iload_n 2, 1) := by decide +kernel
theorem dX2_declare_14 : decode cX2_declare 14 = .ok (.iastore, 1) := by decide +kernel
theorem dX2_declare_15 : decode cX2_declare 15 = .ok (.aload_n 0, 1) := by decide +kernel
theorem dX2_declare_16 : decode cX2_declare 16 = .ok (.getfield 19, 3) := by decide +kernel
theorem dX2_declare_19 : decode cX2_declare 19 = .ok (.iload_n 1, 1) := by decide +kernel
theorem dX2_declare_20 : decode cX2_declare 20 = .ok (.iload_n 3, 1) := by decide +kernel
theorem dX2_declare_21 : decode cX2_declare 21 = .ok (.iastore, 1) := by decide +kernel
theorem dX2_declare_22 : decode cX2_declare 22 = .ok (.iload_n 2, 1) := by decide +kernel
theorem dX2_declare_23 : decode cX2_declare 23 = .ok (.iconst 3, 1) := by decide +kernel
theorem dX2_declare_24 : decode cX2_declare 24 = .ok (.if_icmp .ne 13, 3) := by decide +kernel
theorem dX2_declare_27 : decode cX2_declare 27 = .ok (.aload_n 0, 1) := by decide +kernel
theorem dX2_declare_28 : decode cX2_declare 28 = .ok (.getfield 22, 3) := by decide +kernel
theorem dX2_declare_31 : decode cX2_declare 31 = .ok (.iload_n 1, 1) := by decide +kernel
theorem dX2_declare_32 : decode cX2_declare 32 = .ok (.dup2, 1) := by decide +kernel
theorem dX2_declare_33 : decode cX2_declare 33 = .ok (.iaload, 1) := by decide +kernel
theorem dX2_declare_34 : decode cX2_declare 34 = .ok (.iconst 1, 1) := by decide +kernel
theorem dX2_declare_35 : decode cX2_declare 35 = .ok (.iadd, 1) := by decide +kernel
theorem dX2_declare_36 : decode cX2_declare 36 = .ok (.iastore, 1) := by decide +kernel
theorem dX2_declare_37 : decode cX2_declare 37 = .ok (.return_, 1) := by decide +kernel
theorem dX2_formOf_0 : decode cX2_formOf 0 = .ok (.aload_n 0, 1) := by decide +kernel
theorem dX2_formOf_1 : decode cX2_formOf 1 = .ok (.iload_n 1, 1) := by decide +kernel
theorem dX2_formOf_2 : decode cX2_formOf 2 = .ok (.invokevirtual 51, 3) := by decide +kernel
theorem dX2_formOf_5 : decode cX2_formOf 5 = .ok (.ifCond .eq 12, 3) := by decide +kernel
theorem dX2_formOf_8 : decode cX2_formOf 8 = .ok (.aload_n 0, 1) := by decide +kernel
theorem dX2_formOf_9 : decode cX2_formOf 9 = .ok (.getfield 15, 3) := by decide +kernel
theorem dX2_formOf_12 : decode cX2_formOf 12 = .ok (.iload_n 1, 1) := by decide +kernel
theorem dX2_formOf_13 : decode cX2_formOf 13 = .ok (.iaload, 1) := by decide +kernel
theorem dX2_formOf_14 : decode cX2_formOf 14 = .ok (.goto 4, 3) := by decide +kernel
theorem dX2_formOf_17 : decode cX2_formOf 17 = .ok (.iconst 0, 1) := by decide +kernel
theorem dX2_formOf_18 : decode cX2_formOf 18 = .ok (.ireturn, 1) := by decide +kernel
theorem dX2_declarerOf_0 : decode cX2_declarerOf 0 = .ok (.aload_n 0, 1) := by decide +kernel
theorem dX2_declarerOf_1 : decode cX2_declarerOf 1 = .ok (.iload_n 1, 1) := by decide +kernel
theorem dX2_declarerOf_2 : decode cX2_declarerOf 2 = .ok (.invokevirtual 51, 3) := by decide +kernel
theorem dX2_declarerOf_5 : decode cX2_declarerOf 5 = .ok (.ifCond .eq 12, 3) := by decide +kernel
theorem dX2_declarerOf_8 : decode cX2_declarerOf 8 = .ok (.aload_n 0, 1) := by decide +kernel
theorem dX2_declarerOf_9 : decode cX2_declarerOf 9 = .ok (.getfield 19, 3) := by decide +kernel
theorem dX2_declarerOf_12 : decode cX2_declarerOf 12 = .ok (.iload_n 1, 1) := by decide +kernel
theorem dX2_declarerOf_13 : decode cX2_declarerOf 13 = .ok (.iaload, 1) := by decide +kernel
theorem dX2_declarerOf_14 : decode cX2_declarerOf 14 = .ok (.goto 5, 3) := by decide +kernel
theorem dX2_declarerOf_17 : decode cX2_declarerOf 17 = .ok (.bipush (-5), 2) := by decide +kernel
theorem dX2_declarerOf_19 : decode cX2_declarerOf 19 = .ok (.ireturn, 1) := by decide +kernel
theorem dX2_editionOf_0 : decode cX2_editionOf 0 = .ok (.aload_n 0, 1) := by decide +kernel
theorem dX2_editionOf_1 : decode cX2_editionOf 1 = .ok (.iload_n 1, 1) := by decide +kernel
theorem dX2_editionOf_2 : decode cX2_editionOf 2 = .ok (.invokevirtual 51, 3) := by decide +kernel
theorem dX2_editionOf_5 : decode cX2_editionOf 5 = .ok (.ifCond .eq 12, 3) := by decide +kernel
theorem dX2_editionOf_8 : decode cX2_editionOf 8 = .ok (.aload_n 0, 1) := by decide +kernel
theorem dX2_editionOf_9 : decode cX2_editionOf 9 = .ok (.getfield 22, 3) := by decide +kernel
theorem dX2_editionOf_12 : decode cX2_editionOf 12 = .ok (.iload_n 1, 1) := by decide +kernel
theorem dX2_editionOf_13 : decode cX2_editionOf 13 = .ok (.iaload, 1) := by decide +kernel
theorem dX2_editionOf_14 : decode cX2_editionOf 14 = .ok (.goto 4, 3) := by decide +kernel
theorem dX2_editionOf_17 : decode cX2_editionOf 17 = .ok (.iconst 0, 1) := by decide +kernel
theorem dX2_editionOf_18 : decode cX2_editionOf 18 = .ok (.ireturn, 1) := by decide +kernel
theorem dX2_letterOf_0 : decode cX2_letterOf 0 = .ok (.aload_n 0, 1) := by decide +kernel
theorem dX2_letterOf_1 : decode cX2_letterOf 1 = .ok (.iload_n 1, 1) := by decide +kernel
theorem dX2_letterOf_2 : decode cX2_letterOf 2 = .ok (.invokevirtual 51, 3) := by decide +kernel
theorem dX2_letterOf_5 : decode cX2_letterOf 5 = .ok (.ifCond .eq 7, 3) := by decide +kernel
theorem dX2_letterOf_8 : decode cX2_letterOf 8 = .ok (.iload_n 2, 1) := by decide +kernel
theorem dX2_letterOf_9 : decode cX2_letterOf 9 = .ok (.ifCond .ge 6, 3) := by decide +kernel
theorem dX2_letterOf_12 : decode cX2_letterOf 12 = .ok (.bipush (-5), 2) := by decide +kernel
theorem dX2_letterOf_14 : decode cX2_letterOf 14 = .ok (.ireturn, 1) := by decide +kernel
theorem dX2_letterOf_15 : decode cX2_letterOf 15 = .ok (.iconst 0, 1) := by decide +kernel
theorem dX2_letterOf_16 : decode cX2_letterOf 16 = .ok (.istore_n 3, 1) := by decide +kernel
theorem dX2_letterOf_17 : decode cX2_letterOf 17 = .ok (.bipush 56, 2) := by decide +kernel
theorem dX2_letterOf_19 : decode cX2_letterOf 19 = .ok (.istore 4, 2) := by decide +kernel
theorem dX2_letterOf_21 : decode cX2_letterOf 21 = .ok (.iload 4, 2) := by decide +kernel
theorem dX2_letterOf_23 : decode cX2_letterOf 23 = .ok (.ifCond .lt 38, 3) := by decide +kernel
theorem dX2_letterOf_26 : decode cX2_letterOf 26 = .ok (.aload_n 0, 1) := by decide +kernel
theorem dX2_letterOf_27 : decode cX2_letterOf 27 = .ok (.getfield 11, 3) := by decide +kernel
theorem dX2_letterOf_30 : decode cX2_letterOf 30 = .ok (.iload_n 1, 1) := by decide +kernel
theorem dX2_letterOf_31 : decode cX2_letterOf 31 = .ok (.laload, 1) := by decide +kernel
theorem dX2_letterOf_32 : decode cX2_letterOf 32 = .ok (.iload 4, 2) := by decide +kernel
theorem dX2_letterOf_34 : decode cX2_letterOf 34 = .ok (.invokestatic 57, 3) := by decide +kernel
theorem dX2_letterOf_37 : decode cX2_letterOf 37 = .ok (.istore 5, 2) := by decide +kernel
theorem dX2_letterOf_39 : decode cX2_letterOf 39 = .ok (.iload 5, 2) := by decide +kernel
theorem dX2_letterOf_41 : decode cX2_letterOf 41 = .ok (.ifCond .eq 14, 3) := by decide +kernel
theorem dX2_letterOf_44 : decode cX2_letterOf 44 = .ok (.iload_n 3, 1) := by decide +kernel
theorem dX2_letterOf_45 : decode cX2_letterOf 45 = .ok (.iload_n 2, 1) := by decide +kernel
theorem dX2_letterOf_46 : decode cX2_letterOf 46 = .ok (.if_icmp .ne 6, 3) := by decide +kernel
theorem dX2_letterOf_49 : decode cX2_letterOf 49 = .ok (.iload 5, 2) := by decide +kernel
theorem dX2_letterOf_51 : decode cX2_letterOf 51 = .ok (.ireturn, 1) := by decide +kernel
theorem dX2_letterOf_52 : decode cX2_letterOf 52 = .ok (.iinc 3 1, 3) := by decide +kernel
theorem dX2_letterOf_55 : decode cX2_letterOf 55 = .ok (.iinc 4 (-8), 3) := by decide +kernel
theorem dX2_letterOf_58 : decode cX2_letterOf 58 = .ok (.goto (-37), 3) := by decide +kernel
theorem dX2_letterOf_61 : decode cX2_letterOf 61 = .ok (.bipush (-5), 2) := by decide +kernel
theorem dX2_letterOf_63 : decode cX2_letterOf 63 = .ok (.ireturn, 1) := by decide +kernel
theorem dX2_addNew_0 : decode cX2_addNew 0 = .ok (.aload_n 0, 1) := by decide +kernel
theorem dX2_addNew_1 : decode cX2_addNew 1 = .ok (.getfield 25, 3) := by decide +kernel
theorem dX2_addNew_4 : decode cX2_addNew 4 = .ok (.bipush 40, 2) := by decide +kernel
theorem dX2_addNew_6 : decode cX2_addNew 6 = .ok (.if_icmp .ge 54, 3) := by decide +kernel
theorem dX2_addNew_9 : decode cX2_addNew 9 = .ok (.aload_n 0, 1) := by decide +kernel
theorem dX2_addNew_10 : decode cX2_addNew 10 = .ok (.getfield 11, 3) := by decide +kernel
theorem dX2_addNew_13 : decode cX2_addNew 13 = .ok (.aload_n 0, 1) := by decide +kernel
theorem dX2_addNew_14 : decode cX2_addNew 14 = .ok (.getfield 25, 3) := by decide +kernel
theorem dX2_addNew_17 : decode cX2_addNew 17 = .ok (.lload_n 1, 1) := by decide +kernel
theorem dX2_addNew_18 : decode cX2_addNew 18 = .ok (.lastore, 1) := by decide +kernel
theorem dX2_addNew_19 : decode cX2_addNew 19 = .ok (.aload_n 0, 1) := by decide +kernel
theorem dX2_addNew_20 : decode cX2_addNew 20 = .ok (.getfield 15, 3) := by decide +kernel
theorem dX2_addNew_23 : decode cX2_addNew 23 = .ok (.aload_n 0, 1) := by decide +kernel
theorem dX2_addNew_24 : decode cX2_addNew 24 = .ok (.getfield 25, 3) := by decide +kernel
theorem dX2_addNew_27 : decode cX2_addNew 27 = .ok (.iconst 0, 1) := by decide +kernel
theorem dX2_addNew_28 : decode cX2_addNew 28 = .ok (.iastore, 1) := by decide +kernel
theorem dX2_addNew_29 : decode cX2_addNew 29 = .ok (.aload_n 0, 1) := by decide +kernel
theorem dX2_addNew_30 : decode cX2_addNew 30 = .ok (.getfield 19, 3) := by decide +kernel
theorem dX2_addNew_33 : decode cX2_addNew 33 = .ok (.aload_n 0, 1) := by decide +kernel
theorem dX2_addNew_34 : decode cX2_addNew 34 = .ok (.getfield 25, 3) := by decide +kernel
theorem dX2_addNew_37 : decode cX2_addNew 37 = .ok (.bipush (-5), 2) := by decide +kernel
theorem dX2_addNew_39 : decode cX2_addNew 39 = .ok (.iastore, 1) := by decide +kernel
theorem dX2_addNew_40 : decode cX2_addNew 40 = .ok (.aload_n 0, 1) := by decide +kernel
theorem dX2_addNew_41 : decode cX2_addNew 41 = .ok (.getfield 22, 3) := by decide +kernel
theorem dX2_addNew_44 : decode cX2_addNew 44 = .ok (.aload_n 0, 1) := by decide +kernel
theorem dX2_addNew_45 : decode cX2_addNew 45 = .ok (.getfield 25, 3) := by decide +kernel
theorem dX2_addNew_48 : decode cX2_addNew 48 = .ok (.iconst 0, 1) := by decide +kernel
theorem dX2_addNew_49 : decode cX2_addNew 49 = .ok (.iastore, 1) := by decide +kernel
theorem dX2_addNew_50 : decode cX2_addNew 50 = .ok (.aload_n 0, 1) := by decide +kernel
theorem dX2_addNew_51 : decode cX2_addNew 51 = .ok (.dup, 1) := by decide +kernel
theorem dX2_addNew_52 : decode cX2_addNew 52 = .ok (.getfield 25, 3) := by decide +kernel
theorem dX2_addNew_55 : decode cX2_addNew 55 = .ok (.iconst 1, 1) := by decide +kernel
theorem dX2_addNew_56 : decode cX2_addNew 56 = .ok (.iadd, 1) := by decide +kernel
theorem dX2_addNew_57 : decode cX2_addNew 57 = .ok (.putfield 25, 3) := by decide +kernel
theorem dX2_addNew_60 : decode cX2_addNew 60 = .ok (.return_, 1) := by decide +kernel
theorem dX3_init_0 : decode cX3_init 0 = .ok (.aload_n 0, 1) := by decide +kernel
theorem dX3_init_1 : decode cX3_init 1 = .ok (.invokespecial 3, 3) := by decide +kernel
theorem dX3_init_4 : decode cX3_init 4 = .ok (.aload_n 0, 1) := by decide +kernel
theorem dX3_init_5 : decode cX3_init 5 = .ok (.new 9, 3) := by decide +kernel
theorem dX3_init_8 : decode cX3_init 8 = .ok (.dup, 1) := by decide +kernel
theorem dX3_init_9 : decode cX3_init 9 = .ok (.bipush 121, 2) := by decide +kernel
theorem dX3_init_11 : decode cX3_init 11 = .ok (.invokespecial 11, 3) := by decide +kernel
theorem dX3_init_14 : decode cX3_init 14 = .ok (.putfield 14, 3) := by decide +kernel
theorem dX3_init_17 : decode cX3_init 17 = .ok (.aload_n 0, 1) := by decide +kernel
theorem dX3_init_18 : decode cX3_init 18 = .ok (.iconst 3, 1) := by decide +kernel
theorem dX3_init_19 : decode cX3_init 19 = .ok (.newarray .long, 2) := by decide +kernel
theorem dX3_init_21 : decode cX3_init 21 = .ok (.putfield 20, 3) := by decide +kernel
theorem dX3_init_24 : decode cX3_init 24 = .ok (.aload_n 0, 1) := by decide +kernel
theorem dX3_init_25 : decode cX3_init 25 = .ok (.aload_n 1, 1) := by decide +kernel
theorem dX3_init_26 : decode cX3_init 26 = .ok (.putfield 24, 3) := by decide +kernel
theorem dX3_init_29 : decode cX3_init 29 = .ok (.return_, 1) := by decide +kernel
theorem dX3_read_0 : decode cX3_read 0 = .ok (.aload_n 0, 1) := by decide +kernel
theorem dX3_read_1 : decode cX3_read 1 = .ok (.getfield 14, 3) := by decide +kernel
theorem dX3_read_4 : decode cX3_read 4 = .ok (.invokevirtual 28, 3) := by decide +kernel
theorem dX3_read_7 : decode cX3_read 7 = .ok (.aload_n 0, 1) := by decide +kernel
theorem dX3_read_8 : decode cX3_read 8 = .ok (.iconst 0, 1) := by decide +kernel
theorem dX3_read_9 : decode cX3_read 9 = .ok (.putfield 31, 3) := by decide +kernel
theorem dX3_read_12 : decode cX3_read 12 = .ok (.aload_n 0, 1) := by decide +kernel
theorem dX3_read_13 : decode cX3_read 13 = .ok (.lconst 0, 1) := by decide +kernel
theorem dX3_read_14 : decode cX3_read 14 = .ok (.putfield 35, 3) := by decide +kernel
theorem dX3_read_17 : decode cX3_read 17 = .ok (.aload_n 0, 1) := by decide +kernel
theorem dX3_read_18 : decode cX3_read 18 = .ok (.iconst 0, 1) := by decide +kernel
theorem dX3_read_19 : decode cX3_read 19 = .ok (.putfield 39, 3) := by decide +kernel
theorem dX3_read_22 : decode cX3_read 22 = .ok (.aload_n 0, 1) := by decide +kernel
theorem dX3_read_23 : decode cX3_read 23 = .ok (.iconst 0, 1) := by decide +kernel
theorem dX3_read_24 : decode cX3_read 24 = .ok (.putfield 42, 3) := by decide +kernel
theorem dX3_read_27 : decode cX3_read 27 = .ok (.aload_n 0, 1) := by decide +kernel
theorem dX3_read_28 : decode cX3_read 28 = .ok (.bipush (-5), 2) := by decide +kernel
theorem dX3_read_30 : decode cX3_read 30 = .ok (.putfield 45, 3) := by decide +kernel
theorem dX3_read_33 : decode cX3_read 33 = .ok (.aload_n 0, 1) := by decide +kernel
theorem dX3_read_34 : decode cX3_read 34 = .ok (.getfield 24, 3) := by decide +kernel
theorem dX3_read_37 : decode cX3_read 37 = .ok (.iconst 0, 1) := by decide +kernel
theorem dX3_read_38 : decode cX3_read 38 = .ok (.invokevirtual 48, 3) := by decide +kernel
theorem dX3_read_41 : decode cX3_read 41 = .ok (.lookupswitch 56 #[(100, 42), (116, 49), (118, 35)], 35) := by decide +kernel
theorem dX3_read_76 : decode cX3_read 76 = .ok (.aload_n 0, 1) := by decide +kernel
theorem dX3_read_77 : decode cX3_read 77 = .ok (.invokevirtual 54, 3) := by decide +kernel
theorem dX3_read_80 : decode cX3_read 80 = .ok (.goto 21, 3) := by decide +kernel
theorem dX3_read_83 : decode cX3_read 83 = .ok (.aload_n 0, 1) := by decide +kernel
theorem dX3_read_84 : decode cX3_read 84 = .ok (.invokevirtual 57, 3) := by decide +kernel
theorem dX3_read_87 : decode cX3_read 87 = .ok (.goto 14, 3) := by decide +kernel
theorem dX3_read_90 : decode cX3_read 90 = .ok (.aload_n 0, 1) := by decide +kernel
theorem dX3_read_91 : decode cX3_read 91 = .ok (.invokevirtual 60, 3) := by decide +kernel
theorem dX3_read_94 : decode cX3_read 94 = .ok (.goto 7, 3) := by decide +kernel
theorem dX3_read_97 : decode cX3_read 97 = .ok (.aload_n 0, 1) := by decide +kernel
theorem dX3_read_98 : decode cX3_read 98 = .ok (.invokevirtual 63, 3) := by decide +kernel
theorem dX3_read_101 : decode cX3_read 101 = .ok (.aload_n 0, 1) := by decide +kernel
theorem dX3_read_102 : decode cX3_read 102 = .ok (.iconst 0, 1) := by decide +kernel
theorem dX3_read_103 : decode cX3_read 103 = .ok (.invokevirtual 66, 3) := by decide +kernel
theorem dX3_read_106 : decode cX3_read 106 = .ok (.ifCond .ne 7, 3) := by decide +kernel
theorem dX3_read_109 : decode cX3_read 109 = .ok (.aload_n 0, 1) := by decide +kernel
theorem dX3_read_110 : decode cX3_read 110 = .ok (.invokevirtual 70, 3) := by decide +kernel
theorem dX3_read_113 : decode cX3_read 113 = .ok (.aload_n 0, 1) := by decide +kernel
theorem dX3_read_114 : decode cX3_read 114 = .ok (.getfield 14, 3) := by decide +kernel
theorem dX3_read_117 : decode cX3_read 117 = .ok (.bipush 13, 2) := by decide +kernel
theorem dX3_read_119 : decode cX3_read 119 = .ok (.iconst 0, 1) := by decide +kernel
theorem dX3_read_120 : decode cX3_read 120 = .ok (.invokevirtual 73, 3) := by decide +kernel
theorem dX3_read_123 : decode cX3_read 123 = .ok (.aload_n 0, 1) := by decide +kernel
theorem dX3_read_124 : decode cX3_read 124 = .ok (.getfield 45, 3) := by decide +kernel
theorem dX3_read_127 : decode cX3_read 127 = .ok (.ireturn, 1) := by decide +kernel
theorem dX3_form_0 : decode cX3_form 0 = .ok (.aload_n 0, 1) := by decide +kernel
theorem dX3_form_1 : decode cX3_form 1 = .ok (.getfield 77, 3) := by decide +kernel
theorem dX3_form_4 : decode cX3_form 4 = .ok (.ireturn, 1) := by decide +kernel
theorem dX3_code_0 : decode cX3_code 0 = .ok (.aload_n 0, 1) := by decide +kernel
theorem dX3_code_1 : decode cX3_code 1 = .ok (.getfield 14, 3) := by decide +kernel
theorem dX3_code_4 : decode cX3_code 4 = .ok (.areturn, 1) := by decide +kernel
theorem dX3_numberNames_0 : decode cX3_numberNames 0 = .ok (.aload_n 0, 1) := by decide +kernel
theorem dX3_numberNames_1 : decode cX3_numberNames 1 = .ok (.getfield 14, 3) := by decide +kernel
theorem dX3_numberNames_4 : decode cX3_numberNames 4 = .ok (.aload_n 1, 1) := by decide +kernel
theorem dX3_numberNames_5 : decode cX3_numberNames 5 = .ok (.iload_n 2, 1) := by decide +kernel
theorem dX3_numberNames_6 : decode cX3_numberNames 6 = .ok (.invokevirtual 80, 3) := by decide +kernel
theorem dX3_numberNames_9 : decode cX3_numberNames 9 = .ok (.aload_n 0, 1) := by decide +kernel
theorem dX3_numberNames_10 : decode cX3_numberNames 10 = .ok (.aload_n 1, 1) := by decide +kernel
theorem dX3_numberNames_11 : decode cX3_numberNames 11 = .ok (.aload_n 0, 1) := by decide +kernel
theorem dX3_numberNames_12 : decode cX3_numberNames 12 = .ok (.getfield 35, 3) := by decide +kernel
theorem dX3_numberNames_15 : decode cX3_numberNames 15 = .ok (.invokevirtual 84, 3) := by decide +kernel
theorem dX3_numberNames_18 : decode cX3_numberNames 18 = .ok (.i2l, 1) := by decide +kernel
theorem dX3_numberNames_19 : decode cX3_numberNames 19 = .ok (.putfield 35, 3) := by decide +kernel
theorem dX3_numberNames_22 : decode cX3_numberNames 22 = .ok (.iconst 0, 1) := by decide +kernel
theorem dX3_numberNames_23 : decode cX3_numberNames 23 = .ok (.istore_n 3, 1) := by decide +kernel
theorem dX3_numberNames_24 : decode cX3_numberNames 24 = .ok (.iload_n 3, 1) := by decide +kernel
theorem dX3_numberNames_25 : decode cX3_numberNames 25 = .ok (.aload_n 0, 1) := by decide +kernel
theorem dX3_numberNames_26 : decode cX3_numberNames 26 = .ok (.getfield 31, 3) := by decide +kernel
theorem dX3_numberNames_29 : decode cX3_numberNames 29 = .ok (.if_icmp .ge 26, 3) := by decide +kernel
theorem dX3_numberNames_32 : decode cX3_numberNames 32 = .ok (.aload_n 0, 1) := by decide +kernel
theorem dX3_numberNames_33 : decode cX3_numberNames 33 = .ok (.getfield 20, 3) := by decide +kernel
theorem dX3_numberNames_36 : decode cX3_numberNames 36 = .ok (.iload_n 3, 1) := by decide +kernel
theorem dX3_numberNames_37 : decode cX3_numberNames 37 = .ok (.aload_n 1, 1) := by decide +kernel
theorem dX3_numberNames_38 : decode cX3_numberNames 38 = .ok (.aload_n 0, 1) := by decide +kernel
theorem dX3_numberNames_39 : decode cX3_numberNames 39 = .ok (.getfield 20, 3) := by decide +kernel
theorem dX3_numberNames_42 : decode cX3_numberNames 42 = .ok (.iload_n 3, 1) := by decide +kernel
theorem dX3_numberNames_43 : decode cX3_numberNames 43 = .ok (.laload, 1) := by decide +kernel
theorem dX3_numberNames_44 : decode cX3_numberNames 44 = .ok (.invokevirtual 84, 3) := by decide +kernel
theorem dX3_numberNames_47 : decode cX3_numberNames 47 = .ok (.i2l, 1) := by decide +kernel
theorem dX3_numberNames_48 : decode cX3_numberNames 48 = .ok (.lastore, 1) := by decide +kernel
theorem dX3_numberNames_49 : decode cX3_numberNames 49 = .ok (.iinc 3 1, 3) := by decide +kernel
theorem dX3_numberNames_52 : decode cX3_numberNames 52 = .ok (.goto (-28), 3) := by decide +kernel
theorem dX3_numberNames_55 : decode cX3_numberNames 55 = .ok (.return_, 1) := by decide +kernel
theorem dX3_snippet_0 : decode cX3_snippet 0 = .ok (.aload_n 0, 1) := by decide +kernel
theorem dX3_snippet_1 : decode cX3_snippet 1 = .ok (.getfield 31, 3) := by decide +kernel
theorem dX3_snippet_4 : decode cX3_snippet 4 = .ok (.newarray .int, 2) := by decide +kernel
theorem dX3_snippet_6 : decode cX3_snippet 6 = .ok (.astore_n 2, 1) := by decide +kernel
theorem dX3_snippet_7 : decode cX3_snippet 7 = .ok (.iconst 0, 1) := by decide +kernel
theorem dX3_snippet_8 : decode cX3_snippet 8 = .ok (.istore_n 3, 1) := by decide +kernel
theorem dX3_snippet_9 : decode cX3_snippet 9 = .ok (.iload_n 3, 1) := by decide +kernel
theorem dX3_snippet_10 : decode cX3_snippet 10 = .ok (.aload_n 0, 1) := by decide +kernel
theorem dX3_snippet_11 : decode cX3_snippet 11 = .ok (.getfield 31, 3) := by decide +kernel
theorem dX3_snippet_14 : decode cX3_snippet 14 = .ok (.if_icmp .ge 19, 3) := by decide +kernel
theorem dX3_snippet_17 : decode cX3_snippet 17 = .ok (.aload_n 2, 1) := by decide +kernel
theorem dX3_snippet_18 : decode cX3_snippet 18 = .ok (.iload_n 3, 1) := by decide +kernel
theorem dX3_snippet_19 : decode cX3_snippet 19 = .ok (.aload_n 0, 1) := by decide +kernel
theorem dX3_snippet_20 : decode cX3_snippet 20 = .ok (.getfield 20, 3) := by decide +kernel
theorem dX3_snippet_23 : decode cX3_snippet 23 = .ok (.iload_n 3, 1) := by decide +kernel
theorem dX3_snippet_24 : decode cX3_snippet 24 = .ok (.laload, 1) := by decide +kernel
theorem dX3_snippet_25 : decode cX3_snippet 25 = .ok (.l2i, 1) := by decide +kernel
theorem dX3_snippet_26 : decode cX3_snippet 26 = .ok (.iastore, 1) := by decide +kernel
theorem dX3_snippet_27 : decode cX3_snippet 27 = .ok (.iinc 3 1, 3) := by decide +kernel
theorem dX3_snippet_30 : decode cX3_snippet 30 = .ok (.goto (-21), 3) := by decide +kernel
theorem dX3_snippet_33 : decode cX3_snippet 33 = .ok (.new 90, 3) := by decide +kernel
theorem dX3_snippet_36 : decode cX3_snippet 36 = .ok (.dup, 1) := by decide +kernel
theorem dX3_snippet_37 : decode cX3_snippet 37 = .ok (.aload_n 0, 1) := by decide +kernel
theorem dX3_snippet_38 : decode cX3_snippet 38 = .ok (.getfield 77, 3) := by decide +kernel
theorem dX3_snippet_41 : decode cX3_snippet 41 = .ok (.aload_n 0, 1) := by decide +kernel
theorem dX3_snippet_42 : decode cX3_snippet 42 = .ok (.getfield 35, 3) := by decide +kernel
theorem dX3_snippet_45 : decode cX3_snippet 45 = .ok (.l2i, 1) := by decide +kernel
theorem dX3_snippet_46 : decode cX3_snippet 46 = .ok (.aload_n 2, 1) := by decide +kernel
theorem dX3_snippet_47 : decode cX3_snippet 47 = .ok (.aload_n 1, 1) := by decide +kernel
theorem dX3_snippet_48 : decode cX3_snippet 48 = .ok (.aload_n 0, 1) := by decide +kernel
theorem dX3_snippet_49 : decode cX3_snippet 49 = .ok (.getfield 14, 3) := by decide +kernel
theorem dX3_snippet_52 : decode cX3_snippet 52 = .ok (.invokevirtual 92, 3) := by decide +kernel
theorem dX3_snippet_55 : decode cX3_snippet 55 = .ok (.invokespecial 96, 3) := by decide +kernel
theorem dX3_snippet_58 : decode cX3_snippet 58 = .ok (.areturn, 1) := by decide +kernel
theorem dX3_readAlone_0 : decode cX3_readAlone 0 = .ok (.aload_n 0, 1) := by decide +kernel
theorem dX3_readAlone_1 : decode cX3_readAlone 1 = .ok (.iconst 0, 1) := by decide +kernel
theorem dX3_readAlone_2 : decode cX3_readAlone 2 = .ok (.putfield 77, 3) := by decide +kernel
theorem dX3_readAlone_5 : decode cX3_readAlone 5 = .ok (.aload_n 0, 1) := by decide +kernel
theorem dX3_readAlone_6 : decode cX3_readAlone 6 = .ok (.invokevirtual 99, 3) := by decide +kernel
theorem dX3_readAlone_9 : decode cX3_readAlone 9 = .ok (.return_, 1) := by decide +kernel
theorem dX3_readVariable_0 : decode cX3_readVariable 0 = .ok (.aload_n 0, 1) := by decide +kernel
theorem dX3_readVariable_1 : decode cX3_readVariable 1 = .ok (.iconst 1, 1) := by decide +kernel
theorem dX3_readVariable_2 : decode cX3_readVariable 2 = .ok (.putfield 77, 3) := by decide +kernel
theorem dX3_readVariable_5 : decode cX3_readVariable 5 = .ok (.aload_n 0, 1) := by decide +kernel
theorem dX3_readVariable_6 : decode cX3_readVariable 6 = .ok (.dup, 1) := by decide +kernel
theorem dX3_readVariable_7 : decode cX3_readVariable 7 = .ok (.getfield 39, 3) := by decide +kernel
theorem dX3_readVariable_10 : decode cX3_readVariable 10 = .ok (.iconst 1, 1) := by decide +kernel
theorem dX3_readVariable_11 : decode cX3_readVariable 11 = .ok (.iadd, 1) := by decide +kernel
theorem dX3_readVariable_12 : decode cX3_readVariable 12 = .ok (.putfield 39, 3) := by decide +kernel
theorem dX3_readVariable_15 : decode cX3_readVariable 15 = .ok (.aload_n 0, 1) := by decide +kernel
theorem dX3_readVariable_16 : decode cX3_readVariable 16 = .ok (.aload_n 0, 1) := by decide +kernel
theorem dX3_readVariable_17 : decode cX3_readVariable 17 = .ok (.invokevirtual 102, 3) := by decide +kernel
theorem dX3_readVariable_20 : decode cX3_readVariable 20 = .ok (.putfield 35, 3) := by decide +kernel
theorem dX3_readVariable_23 : decode cX3_readVariable 23 = .ok (.aload_n 0, 1) := by decide +kernel
theorem dX3_readVariable_24 : decode cX3_readVariable 24 = .ok (.bipush 61, 2) := by decide +kernel
theorem dX3_readVariable_26 : decode cX3_readVariable 26 = .ok (.invokevirtual 66, 3) := by decide +kernel
theorem dX3_readVariable_29 : decode cX3_readVariable 29 = .ok (.ifCond .eq 20, 3) := by decide +kernel
theorem dX3_readVariable_32 : decode cX3_readVariable 32 = .ok (.aload_n 0, 1) := by decide +kernel
theorem dX3_readVariable_33 : decode cX3_readVariable 33 = .ok (.dup, 1) := by decide +kernel
theorem dX3_readVariable_34 : decode cX3_readVariable 34 = .ok (.getfield 39, 3) := by decide +kernel
theorem dX3_readVariable_37 : decode cX3_readVariable 37 = .ok (.iconst 1, 1) := by decide +kernel
theorem dX3_readVariable_38 : decode cX3_readVariable 38 = .ok (.iadd, 1) := by decide +kernel
theorem dX3_readVariable_39 : decode cX3_readVariable 39 = .ok (.putfield 39, 3) := by decide +kernel
theorem dX3_readVariable_42 : decode cX3_readVariable 42 = .ok (.aload_n 0, 1) := by decide +kernel
theorem dX3_readVariable_43 : decode cX3_readVariable 43 = .ok (.invokevirtual 99, 3) := by decide +kernel
theorem dX3_readVariable_46 : decode cX3_readVariable 46 = .ok (.goto 13, 3) := by decide +kernel
theorem dX3_readVariable_49 : decode cX3_readVariable 49 = .ok (.aload_n 0, 1) := by decide +kernel
theorem dX3_readVariable_50 : decode cX3_readVariable 50 = .ok (.getfield 14, 3) := by decide +kernel
theorem dX3_readVariable_53 : decode cX3_readVariable 53 = .ok (.bipush 7, 2) := by decide +kernel
theorem dX3_readVariable_55 : decode cX3_readVariable 55 = .ok (.iconst 0, 1) := by decide +kernel
theorem dX3_readVariable_56 : decode cX3_readVariable 56 = .ok (.invokevirtual 73, 3) := by decide +kernel
theorem dX3_readVariable_59 : decode cX3_readVariable 59 = .ok (.return_, 1) := by decide +kernel
theorem dX3_readMember_0 : decode cX3_readMember 0 = .ok (.aload_n 0, 1) := by decide +kernel
theorem dX3_readMember_1 : decode cX3_readMember 1 = .ok (.iconst 2, 1) := by decide +kernel
theorem dX3_readMember_2 : decode cX3_readMember 2 = .ok (.putfield 77, 3) := by decide +kernel
theorem dX3_readMember_5 : decode cX3_readMember 5 = .ok (.aload_n 0, 1) := by decide +kernel
theorem dX3_readMember_6 : decode cX3_readMember 6 = .ok (.dup, 1) := by decide +kernel
theorem dX3_readMember_7 : decode cX3_readMember 7 = .ok (.getfield 39, 3) := by decide +kernel
theorem dX3_readMember_10 : decode cX3_readMember 10 = .ok (.iconst 1, 1) := by decide +kernel
theorem dX3_readMember_11 : decode cX3_readMember 11 = .ok (.iadd, 1) := by decide +kernel
theorem dX3_readMember_12 : decode cX3_readMember 12 = .ok (.putfield 39, 3) := by decide +kernel
theorem dX3_readMember_15 : decode cX3_readMember 15 = .ok (.aload_n 0, 1) := by decide +kernel
theorem dX3_readMember_16 : decode cX3_readMember 16 = .ok (.aload_n 0, 1) := by decide +kernel
theorem dX3_readMember_17 : decode cX3_readMember 17 = .ok (.invokevirtual 102, 3) := by decide +kernel
theorem dX3_readMember_20 : decode cX3_readMember 20 = .ok (.putfield 35, 3) := by decide +kernel
theorem dX3_readMember_23 : decode cX3_readMember 23 = .ok (.aload_n 0, 1) := by decide +kernel
theorem dX3_readMember_24 : decode cX3_readMember 24 = .ok (.bipush 40, 2) := by decide +kernel
theorem dX3_readMember_26 : decode cX3_readMember 26 = .ok (.invokevirtual 106, 3) := by decide +kernel
theorem dX3_readMember_29 : decode cX3_readMember 29 = .ok (.aload_n 0, 1) := by decide +kernel
theorem dX3_readMember_30 : decode cX3_readMember 30 = .ok (.bipush 41, 2) := by decide +kernel
theorem dX3_readMember_32 : decode cX3_readMember 32 = .ok (.invokevirtual 66, 3) := by decide +kernel
theorem dX3_readMember_35 : decode cX3_readMember 35 = .ok (.ifCond .ne 7, 3) := by decide +kernel
theorem dX3_readMember_38 : decode cX3_readMember 38 = .ok (.aload_n 0, 1) := by decide +kernel
theorem dX3_readMember_39 : decode cX3_readMember 39 = .ok (.invokevirtual 109, 3) := by decide +kernel
theorem dX3_readMember_42 : decode cX3_readMember 42 = .ok (.aload_n 0, 1) := by decide +kernel
theorem dX3_readMember_43 : decode cX3_readMember 43 = .ok (.bipush 41, 2) := by decide +kernel
theorem dX3_readMember_45 : decode cX3_readMember 45 = .ok (.invokevirtual 106, 3) := by decide +kernel
theorem dX3_readMember_48 : decode cX3_readMember 48 = .ok (.aload_n 0, 1) := by decide +kernel
theorem dX3_readMember_49 : decode cX3_readMember 49 = .ok (.bipush 61, 2) := by decide +kernel
theorem dX3_readMember_51 : decode cX3_readMember 51 = .ok (.invokevirtual 106, 3) := by decide +kernel
theorem dX3_readMember_54 : decode cX3_readMember 54 = .ok (.aload_n 0, 1) := by decide +kernel
theorem dX3_readMember_55 : decode cX3_readMember 55 = .ok (.invokevirtual 99, 3) := by decide +kernel
theorem dX3_readMember_58 : decode cX3_readMember 58 = .ok (.return_, 1) := by decide +kernel
theorem dX3_readType_0 : decode cX3_readType 0 = .ok (.aload_n 0, 1) := by decide +kernel
theorem dX3_readType_1 : decode cX3_readType 1 = .ok (.iconst 3, 1) := by decide +kernel
theorem dX3_readType_2 : decode cX3_readType 2 = .ok (.putfield 77, 3) := by decide +kernel
theorem dX3_readType_5 : decode cX3_readType 5 = .ok (.aload_n 0, 1) := by decide +kernel
theorem dX3_readType_6 : decode cX3_readType 6 = .ok (.dup, 1) := by decide +kernel
theorem dX3_readType_7 : decode cX3_readType 7 = .ok (.getfield 39, 3) := by decide +kernel
theorem dX3_readType_10 : decode cX3_readType 10 = .ok (.iconst 1, 1) := by decide +kernel
theorem dX3_readType_11 : decode cX3_readType 11 = .ok (.iadd, 1) := by decide +kernel
theorem dX3_readType_12 : decode cX3_readType 12 = .ok (.putfield 39, 3) := by decide +kernel
theorem dX3_readType_15 : decode cX3_readType 15 = .ok (.aload_n 0, 1) := by decide +kernel
theorem dX3_readType_16 : decode cX3_readType 16 = .ok (.aload_n 0, 1) := by decide +kernel
theorem dX3_readType_17 : decode cX3_readType 17 = .ok (.invokevirtual 102, 3) := by decide +kernel
theorem dX3_readType_20 : decode cX3_readType 20 = .ok (.putfield 35, 3) := by decide +kernel
theorem dX3_readType_23 : decode cX3_readType 23 = .ok (.aload_n 0, 1) := by decide +kernel
theorem dX3_readType_24 : decode cX3_readType 24 = .ok (.bipush 40, 2) := by decide +kernel
theorem dX3_readType_26 : decode cX3_readType 26 = .ok (.invokevirtual 106, 3) := by decide +kernel
theorem dX3_readType_29 : decode cX3_readType 29 = .ok (.aload_n 0, 1) := by decide +kernel
theorem dX3_readType_30 : decode cX3_readType 30 = .ok (.invokevirtual 109, 3) := by decide +kernel
theorem dX3_readType_33 : decode cX3_readType 33 = .ok (.aload_n 0, 1) := by decide +kernel
theorem dX3_readType_34 : decode cX3_readType 34 = .ok (.bipush 41, 2) := by decide +kernel
theorem dX3_readType_36 : decode cX3_readType 36 = .ok (.invokevirtual 106, 3) := by decide +kernel
theorem dX3_readType_39 : decode cX3_readType 39 = .ok (.return_, 1) := by decide +kernel
theorem dX3_readParts_0 : decode cX3_readParts 0 = .ok (.aload_n 0, 1) := by decide +kernel
theorem dX3_readParts_1 : decode cX3_readParts 1 = .ok (.invokevirtual 112, 3) := by decide +kernel
theorem dX3_readParts_4 : decode cX3_readParts 4 = .ok (.iconst 1, 1) := by decide +kernel
theorem dX3_readParts_5 : decode cX3_readParts 5 = .ok (.istore_n 1, 1) := by decide +kernel
theorem dX3_readParts_6 : decode cX3_readParts 6 = .ok (.iload_n 1, 1) := by decide +kernel
theorem dX3_readParts_7 : decode cX3_readParts 7 = .ok (.iconst 3, 1) := by decide +kernel
theorem dX3_readParts_8 : decode cX3_readParts 8 = .ok (.if_icmp .ge 32, 3) := by decide +kernel
theorem dX3_readParts_11 : decode cX3_readParts 11 = .ok (.aload_n 0, 1) := by decide +kernel
theorem dX3_readParts_12 : decode cX3_readParts 12 = .ok (.bipush 44, 2) := by decide +kernel
theorem dX3_readParts_14 : decode cX3_readParts 14 = .ok (.invokevirtual 66, 3) := by decide +kernel
theorem dX3_readParts_17 : decode cX3_readParts 17 = .ok (.ifCond .eq 23, 3) := by decide +kernel
theorem dX3_readParts_20 : decode cX3_readParts 20 = .ok (.aload_n 0, 1) := by decide +kernel
theorem dX3_readParts_21 : decode cX3_readParts 21 = .ok (.dup, 1) := by decide +kernel
theorem dX3_readParts_22 : decode cX3_readParts 22 = .ok (.getfield 39, 3) := by decide +kernel
theorem dX3_readParts_25 : decode cX3_readParts 25 = .ok (.iconst 1, 1) := by decide +kernel
theorem dX3_readParts_26 : decode cX3_readParts 26 = .ok (.iadd, 1) := by decide +kernel
theorem dX3_readParts_27 : decode cX3_readParts 27 = .ok (.putfield 39, 3) := by decide +kernel
theorem dX3_readParts_30 : decode cX3_readParts 30 = .ok (.aload_n 0, 1) := by decide +kernel
theorem dX3_readParts_31 : decode cX3_readParts 31 = .ok (.invokevirtual 112, 3) := by decide +kernel
theorem dX3_readParts_34 : decode cX3_readParts 34 = .ok (.iinc 1 1, 3) := by decide +kernel
theorem dX3_readParts_37 : decode cX3_readParts 37 = .ok (.goto (-31), 3) := by decide +kernel
theorem dX3_readParts_40 : decode cX3_readParts 40 = .ok (.return_, 1) := by decide +kernel
theorem dX3_readPart_0 : decode cX3_readPart 0 = .ok (.aload_n 0, 1) := by decide +kernel
theorem dX3_readPart_1 : decode cX3_readPart 1 = .ok (.bipush 97, 2) := by decide +kernel
theorem dX3_readPart_3 : decode cX3_readPart 3 = .ok (.invokevirtual 66, 3) := by decide +kernel
theorem dX3_readPart_6 : decode cX3_readPart 6 = .ok (.ifCond .eq 29, 3) := by decide +kernel
theorem dX3_readPart_9 : decode cX3_readPart 9 = .ok (.aload_n 0, 1) := by decide +kernel
theorem dX3_readPart_10 : decode cX3_readPart 10 = .ok (.aload_n 0, 1) := by decide +kernel
theorem dX3_readPart_11 : decode cX3_readPart 11 = .ok (.getfield 24, 3) := by decide +kernel
theorem dX3_readPart_14 : decode cX3_readPart 14 = .ok (.aload_n 0, 1) := by decide +kernel
theorem dX3_readPart_15 : decode cX3_readPart 15 = .ok (.getfield 39, 3) := by decide +kernel
theorem dX3_readPart_18 : decode cX3_readPart 18 = .ok (.invokevirtual 115, 3) := by decide +kernel
theorem dX3_readPart_21 : decode cX3_readPart 21 = .ok (.invokevirtual 119, 3) := by decide +kernel
theorem dX3_readPart_24 : decode cX3_readPart 24 = .ok (.ifCond .ge 11, 3) := by decide +kernel
theorem dX3_readPart_27 : decode cX3_readPart 27 = .ok (.aload_n 0, 1) := by decide +kernel
theorem dX3_readPart_28 : decode cX3_readPart 28 = .ok (.getfield 31, 3) := by decide +kernel
theorem dX3_readPart_31 : decode cX3_readPart 31 = .ok (.iconst 3, 1) := by decide +kernel
theorem dX3_readPart_32 : decode cX3_readPart 32 = .ok (.if_icmp .lt 8, 3) := by decide +kernel
theorem dX3_readPart_35 : decode cX3_readPart 35 = .ok (.aload_n 0, 1) := by decide +kernel
theorem dX3_readPart_36 : decode cX3_readPart 36 = .ok (.invokevirtual 70, 3) := by decide +kernel
theorem dX3_readPart_39 : decode cX3_readPart 39 = .ok (.return_, 1) := by decide +kernel
theorem dX3_readPart_40 : decode cX3_readPart 40 = .ok (.aload_n 0, 1) := by decide +kernel
theorem dX3_readPart_41 : decode cX3_readPart 41 = .ok (.getfield 20, 3) := by decide +kernel
theorem dX3_readPart_44 : decode cX3_readPart 44 = .ok (.aload_n 0, 1) := by decide +kernel
theorem dX3_readPart_45 : decode cX3_readPart 45 = .ok (.getfield 31, 3) := by decide +kernel
theorem dX3_readPart_48 : decode cX3_readPart 48 = .ok (.aload_n 0, 1) := by decide +kernel
theorem dX3_readPart_49 : decode cX3_readPart 49 = .ok (.getfield 24, 3) := by decide +kernel
theorem dX3_readPart_52 : decode cX3_readPart 52 = .ok (.aload_n 0, 1) := by decide +kernel
theorem dX3_readPart_53 : decode cX3_readPart 53 = .ok (.getfield 39, 3) := by decide +kernel
theorem dX3_readPart_56 : decode cX3_readPart 56 = .ok (.invokevirtual 115, 3) := by decide +kernel
theorem dX3_readPart_59 : decode cX3_readPart 59 = .ok (.lastore, 1) := by decide +kernel
theorem dX3_readPart_60 : decode cX3_readPart 60 = .ok (.aload_n 0, 1) := by decide +kernel
theorem dX3_readPart_61 : decode cX3_readPart 61 = .ok (.dup, 1) := by decide +kernel
theorem dX3_readPart_62 : decode cX3_readPart 62 = .ok (.getfield 31, 3) := by decide +kernel
theorem dX3_readPart_65 : decode cX3_readPart 65 = .ok (.iconst 1, 1) := by decide +kernel
theorem dX3_readPart_66 : decode cX3_readPart 66 = .ok (.iadd, 1) := by decide +kernel
theorem dX3_readPart_67 : decode cX3_readPart 67 = .ok (.putfield 31, 3) := by decide +kernel
theorem dX3_readPart_70 : decode cX3_readPart 70 = .ok (.aload_n 0, 1) := by decide +kernel
theorem dX3_readPart_71 : decode cX3_readPart 71 = .ok (.dup, 1) := by decide +kernel
theorem dX3_readPart_72 : decode cX3_readPart 72 = .ok (.getfield 39, 3) := by decide +kernel
theorem dX3_readPart_75 : decode cX3_readPart 75 = .ok (.iconst 1, 1) := by decide +kernel
theorem dX3_readPart_76 : decode cX3_readPart 76 = .ok (.iadd, 1) := by decide +kernel
theorem dX3_readPart_77 : decode cX3_readPart 77 = .ok (.putfield 39, 3) := by decide +kernel
theorem dX3_readPart_80 : decode cX3_readPart 80 = .ok (.return_, 1) := by decide +kernel
theorem dX3_readExpr_0 : decode cX3_readExpr 0 = .ok (.aload_n 0, 1) := by decide +kernel
theorem dX3_readExpr_1 : decode cX3_readExpr 1 = .ok (.getfield 14, 3) := by decide +kernel
theorem dX3_readExpr_4 : decode cX3_readExpr 4 = .ok (.invokevirtual 122, 3) := by decide +kernel
theorem dX3_readExpr_7 : decode cX3_readExpr 7 = .ok (.istore_n 1, 1) := by decide +kernel
theorem dX3_readExpr_8 : decode cX3_readExpr 8 = .ok (.aload_n 0, 1) := by decide +kernel
theorem dX3_readExpr_9 : decode cX3_readExpr 9 = .ok (.iconst 0, 1) := by decide +kernel
theorem dX3_readExpr_10 : decode cX3_readExpr 10 = .ok (.invokevirtual 126, 3) := by decide +kernel
theorem dX3_readExpr_13 : decode cX3_readExpr 13 = .ok (.aload_n 0, 1) := by decide +kernel
theorem dX3_readExpr_14 : decode cX3_readExpr 14 = .ok (.bipush 63, 2) := by decide +kernel
theorem dX3_readExpr_16 : decode cX3_readExpr 16 = .ok (.invokevirtual 66, 3) := by decide +kernel
theorem dX3_readExpr_19 : decode cX3_readExpr 19 = .ok (.ifCond .eq 8, 3) := by decide +kernel
theorem dX3_readExpr_22 : decode cX3_readExpr 22 = .ok (.aload_n 0, 1) := by decide +kernel
theorem dX3_readExpr_23 : decode cX3_readExpr 23 = .ok (.iload_n 1, 1) := by decide +kernel
theorem dX3_readExpr_24 : decode cX3_readExpr 24 = .ok (.invokevirtual 129, 3) := by decide +kernel
theorem dX3_readExpr_27 : decode cX3_readExpr 27 = .ok (.return_, 1) := by decide +kernel
theorem dX3_readChoice_0 : decode cX3_readChoice 0 = .ok (.aload_n 0, 1) := by decide +kernel
theorem dX3_readChoice_1 : decode cX3_readChoice 1 = .ok (.getfield 24, 3) := by decide +kernel
theorem dX3_readChoice_4 : decode cX3_readChoice 4 = .ok (.aload_n 0, 1) := by decide +kernel
theorem dX3_readChoice_5 : decode cX3_readChoice 5 = .ok (.getfield 39, 3) := by decide +kernel
theorem dX3_readChoice_8 : decode cX3_readChoice 8 = .ok (.invokevirtual 132, 3) := by decide +kernel
theorem dX3_readChoice_11 : decode cX3_readChoice 11 = .ok (.istore_n 2, 1) := by decide +kernel
theorem dX3_readChoice_12 : decode cX3_readChoice 12 = .ok (.aload_n 0, 1) := by decide +kernel
theorem dX3_readChoice_13 : decode cX3_readChoice 13 = .ok (.invokevirtual 135, 3) := by decide +kernel
theorem dX3_readChoice_16 : decode cX3_readChoice 16 = .ok (.ifCond .ne 4, 3) := by decide +kernel
theorem dX3_readChoice_19 : decode cX3_readChoice 19 = .ok (.return_, 1) := by decide +kernel
theorem dX3_readChoice_20 : decode cX3_readChoice 20 = .ok (.aload_n 0, 1) := by decide +kernel
theorem dX3_readChoice_21 : decode cX3_readChoice 21 = .ok (.getfield 14, 3) := by decide +kernel
theorem dX3_readChoice_24 : decode cX3_readChoice 24 = .ok (.iload_n 1, 1) := by decide +kernel
theorem dX3_readChoice_25 : decode cX3_readChoice 25 = .ok (.iload_n 2, 1) := by decide +kernel
theorem dX3_readChoice_26 : decode cX3_readChoice 26 = .ok (.invokevirtual 139, 3) := by decide +kernel
theorem dX3_readChoice_29 : decode cX3_readChoice 29 = .ok (.aload_n 0, 1) := by decide +kernel
theorem dX3_readChoice_30 : decode cX3_readChoice 30 = .ok (.getfield 14, 3) := by decide +kernel
theorem dX3_readChoice_33 : decode cX3_readChoice 33 = .ok (.invokevirtual 122, 3) := by decide +kernel
theorem dX3_readChoice_36 : decode cX3_readChoice 36 = .ok (.istore_n 3, 1) := by decide +kernel
theorem dX3_readChoice_37 : decode cX3_readChoice 37 = .ok (.aload_n 0, 1) := by decide +kernel
theorem dX3_readChoice_38 : decode cX3_readChoice 38 = .ok (.getfield 14, 3) := by decide +kernel
theorem dX3_readChoice_41 : decode cX3_readChoice 41 = .ok (.bipush 11, 2) := by decide +kernel
theorem dX3_readChoice_43 : decode cX3_readChoice 43 = .ok (.iload_n 2, 1) := by decide +kernel
theorem dX3_readChoice_44 : decode cX3_readChoice 44 = .ok (.invokevirtual 73, 3) := by decide +kernel
theorem dX3_readChoice_47 : decode cX3_readChoice 47 = .ok (.aload_n 0, 1) := by decide +kernel
theorem dX3_readChoice_48 : decode cX3_readChoice 48 = .ok (.invokevirtual 99, 3) := by decide +kernel
theorem dX3_readChoice_51 : decode cX3_readChoice 51 = .ok (.aload_n 0, 1) := by decide +kernel
theorem dX3_readChoice_52 : decode cX3_readChoice 52 = .ok (.bipush 58, 2) := by decide +kernel
theorem dX3_readChoice_54 : decode cX3_readChoice 54 = .ok (.invokevirtual 106, 3) := by decide +kernel
theorem dX3_readChoice_57 : decode cX3_readChoice 57 = .ok (.aload_n 0, 1) := by decide +kernel
theorem dX3_readChoice_58 : decode cX3_readChoice 58 = .ok (.getfield 14, 3) := by decide +kernel
theorem dX3_readChoice_61 : decode cX3_readChoice 61 = .ok (.invokevirtual 122, 3) := by decide +kernel
theorem dX3_readChoice_64 : decode cX3_readChoice 64 = .ok (.istore 4, 2) := by decide +kernel
theorem dX3_readChoice_66 : decode cX3_readChoice 66 = .ok (.aload_n 0, 1) := by decide +kernel
theorem dX3_readChoice_67 : decode cX3_readChoice 67 = .ok (.getfield 14, 3) := by decide +kernel
theorem dX3_readChoice_70 : decode cX3_readChoice 70 = .ok (.bipush 12, 2) := by decide +kernel
theorem dX3_readChoice_72 : decode cX3_readChoice 72 = .ok (.iload_n 2, 1) := by decide +kernel
theorem dX3_readChoice_73 : decode cX3_readChoice 73 = .ok (.invokevirtual 73, 3) := by decide +kernel
theorem dX3_readChoice_76 : decode cX3_readChoice 76 = .ok (.aload_n 0, 1) := by decide +kernel
theorem dX3_readChoice_77 : decode cX3_readChoice 77 = .ok (.getfield 14, 3) := by decide +kernel
theorem dX3_readChoice_80 : decode cX3_readChoice 80 = .ok (.iload_n 3, 1) := by decide +kernel
theorem dX3_readChoice_81 : decode cX3_readChoice 81 = .ok (.invokevirtual 142, 3) := by decide +kernel
theorem dX3_readChoice_84 : decode cX3_readChoice 84 = .ok (.aload_n 0, 1) := by decide +kernel
theorem dX3_readChoice_85 : decode cX3_readChoice 85 = .ok (.invokevirtual 99, 3) := by decide +kernel
theorem dX3_readChoice_88 : decode cX3_readChoice 88 = .ok (.aload_n 0, 1) := by decide +kernel
theorem dX3_readChoice_89 : decode cX3_readChoice 89 = .ok (.getfield 14, 3) := by decide +kernel
theorem dX3_readChoice_92 : decode cX3_readChoice 92 = .ok (.iload 4, 2) := by decide +kernel
theorem dX3_readChoice_94 : decode cX3_readChoice 94 = .ok (.invokevirtual 142, 3) := by decide +kernel
theorem dX3_readChoice_97 : decode cX3_readChoice 97 = .ok (.aload_n 0, 1) := by decide +kernel
theorem dX3_readChoice_98 : decode cX3_readChoice 98 = .ok (.dup, 1) := by decide +kernel
theorem dX3_readChoice_99 : decode cX3_readChoice 99 = .ok (.getfield 42, 3) := by decide +kernel
theorem dX3_readChoice_102 : decode cX3_readChoice 102 = .ok (.iconst 1, 1) := by decide +kernel
theorem dX3_readChoice_103 : decode cX3_readChoice 103 = .ok (.isub, 1) := by decide +kernel
theorem dX3_readChoice_104 : decode cX3_readChoice 104 = .ok (.putfield 42, 3) := by decide +kernel
theorem dX3_readChoice_107 : decode cX3_readChoice 107 = .ok (.return_, 1) := by decide +kernel
theorem dX3_readLevel_0 : decode cX3_readLevel 0 = .ok (.iload_n 1, 1) := by decide +kernel
theorem dX3_readLevel_1 : decode cX3_readLevel 1 = .ok (.iconst 3, 1) := by decide +kernel
theorem dX3_readLevel_2 : decode cX3_readLevel 2 = .ok (.if_icmp .lt 8, 3) := by decide +kernel
theorem dX3_readLevel_5 : decode cX3_readLevel 5 = .ok (.aload_n 0, 1) := by decide +kernel
theorem dX3_readLevel_6 : decode cX3_readLevel 6 = .ok (.invokevirtual 145, 3) := by decide +kernel
theorem dX3_readLevel_9 : decode cX3_readLevel 9 = .ok (.return_, 1) := by decide +kernel
theorem dX3_readLevel_10 : decode cX3_readLevel 10 = .ok (.aload_n 0, 1) := by decide +kernel
theorem dX3_readLevel_11 : decode cX3_readLevel 11 = .ok (.getfield 14, 3) := by decide +kernel
theorem dX3_readLevel_14 : decode cX3_readLevel 14 = .ok (.invokevirtual 122, 3) := by decide +kernel
theorem dX3_readLevel_17 : decode cX3_readLevel 17 = .ok (.istore_n 2, 1) := by decide +kernel
theorem dX3_readLevel_18 : decode cX3_readLevel 18 = .ok (.iload_n 1, 1) := by decide +kernel
theorem dX3_readLevel_19 : decode cX3_readLevel 19 = .ok (.ifCond .ne 7, 3) := by decide +kernel
theorem dX3_readLevel_22 : decode cX3_readLevel 22 = .ok (.iconst 1, 1) := by decide +kernel
theorem dX3_readLevel_23 : decode cX3_readLevel 23 = .ok (.goto 5, 3) := by decide +kernel
theorem dX3_readLevel_26 : decode cX3_readLevel 26 = .ok (.bipush 60, 2) := by decide +kernel
theorem dX3_readLevel_28 : decode cX3_readLevel 28 = .ok (.istore_n 3, 1) := by decide +kernel
theorem dX3_readLevel_29 : decode cX3_readLevel 29 = .ok (.aload_n 0, 1) := by decide +kernel
theorem dX3_readLevel_30 : decode cX3_readLevel 30 = .ok (.iload_n 1, 1) := by decide +kernel
theorem dX3_readLevel_31 : decode cX3_readLevel 31 = .ok (.iconst 1, 1) := by decide +kernel
theorem dX3_readLevel_32 : decode cX3_readLevel 32 = .ok (.iadd, 1) := by decide +kernel
theorem dX3_readLevel_33 : decode cX3_readLevel 33 = .ok (.invokevirtual 126, 3) := by decide +kernel
theorem dX3_readLevel_36 : decode cX3_readLevel 36 = .ok (.iconst 0, 1) := by decide +kernel
theorem dX3_readLevel_37 : decode cX3_readLevel 37 = .ok (.istore 4, 2) := by decide +kernel
theorem dX3_readLevel_39 : decode cX3_readLevel 39 = .ok (.iload 4, 2) := by decide +kernel
theorem dX3_readLevel_41 : decode cX3_readLevel 41 = .ok (.iload_n 3, 1) := by decide +kernel
theorem dX3_readLevel_42 : decode cX3_readLevel 42 = .ok (.if_icmp .ge 91, 3) := by decide +kernel
theorem dX3_readLevel_45 : decode cX3_readLevel 45 = .ok (.aload_n 0, 1) := by decide +kernel
theorem dX3_readLevel_46 : decode cX3_readLevel 46 = .ok (.getfield 24, 3) := by decide +kernel
theorem dX3_readLevel_49 : decode cX3_readLevel 49 = .ok (.aload_n 0, 1) := by decide +kernel
theorem dX3_readLevel_50 : decode cX3_readLevel 50 = .ok (.getfield 39, 3) := by decide +kernel
theorem dX3_readLevel_53 : decode cX3_readLevel 53 = .ok (.invokevirtual 48, 3) := by decide +kernel
theorem dX3_readLevel_56 : decode cX3_readLevel 56 = .ok (.invokestatic 148, 3) := by decide +kernel
theorem dX3_readLevel_59 : decode cX3_readLevel 59 = .ok (.iload_n 1, 1) := by decide +kernel
theorem dX3_readLevel_60 : decode cX3_readLevel 60 = .ok (.if_icmp .ne 73, 3) := by decide +kernel
theorem dX3_readLevel_63 : decode cX3_readLevel 63 = .ok (.aload_n 0, 1) := by decide +kernel
theorem dX3_readLevel_64 : decode cX3_readLevel 64 = .ok (.getfield 24, 3) := by decide +kernel
theorem dX3_readLevel_67 : decode cX3_readLevel 67 = .ok (.aload_n 0, 1) := by decide +kernel
theorem dX3_readLevel_68 : decode cX3_readLevel 68 = .ok (.getfield 39, 3) := by decide +kernel
theorem dX3_readLevel_71 : decode cX3_readLevel 71 = .ok (.invokevirtual 48, 3) := by decide +kernel
theorem dX3_readLevel_74 : decode cX3_readLevel 74 = .ok (.istore 5, 2) := by decide +kernel
theorem dX3_readLevel_76 : decode cX3_readLevel 76 = .ok (.aload_n 0, 1) := by decide +kernel
theorem dX3_readLevel_77 : decode cX3_readLevel 77 = .ok (.getfield 24, 3) := by decide +kernel
theorem dX3_readLevel_80 : decode cX3_readLevel 80 = .ok (.aload_n 0, 1) := by decide +kernel
theorem dX3_readLevel_81 : decode cX3_readLevel 81 = .ok (.getfield 39, 3) := by decide +kernel
theorem dX3_readLevel_84 : decode cX3_readLevel 84 = .ok (.invokevirtual 132, 3) := by decide +kernel
theorem dX3_readLevel_87 : decode cX3_readLevel 87 = .ok (.istore 6, 2) := by decide +kernel
theorem dX3_readLevel_89 : decode cX3_readLevel 89 = .ok (.aload_n 0, 1) := by decide +kernel
theorem dX3_readLevel_90 : decode cX3_readLevel 90 = .ok (.getfield 14, 3) := by decide +kernel
theorem dX3_readLevel_93 : decode cX3_readLevel 93 = .ok (.iload_n 2, 1) := by decide +kernel
theorem dX3_readLevel_94 : decode cX3_readLevel 94 = .ok (.iload 6, 2) := by decide +kernel
theorem dX3_readLevel_96 : decode cX3_readLevel 96 = .ok (.invokevirtual 139, 3) := by decide +kernel
theorem dX3_readLevel_99 : decode cX3_readLevel 99 = .ok (.aload_n 0, 1) := by decide +kernel
theorem dX3_readLevel_100 : decode cX3_readLevel 100 = .ok (.dup, 1) := by decide +kernel
theorem dX3_readLevel_101 : decode cX3_readLevel 101 = .ok (.getfield 39, 3) := by decide +kernel
theorem dX3_readLevel_104 : decode cX3_readLevel 104 = .ok (.iconst 1, 1) := by decide +kernel
theorem dX3_readLevel_105 : decode cX3_readLevel 105 = .ok (.iadd, 1) := by decide +kernel
theorem dX3_readLevel_106 : decode cX3_readLevel 106 = .ok (.putfield 39, 3) := by decide +kernel
theorem dX3_readLevel_109 : decode cX3_readLevel 109 = .ok (.aload_n 0, 1) := by decide +kernel
theorem dX3_readLevel_110 : decode cX3_readLevel 110 = .ok (.iload_n 1, 1) := by decide +kernel
theorem dX3_readLevel_111 : decode cX3_readLevel 111 = .ok (.iconst 1, 1) := by decide +kernel
theorem dX3_readLevel_112 : decode cX3_readLevel 112 = .ok (.iadd, 1) := by decide +kernel
theorem dX3_readLevel_113 : decode cX3_readLevel 113 = .ok (.invokevirtual 126, 3) := by decide +kernel
theorem dX3_readLevel_116 : decode cX3_readLevel 116 = .ok (.aload_n 0, 1) := by decide +kernel
theorem dX3_readLevel_117 : decode cX3_readLevel 117 = .ok (.getfield 14, 3) := by decide +kernel
theorem dX3_readLevel_120 : decode cX3_readLevel 120 = .ok (.iload 5, 2) := by decide +kernel
theorem dX3_readLevel_122 : decode cX3_readLevel 122 = .ok (.iload 6, 2) := by decide +kernel
theorem dX3_readLevel_124 : decode cX3_readLevel 124 = .ok (.invokevirtual 73, 3) := by decide +kernel
theorem dX3_readLevel_127 : decode cX3_readLevel 127 = .ok (.iinc 4 1, 3) := by decide +kernel
theorem dX3_readLevel_130 : decode cX3_readLevel 130 = .ok (.goto (-91), 3) := by decide +kernel
theorem dX3_readLevel_133 : decode cX3_readLevel 133 = .ok (.return_, 1) := by decide +kernel
theorem dX3_levelOf_0 : decode cX3_levelOf 0 = .ok (.iload_n 0, 1) := by decide +kernel
theorem dX3_levelOf_1 : decode cX3_levelOf 1 = .ok (.tableswitch 127 37 61 #[123, 127, 127, 127, 127, 123, 119, 127, 119, 127, 123, 127, 127, 127, 127, 127, 127, 127, 127, 127, 127, 127, 127, 115, 115], 115) := by decide +kernel
theorem dX3_levelOf_116 : decode cX3_levelOf 116 = .ok (.iconst 0, 1) := by decide +kernel
theorem dX3_levelOf_117 : decode cX3_levelOf 117 = .ok (.goto 13, 3) := by decide +kernel
theorem dX3_levelOf_120 : decode cX3_levelOf 120 = .ok (.iconst 1, 1) := by decide +kernel
theorem dX3_levelOf_121 : decode cX3_levelOf 121 = .ok (.goto 9, 3) := by decide +kernel
theorem dX3_levelOf_124 : decode cX3_levelOf 124 = .ok (.iconst 2, 1) := by decide +kernel
theorem dX3_levelOf_125 : decode cX3_levelOf 125 = .ok (.goto 5, 3) := by decide +kernel
theorem dX3_levelOf_128 : decode cX3_levelOf 128 = .ok (.bipush (-5), 2) := by decide +kernel
theorem dX3_levelOf_130 : decode cX3_levelOf 130 = .ok (.ireturn, 1) := by decide +kernel
theorem dX3_readFact_0 : decode cX3_readFact 0 = .ok (.aload_n 0, 1) := by decide +kernel
theorem dX3_readFact_1 : decode cX3_readFact 1 = .ok (.bipush 45, 2) := by decide +kernel
theorem dX3_readFact_3 : decode cX3_readFact 3 = .ok (.invokevirtual 66, 3) := by decide +kernel
theorem dX3_readFact_6 : decode cX3_readFact 6 = .ok (.ifCond .eq 8, 3) := by decide +kernel
theorem dX3_readFact_9 : decode cX3_readFact 9 = .ok (.aload_n 0, 1) := by decide +kernel
theorem dX3_readFact_10 : decode cX3_readFact 10 = .ok (.invokevirtual 151, 3) := by decide +kernel
theorem dX3_readFact_13 : decode cX3_readFact 13 = .ok (.return_, 1) := by decide +kernel
theorem dX3_readFact_14 : decode cX3_readFact 14 = .ok (.aload_n 0, 1) := by decide +kernel
theorem dX3_readFact_15 : decode cX3_readFact 15 = .ok (.getfield 14, 3) := by decide +kernel
theorem dX3_readFact_18 : decode cX3_readFact 18 = .ok (.invokevirtual 122, 3) := by decide +kernel
theorem dX3_readFact_21 : decode cX3_readFact 21 = .ok (.istore_n 1, 1) := by decide +kernel
theorem dX3_readFact_22 : decode cX3_readFact 22 = .ok (.aload_n 0, 1) := by decide +kernel
theorem dX3_readFact_23 : decode cX3_readFact 23 = .ok (.invokevirtual 154, 3) := by decide +kernel
theorem dX3_readFact_26 : decode cX3_readFact 26 = .ok (.iconst 0, 1) := by decide +kernel
theorem dX3_readFact_27 : decode cX3_readFact 27 = .ok (.istore_n 2, 1) := by decide +kernel
theorem dX3_readFact_28 : decode cX3_readFact 28 = .ok (.iload_n 2, 1) := by decide +kernel
theorem dX3_readFact_29 : decode cX3_readFact 29 = .ok (.bipush 60, 2) := by decide +kernel
theorem dX3_readFact_31 : decode cX3_readFact 31 = .ok (.if_icmp .ge 68, 3) := by decide +kernel
theorem dX3_readFact_34 : decode cX3_readFact 34 = .ok (.aload_n 0, 1) := by decide +kernel
theorem dX3_readFact_35 : decode cX3_readFact 35 = .ok (.bipush 46, 2) := by decide +kernel
theorem dX3_readFact_37 : decode cX3_readFact 37 = .ok (.invokevirtual 66, 3) := by decide +kernel
theorem dX3_readFact_40 : decode cX3_readFact 40 = .ok (.ifCond .eq 59, 3) := by decide +kernel
theorem dX3_readFact_43 : decode cX3_readFact 43 = .ok (.aload_n 0, 1) := by decide +kernel
theorem dX3_readFact_44 : decode cX3_readFact 44 = .ok (.getfield 24, 3) := by decide +kernel
theorem dX3_readFact_47 : decode cX3_readFact 47 = .ok (.aload_n 0, 1) := by decide +kernel
theorem dX3_readFact_48 : decode cX3_readFact 48 = .ok (.getfield 39, 3) := by decide +kernel
theorem dX3_readFact_51 : decode cX3_readFact 51 = .ok (.invokevirtual 132, 3) := by decide +kernel
theorem dX3_readFact_54 : decode cX3_readFact 54 = .ok (.istore_n 3, 1) := by decide +kernel
theorem dX3_readFact_55 : decode cX3_readFact 55 = .ok (.aload_n 0, 1) := by decide +kernel
theorem dX3_readFact_56 : decode cX3_readFact 56 = .ok (.getfield 14, 3) := by decide +kernel
theorem dX3_readFact_59 : decode cX3_readFact 59 = .ok (.iload_n 1, 1) := by decide +kernel
theorem dX3_readFact_60 : decode cX3_readFact 60 = .ok (.iload_n 3, 1) := by decide +kernel
theorem dX3_readFact_61 : decode cX3_readFact 61 = .ok (.invokevirtual 139, 3) := by decide +kernel
theorem dX3_readFact_64 : decode cX3_readFact 64 = .ok (.aload_n 0, 1) := by decide +kernel
theorem dX3_readFact_65 : decode cX3_readFact 65 = .ok (.dup, 1) := by decide +kernel
theorem dX3_readFact_66 : decode cX3_readFact 66 = .ok (.getfield 39, 3) := by decide +kernel
theorem dX3_readFact_69 : decode cX3_readFact 69 = .ok (.iconst 1, 1) := by decide +kernel
theorem dX3_readFact_70 : decode cX3_readFact 70 = .ok (.iadd, 1) := by decide +kernel
theorem dX3_readFact_71 : decode cX3_readFact 71 = .ok (.putfield 39, 3) := by decide +kernel
theorem dX3_readFact_74 : decode cX3_readFact 74 = .ok (.aload_n 0, 1) := by decide +kernel
theorem dX3_readFact_75 : decode cX3_readFact 75 = .ok (.invokevirtual 102, 3) := by decide +kernel
theorem dX3_readFact_78 : decode cX3_readFact 78 = .ok (.lstore 4, 2) := by decide +kernel
theorem dX3_readFact_80 : decode cX3_readFact 80 = .ok (.aload_n 0, 1) := by decide +kernel
theorem dX3_readFact_81 : decode cX3_readFact 81 = .ok (.getfield 14, 3) := by decide +kernel
theorem dX3_readFact_84 : decode cX3_readFact 84 = .ok (.bipush 9, 2) := by decide +kernel
theorem dX3_readFact_86 : decode cX3_readFact 86 = .ok (.iload_n 3, 1) := by decide +kernel
theorem dX3_readFact_87 : decode cX3_readFact 87 = .ok (.iconst 0, 1) := by decide +kernel
theorem dX3_readFact_88 : decode cX3_readFact 88 = .ok (.lload 4, 2) := by decide +kernel
theorem dX3_readFact_90 : decode cX3_readFact 90 = .ok (.invokevirtual 157, 3) := by decide +kernel
theorem dX3_readFact_93 : decode cX3_readFact 93 = .ok (.iinc 2 1, 3) := by decide +kernel
theorem dX3_readFact_96 : decode cX3_readFact 96 = .ok (.goto (-68), 3) := by decide +kernel
theorem dX3_readFact_99 : decode cX3_readFact 99 = .ok (.return_, 1) := by decide +kernel
theorem dX3_readNegation_0 : decode cX3_readNegation 0 = .ok (.aload_n 0, 1) := by decide +kernel
theorem dX3_readNegation_1 : decode cX3_readNegation 1 = .ok (.getfield 24, 3) := by decide +kernel
theorem dX3_readNegation_4 : decode cX3_readNegation 4 = .ok (.aload_n 0, 1) := by decide +kernel
theorem dX3_readNegation_5 : decode cX3_readNegation 5 = .ok (.getfield 39, 3) := by decide +kernel
theorem dX3_readNegation_8 : decode cX3_readNegation 8 = .ok (.invokevirtual 132, 3) := by decide +kernel
theorem dX3_readNegation_11 : decode cX3_readNegation 11 = .ok (.istore_n 1, 1) := by decide +kernel
theorem dX3_readNegation_12 : decode cX3_readNegation 12 = .ok (.aload_n 0, 1) := by decide +kernel
theorem dX3_readNegation_13 : decode cX3_readNegation 13 = .ok (.invokevirtual 135, 3) := by decide +kernel
theorem dX3_readNegation_16 : decode cX3_readNegation 16 = .ok (.ifCond .eq 36, 3) := by decide +kernel
theorem dX3_readNegation_19 : decode cX3_readNegation 19 = .ok (.aload_n 0, 1) := by decide +kernel
theorem dX3_readNegation_20 : decode cX3_readNegation 20 = .ok (.getfield 14, 3) := by decide +kernel
theorem dX3_readNegation_23 : decode cX3_readNegation 23 = .ok (.iconst 1, 1) := by decide +kernel
theorem dX3_readNegation_24 : decode cX3_readNegation 24 = .ok (.iload_n 1, 1) := by decide +kernel
theorem dX3_readNegation_25 : decode cX3_readNegation 25 = .ok (.invokevirtual 73, 3) := by decide +kernel
theorem dX3_readNegation_28 : decode cX3_readNegation 28 = .ok (.aload_n 0, 1) := by decide +kernel
theorem dX3_readNegation_29 : decode cX3_readNegation 29 = .ok (.invokevirtual 145, 3) := by decide +kernel
theorem dX3_readNegation_32 : decode cX3_readNegation 32 = .ok (.aload_n 0, 1) := by decide +kernel
theorem dX3_readNegation_33 : decode cX3_readNegation 33 = .ok (.getfield 14, 3) := by decide +kernel
theorem dX3_readNegation_36 : decode cX3_readNegation 36 = .ok (.bipush 10, 2) := by decide +kernel
theorem dX3_readNegation_38 : decode cX3_readNegation 38 = .ok (.iload_n 1, 1) := by decide +kernel
theorem dX3_readNegation_39 : decode cX3_readNegation 39 = .ok (.invokevirtual 73, 3) := by decide +kernel
theorem dX3_readNegation_42 : decode cX3_readNegation 42 = .ok (.aload_n 0, 1) := by decide +kernel
theorem dX3_readNegation_43 : decode cX3_readNegation 43 = .ok (.dup, 1) := by decide +kernel
theorem dX3_readNegation_44 : decode cX3_readNegation 44 = .ok (.getfield 42, 3) := by decide +kernel
theorem dX3_readNegation_47 : decode cX3_readNegation 47 = .ok (.iconst 1, 1) := by decide +kernel
theorem dX3_readNegation_48 : decode cX3_readNegation 48 = .ok (.isub, 1) := by decide +kernel
theorem dX3_readNegation_49 : decode cX3_readNegation 49 = .ok (.putfield 42, 3) := by decide +kernel
theorem dX3_readNegation_52 : decode cX3_readNegation 52 = .ok (.return_, 1) := by decide +kernel
theorem dX3_readAtom_0 : decode cX3_readAtom 0 = .ok (.aload_n 0, 1) := by decide +kernel
theorem dX3_readAtom_1 : decode cX3_readAtom 1 = .ok (.getfield 24, 3) := by decide +kernel
theorem dX3_readAtom_4 : decode cX3_readAtom 4 = .ok (.aload_n 0, 1) := by decide +kernel
theorem dX3_readAtom_5 : decode cX3_readAtom 5 = .ok (.getfield 39, 3) := by decide +kernel
theorem dX3_readAtom_8 : decode cX3_readAtom 8 = .ok (.invokevirtual 132, 3) := by decide +kernel
theorem dX3_readAtom_11 : decode cX3_readAtom 11 = .ok (.istore_n 1, 1) := by decide +kernel
theorem dX3_readAtom_12 : decode cX3_readAtom 12 = .ok (.aload_n 0, 1) := by decide +kernel
theorem dX3_readAtom_13 : decode cX3_readAtom 13 = .ok (.getfield 24, 3) := by decide +kernel
theorem dX3_readAtom_16 : decode cX3_readAtom 16 = .ok (.aload_n 0, 1) := by decide +kernel
theorem dX3_readAtom_17 : decode cX3_readAtom 17 = .ok (.getfield 39, 3) := by decide +kernel
theorem dX3_readAtom_20 : decode cX3_readAtom 20 = .ok (.invokevirtual 115, 3) := by decide +kernel
theorem dX3_readAtom_23 : decode cX3_readAtom 23 = .ok (.lstore_n 2, 1) := by decide +kernel
theorem dX3_readAtom_24 : decode cX3_readAtom 24 = .ok (.aload_n 0, 1) := by decide +kernel
theorem dX3_readAtom_25 : decode cX3_readAtom 25 = .ok (.getfield 24, 3) := by decide +kernel
theorem dX3_readAtom_28 : decode cX3_readAtom 28 = .ok (.aload_n 0, 1) := by decide +kernel
theorem dX3_readAtom_29 : decode cX3_readAtom 29 = .ok (.getfield 39, 3) := by decide +kernel
theorem dX3_readAtom_32 : decode cX3_readAtom 32 = .ok (.invokevirtual 48, 3) := by decide +kernel
theorem dX3_readAtom_35 : decode cX3_readAtom 35 = .ok (.lookupswitch 116 #[(36, 65), (40, 109), (48, 41), (97, 90)], 41) := by decide +kernel
theorem dX3_readAtom_76 : decode cX3_readAtom 76 = .ok (.aload_n 0, 1) := by decide +kernel
theorem dX3_readAtom_77 : decode cX3_readAtom 77 = .ok (.getfield 14, 3) := by decide +kernel
theorem dX3_readAtom_80 : decode cX3_readAtom 80 = .ok (.iconst 2, 1) := by decide +kernel
theorem dX3_readAtom_81 : decode cX3_readAtom 81 = .ok (.iload_n 1, 1) := by decide +kernel
theorem dX3_readAtom_82 : decode cX3_readAtom 82 = .ok (.iconst 0, 1) := by decide +kernel
theorem dX3_readAtom_83 : decode cX3_readAtom 83 = .ok (.lload_n 2, 1) := by decide +kernel
theorem dX3_readAtom_84 : decode cX3_readAtom 84 = .ok (.invokevirtual 157, 3) := by decide +kernel
theorem dX3_readAtom_87 : decode cX3_readAtom 87 = .ok (.aload_n 0, 1) := by decide +kernel
theorem dX3_readAtom_88 : decode cX3_readAtom 88 = .ok (.dup, 1) := by decide +kernel
theorem dX3_readAtom_89 : decode cX3_readAtom 89 = .ok (.getfield 39, 3) := by decide +kernel
theorem dX3_readAtom_92 : decode cX3_readAtom 92 = .ok (.iconst 1, 1) := by decide +kernel
theorem dX3_readAtom_93 : decode cX3_readAtom 93 = .ok (.iadd, 1) := by decide +kernel
theorem dX3_readAtom_94 : decode cX3_readAtom 94 = .ok (.putfield 39, 3) := by decide +kernel
theorem dX3_readAtom_97 : decode cX3_readAtom 97 = .ok (.goto 58, 3) := by decide +kernel
theorem dX3_readAtom_100 : decode cX3_readAtom 100 = .ok (.aload_n 0, 1) := by decide +kernel
theorem dX3_readAtom_101 : decode cX3_readAtom 101 = .ok (.getfield 14, 3) := by decide +kernel
theorem dX3_readAtom_104 : decode cX3_readAtom 104 = .ok (.iconst 3, 1) := by decide +kernel
theorem dX3_readAtom_105 : decode cX3_readAtom 105 = .ok (.iload_n 1, 1) := by decide +kernel
theorem dX3_readAtom_106 : decode cX3_readAtom 106 = .ok (.lload_n 2, 1) := by decide +kernel
theorem dX3_readAtom_107 : decode cX3_readAtom 107 = .ok (.l2i, 1) := by decide +kernel
theorem dX3_readAtom_108 : decode cX3_readAtom 108 = .ok (.lconst 0, 1) := by decide +kernel
theorem dX3_readAtom_109 : decode cX3_readAtom 109 = .ok (.invokevirtual 157, 3) := by decide +kernel
theorem dX3_readAtom_112 : decode cX3_readAtom 112 = .ok (.aload_n 0, 1) := by decide +kernel
theorem dX3_readAtom_113 : decode cX3_readAtom 113 = .ok (.dup, 1) := by decide +kernel
theorem dX3_readAtom_114 : decode cX3_readAtom 114 = .ok (.getfield 39, 3) := by decide +kernel
theorem dX3_readAtom_117 : decode cX3_readAtom 117 = .ok (.iconst 1, 1) := by decide +kernel
theorem dX3_readAtom_118 : decode cX3_readAtom 118 = .ok (.iadd, 1) := by decide +kernel
theorem dX3_readAtom_119 : decode cX3_readAtom 119 = .ok (.putfield 39, 3) := by decide +kernel
theorem dX3_readAtom_122 : decode cX3_readAtom 122 = .ok (.goto 33, 3) := by decide +kernel
theorem dX3_readAtom_125 : decode cX3_readAtom 125 = .ok (.aload_n 0, 1) := by decide +kernel
theorem dX3_readAtom_126 : decode cX3_readAtom 126 = .ok (.dup, 1) := by decide +kernel
theorem dX3_readAtom_127 : decode cX3_readAtom 127 = .ok (.getfield 39, 3) := by decide +kernel
theorem dX3_readAtom_130 : decode cX3_readAtom 130 = .ok (.iconst 1, 1) := by decide +kernel
theorem dX3_readAtom_131 : decode cX3_readAtom 131 = .ok (.iadd, 1) := by decide +kernel
theorem dX3_readAtom_132 : decode cX3_readAtom 132 = .ok (.putfield 39, 3) := by decide +kernel
theorem dX3_readAtom_135 : decode cX3_readAtom 135 = .ok (.aload_n 0, 1) := by decide +kernel
theorem dX3_readAtom_136 : decode cX3_readAtom 136 = .ok (.iload_n 1, 1) := by decide +kernel
theorem dX3_readAtom_137 : decode cX3_readAtom 137 = .ok (.lload_n 2, 1) := by decide +kernel
theorem dX3_readAtom_138 : decode cX3_readAtom 138 = .ok (.invokevirtual 161, 3) := by decide +kernel
theorem dX3_readAtom_141 : decode cX3_readAtom 141 = .ok (.goto 14, 3) := by decide +kernel
theorem dX3_readAtom_144 : decode cX3_readAtom 144 = .ok (.aload_n 0, 1) := by decide +kernel
theorem dX3_readAtom_145 : decode cX3_readAtom 145 = .ok (.invokevirtual 165, 3) := by decide +kernel
theorem dX3_readAtom_148 : decode cX3_readAtom 148 = .ok (.goto 7, 3) := by decide +kernel
theorem dX3_readAtom_151 : decode cX3_readAtom 151 = .ok (.aload_n 0, 1) := by decide +kernel
theorem dX3_readAtom_152 : decode cX3_readAtom 152 = .ok (.invokevirtual 70, 3) := by decide +kernel
theorem dX3_readAtom_155 : decode cX3_readAtom 155 = .ok (.return_, 1) := by decide +kernel
theorem dX3_readInner_0 : decode cX3_readInner 0 = .ok (.aload_n 0, 1) := by decide +kernel
theorem dX3_readInner_1 : decode cX3_readInner 1 = .ok (.invokevirtual 135, 3) := by decide +kernel
theorem dX3_readInner_4 : decode cX3_readInner 4 = .ok (.ifCond .eq 23, 3) := by decide +kernel
theorem dX3_readInner_7 : decode cX3_readInner 7 = .ok (.aload_n 0, 1) := by decide +kernel
theorem dX3_readInner_8 : decode cX3_readInner 8 = .ok (.invokevirtual 99, 3) := by decide +kernel
theorem dX3_readInner_11 : decode cX3_readInner 11 = .ok (.aload_n 0, 1) := by decide +kernel
theorem dX3_readInner_12 : decode cX3_readInner 12 = .ok (.bipush 41, 2) := by decide +kernel
theorem dX3_readInner_14 : decode cX3_readInner 14 = .ok (.invokevirtual 106, 3) := by decide +kernel
theorem dX3_readInner_17 : decode cX3_readInner 17 = .ok (.aload_n 0, 1) := by decide +kernel
theorem dX3_readInner_18 : decode cX3_readInner 18 = .ok (.dup, 1) := by decide +kernel
theorem dX3_readInner_19 : decode cX3_readInner 19 = .ok (.getfield 42, 3) := by decide +kernel
theorem dX3_readInner_22 : decode cX3_readInner 22 = .ok (.iconst 1, 1) := by decide +kernel
theorem dX3_readInner_23 : decode cX3_readInner 23 = .ok (.isub, 1) := by decide +kernel
theorem dX3_readInner_24 : decode cX3_readInner 24 = .ok (.putfield 42, 3) := by decide +kernel
theorem dX3_readInner_27 : decode cX3_readInner 27 = .ok (.return_, 1) := by decide +kernel
theorem dX3_readNamed_0 : decode cX3_readNamed 0 = .ok (.aload_n 0, 1) := by decide +kernel
theorem dX3_readNamed_1 : decode cX3_readNamed 1 = .ok (.lload_n 2, 1) := by decide +kernel
theorem dX3_readNamed_2 : decode cX3_readNamed 2 = .ok (.invokevirtual 119, 3) := by decide +kernel
theorem dX3_readNamed_5 : decode cX3_readNamed 5 = .ok (.istore 4, 2) := by decide +kernel
theorem dX3_readNamed_7 : decode cX3_readNamed 7 = .ok (.aload_n 0, 1) := by decide +kernel
theorem dX3_readNamed_8 : decode cX3_readNamed 8 = .ok (.bipush 40, 2) := by decide +kernel
theorem dX3_readNamed_10 : decode cX3_readNamed 10 = .ok (.invokevirtual 66, 3) := by decide +kernel
theorem dX3_readNamed_13 : decode cX3_readNamed 13 = .ok (.ifCond .eq 12, 3) := by decide +kernel
theorem dX3_readNamed_16 : decode cX3_readNamed 16 = .ok (.aload_n 0, 1) := by decide +kernel
theorem dX3_readNamed_17 : decode cX3_readNamed 17 = .ok (.iload_n 1, 1) := by decide +kernel
theorem dX3_readNamed_18 : decode cX3_readNamed 18 = .ok (.lload_n 2, 1) := by decide +kernel
theorem dX3_readNamed_19 : decode cX3_readNamed 19 = .ok (.invokevirtual 168, 3) := by decide +kernel
theorem dX3_readNamed_22 : decode cX3_readNamed 22 = .ok (.goto 34, 3) := by decide +kernel
theorem dX3_readNamed_25 : decode cX3_readNamed 25 = .ok (.iload 4, 2) := by decide +kernel
theorem dX3_readNamed_27 : decode cX3_readNamed 27 = .ok (.ifCond .lt 18, 3) := by decide +kernel
theorem dX3_readNamed_30 : decode cX3_readNamed 30 = .ok (.aload_n 0, 1) := by decide +kernel
theorem dX3_readNamed_31 : decode cX3_readNamed 31 = .ok (.getfield 14, 3) := by decide +kernel
theorem dX3_readNamed_34 : decode cX3_readNamed 34 = .ok (.iconst 4, 1) := by decide +kernel
theorem dX3_readNamed_35 : decode cX3_readNamed 35 = .ok (.iload_n 1, 1) := by decide +kernel
theorem dX3_readNamed_36 : decode cX3_readNamed 36 = .ok (.iload 4, 2) := by decide +kernel
theorem dX3_readNamed_38 : decode cX3_readNamed 38 = .ok (.lconst 0, 1) := by decide +kernel
theorem dX3_readNamed_39 : decode cX3_readNamed 39 = .ok (.invokevirtual 157, 3) := by decide +kernel
theorem dX3_readNamed_42 : decode cX3_readNamed 42 = .ok (.goto 14, 3) := by decide +kernel
theorem dX3_readNamed_45 : decode cX3_readNamed 45 = .ok (.aload_n 0, 1) := by decide +kernel
theorem dX3_readNamed_46 : decode cX3_readNamed 46 = .ok (.getfield 14, 3) := by decide +kernel
theorem dX3_readNamed_49 : decode cX3_readNamed 49 = .ok (.iconst 5, 1) := by decide +kernel
theorem dX3_readNamed_50 : decode cX3_readNamed 50 = .ok (.iload_n 1, 1) := by decide +kernel
theorem dX3_readNamed_51 : decode cX3_readNamed 51 = .ok (.iconst 0, 1) := by decide +kernel
theorem dX3_readNamed_52 : decode cX3_readNamed 52 = .ok (.lload_n 2, 1) := by decide +kernel
theorem dX3_readNamed_53 : decode cX3_readNamed 53 = .ok (.invokevirtual 157, 3) := by decide +kernel
theorem dX3_readNamed_56 : decode cX3_readNamed 56 = .ok (.return_, 1) := by decide +kernel
theorem dX3_readCall_0 : decode cX3_readCall 0 = .ok (.aload_n 0, 1) := by decide +kernel
theorem dX3_readCall_1 : decode cX3_readCall 1 = .ok (.invokevirtual 135, 3) := by decide +kernel
theorem dX3_readCall_4 : decode cX3_readCall 4 = .ok (.ifCond .ne 4, 3) := by decide +kernel
theorem dX3_readCall_7 : decode cX3_readCall 7 = .ok (.return_, 1) := by decide +kernel
theorem dX3_readCall_8 : decode cX3_readCall 8 = .ok (.aload_n 0, 1) := by decide +kernel
theorem dX3_readCall_9 : decode cX3_readCall 9 = .ok (.getfield 14, 3) := by decide +kernel
theorem dX3_readCall_12 : decode cX3_readCall 12 = .ok (.invokevirtual 122, 3) := by decide +kernel
theorem dX3_readCall_15 : decode cX3_readCall 15 = .ok (.istore 4, 2) := by decide +kernel
theorem dX3_readCall_17 : decode cX3_readCall 17 = .ok (.iconst 0, 1) := by decide +kernel
theorem dX3_readCall_18 : decode cX3_readCall 18 = .ok (.istore 5, 2) := by decide +kernel
theorem dX3_readCall_20 : decode cX3_readCall 20 = .ok (.aload_n 0, 1) := by decide +kernel
theorem dX3_readCall_21 : decode cX3_readCall 21 = .ok (.getfield 14, 3) := by decide +kernel
theorem dX3_readCall_24 : decode cX3_readCall 24 = .ok (.bipush 6, 2) := by decide +kernel
theorem dX3_readCall_26 : decode cX3_readCall 26 = .ok (.iload_n 1, 1) := by decide +kernel
theorem dX3_readCall_27 : decode cX3_readCall 27 = .ok (.iconst 0, 1) := by decide +kernel
theorem dX3_readCall_28 : decode cX3_readCall 28 = .ok (.lload_n 2, 1) := by decide +kernel
theorem dX3_readCall_29 : decode cX3_readCall 29 = .ok (.invokevirtual 157, 3) := by decide +kernel
theorem dX3_readCall_32 : decode cX3_readCall 32 = .ok (.aload_n 0, 1) := by decide +kernel
theorem dX3_readCall_33 : decode cX3_readCall 33 = .ok (.bipush 41, 2) := by decide +kernel
theorem dX3_readCall_35 : decode cX3_readCall 35 = .ok (.invokevirtual 66, 3) := by decide +kernel
theorem dX3_readCall_38 : decode cX3_readCall 38 = .ok (.ifCond .ne 45, 3) := by decide +kernel
theorem dX3_readCall_41 : decode cX3_readCall 41 = .ok (.aload_n 0, 1) := by decide +kernel
theorem dX3_readCall_42 : decode cX3_readCall 42 = .ok (.invokevirtual 99, 3) := by decide +kernel
theorem dX3_readCall_45 : decode cX3_readCall 45 = .ok (.iconst 1, 1) := by decide +kernel
theorem dX3_readCall_46 : decode cX3_readCall 46 = .ok (.istore 5, 2) := by decide +kernel
theorem dX3_readCall_48 : decode cX3_readCall 48 = .ok (.iload 5, 2) := by decide +kernel
theorem dX3_readCall_50 : decode cX3_readCall 50 = .ok (.iconst 3, 1) := by decide +kernel
theorem dX3_readCall_51 : decode cX3_readCall 51 = .ok (.if_icmp .ge 32, 3) := by decide +kernel
theorem dX3_readCall_54 : decode cX3_readCall 54 = .ok (.aload_n 0, 1) := by decide +kernel
theorem dX3_readCall_55 : decode cX3_readCall 55 = .ok (.bipush 44, 2) := by decide +kernel
theorem dX3_readCall_57 : decode cX3_readCall 57 = .ok (.invokevirtual 66, 3) := by decide +kernel
theorem dX3_readCall_60 : decode cX3_readCall 60 = .ok (.ifCond .eq 23, 3) := by decide +kernel
theorem dX3_readCall_63 : decode cX3_readCall 63 = .ok (.aload_n 0, 1) := by decide +kernel
theorem dX3_readCall_64 : decode cX3_readCall 64 = .ok (.dup, 1) := by decide +kernel
theorem dX3_readCall_65 : decode cX3_readCall 65 = .ok (.getfield 39, 3) := by decide +kernel
theorem dX3_readCall_68 : decode cX3_readCall 68 = .ok (.iconst 1, 1) := by decide +kernel
theorem dX3_readCall_69 : decode cX3_readCall 69 = .ok (.iadd, 1) := by decide +kernel
theorem dX3_readCall_70 : decode cX3_readCall 70 = .ok (.putfield 39, 3) := by decide +kernel
theorem dX3_readCall_73 : decode cX3_readCall 73 = .ok (.aload_n 0, 1) := by decide +kernel
theorem dX3_readCall_74 : decode cX3_readCall 74 = .ok (.invokevirtual 99, 3) := by decide +kernel
theorem dX3_readCall_77 : decode cX3_readCall 77 = .ok (.iinc 5 1, 3) := by decide +kernel
theorem dX3_readCall_80 : decode cX3_readCall 80 = .ok (.goto (-32), 3) := by decide +kernel
theorem dX3_readCall_83 : decode cX3_readCall 83 = .ok (.aload_n 0, 1) := by decide +kernel
theorem dX3_readCall_84 : decode cX3_readCall 84 = .ok (.bipush 41, 2) := by decide +kernel
theorem dX3_readCall_86 : decode cX3_readCall 86 = .ok (.invokevirtual 106, 3) := by decide +kernel
theorem dX3_readCall_89 : decode cX3_readCall 89 = .ok (.aload_n 0, 1) := by decide +kernel
theorem dX3_readCall_90 : decode cX3_readCall 90 = .ok (.dup, 1) := by decide +kernel
theorem dX3_readCall_91 : decode cX3_readCall 91 = .ok (.getfield 42, 3) := by decide +kernel
theorem dX3_readCall_94 : decode cX3_readCall 94 = .ok (.iconst 1, 1) := by decide +kernel
theorem dX3_readCall_95 : decode cX3_readCall 95 = .ok (.isub, 1) := by decide +kernel
theorem dX3_readCall_96 : decode cX3_readCall 96 = .ok (.putfield 42, 3) := by decide +kernel
theorem dX3_readCall_99 : decode cX3_readCall 99 = .ok (.aload_n 0, 1) := by decide +kernel
theorem dX3_readCall_100 : decode cX3_readCall 100 = .ok (.getfield 14, 3) := by decide +kernel
theorem dX3_readCall_103 : decode cX3_readCall 103 = .ok (.iload 4, 2) := by decide +kernel
theorem dX3_readCall_105 : decode cX3_readCall 105 = .ok (.iload 5, 2) := by decide +kernel
theorem dX3_readCall_107 : decode cX3_readCall 107 = .ok (.invokevirtual 171, 3) := by decide +kernel
theorem dX3_readCall_110 : decode cX3_readCall 110 = .ok (.aload_n 0, 1) := by decide +kernel
theorem dX3_readCall_111 : decode cX3_readCall 111 = .ok (.getfield 14, 3) := by decide +kernel
theorem dX3_readCall_114 : decode cX3_readCall 114 = .ok (.bipush 8, 2) := by decide +kernel
theorem dX3_readCall_116 : decode cX3_readCall 116 = .ok (.iload_n 1, 1) := by decide +kernel
theorem dX3_readCall_117 : decode cX3_readCall 117 = .ok (.iload 5, 2) := by decide +kernel
theorem dX3_readCall_119 : decode cX3_readCall 119 = .ok (.lload_n 2, 1) := by decide +kernel
theorem dX3_readCall_120 : decode cX3_readCall 120 = .ok (.invokevirtual 157, 3) := by decide +kernel
theorem dX3_readCall_123 : decode cX3_readCall 123 = .ok (.return_, 1) := by decide +kernel
theorem dX3_readName_0 : decode cX3_readName 0 = .ok (.aload_n 0, 1) := by decide +kernel
theorem dX3_readName_1 : decode cX3_readName 1 = .ok (.getfield 24, 3) := by decide +kernel
theorem dX3_readName_4 : decode cX3_readName 4 = .ok (.aload_n 0, 1) := by decide +kernel
theorem dX3_readName_5 : decode cX3_readName 5 = .ok (.getfield 39, 3) := by decide +kernel
theorem dX3_readName_8 : decode cX3_readName 8 = .ok (.invokevirtual 115, 3) := by decide +kernel
theorem dX3_readName_11 : decode cX3_readName 11 = .ok (.lstore_n 1, 1) := by decide +kernel
theorem dX3_readName_12 : decode cX3_readName 12 = .ok (.aload_n 0, 1) := by decide +kernel
theorem dX3_readName_13 : decode cX3_readName 13 = .ok (.bipush 97, 2) := by decide +kernel
theorem dX3_readName_15 : decode cX3_readName 15 = .ok (.invokevirtual 106, 3) := by decide +kernel
theorem dX3_readName_18 : decode cX3_readName 18 = .ok (.lload_n 1, 1) := by decide +kernel
theorem dX3_readName_19 : decode cX3_readName 19 = .ok (.lreturn, 1) := by decide +kernel
theorem dX3_partOf_0 : decode cX3_partOf 0 = .ok (.iconst 0, 1) := by decide +kernel
theorem dX3_partOf_1 : decode cX3_partOf 1 = .ok (.istore_n 3, 1) := by decide +kernel
theorem dX3_partOf_2 : decode cX3_partOf 2 = .ok (.iload_n 3, 1) := by decide +kernel
theorem dX3_partOf_3 : decode cX3_partOf 3 = .ok (.aload_n 0, 1) := by decide +kernel
theorem dX3_partOf_4 : decode cX3_partOf 4 = .ok (.getfield 31, 3) := by decide +kernel
theorem dX3_partOf_7 : decode cX3_partOf 7 = .ok (.if_icmp .ge 22, 3) := by decide +kernel
theorem dX3_partOf_10 : decode cX3_partOf 10 = .ok (.aload_n 0, 1) := by decide +kernel
theorem dX3_partOf_11 : decode cX3_partOf 11 = .ok (.getfield 20, 3) := by decide +kernel
theorem dX3_partOf_14 : decode cX3_partOf 14 = .ok (.iload_n 3, 1) := by decide +kernel
theorem dX3_partOf_15 : decode cX3_partOf 15 = .ok (.laload, 1) := by decide +kernel
theorem dX3_partOf_16 : decode cX3_partOf 16 = .ok (.lload_n 1, 1) := by decide +kernel
theorem dX3_partOf_17 : decode cX3_partOf 17 = .ok (.lcmp, 1) := by decide +kernel
theorem dX3_partOf_18 : decode cX3_partOf 18 = .ok (.ifCond .ne 5, 3) := by decide +kernel
theorem dX3_partOf_21 : decode cX3_partOf 21 = .ok (.iload_n 3, 1) := by decide +kernel
theorem dX3_partOf_22 : decode cX3_partOf 22 = .ok (.ireturn, 1) := by decide +kernel
theorem dX3_partOf_23 : decode cX3_partOf 23 = .ok (.iinc 3 1, 3) := by decide +kernel
theorem dX3_partOf_26 : decode cX3_partOf 26 = .ok (.goto (-24), 3) := by decide +kernel
theorem dX3_partOf_29 : decode cX3_partOf 29 = .ok (.bipush (-5), 2) := by decide +kernel
theorem dX3_partOf_31 : decode cX3_partOf 31 = .ok (.ireturn, 1) := by decide +kernel
theorem dX3_isAt_0 : decode cX3_isAt 0 = .ok (.aload_n 0, 1) := by decide +kernel
theorem dX3_isAt_1 : decode cX3_isAt 1 = .ok (.getfield 24, 3) := by decide +kernel
theorem dX3_isAt_4 : decode cX3_isAt 4 = .ok (.aload_n 0, 1) := by decide +kernel
theorem dX3_isAt_5 : decode cX3_isAt 5 = .ok (.getfield 39, 3) := by decide +kernel
theorem dX3_isAt_8 : decode cX3_isAt 8 = .ok (.invokevirtual 48, 3) := by decide +kernel
theorem dX3_isAt_11 : decode cX3_isAt 11 = .ok (.iload_n 1, 1) := by decide +kernel
theorem dX3_isAt_12 : decode cX3_isAt 12 = .ok (.if_icmp .ne 7, 3) := by decide +kernel
theorem dX3_isAt_15 : decode cX3_isAt 15 = .ok (.iconst 1, 1) := by decide +kernel
theorem dX3_isAt_16 : decode cX3_isAt 16 = .ok (.goto 4, 3) := by decide +kernel
theorem dX3_isAt_19 : decode cX3_isAt 19 = .ok (.iconst 0, 1) := by decide +kernel
theorem dX3_isAt_20 : decode cX3_isAt 20 = .ok (.ireturn, 1) := by decide +kernel
theorem dX3_expect_0 : decode cX3_expect 0 = .ok (.aload_n 0, 1) := by decide +kernel
theorem dX3_expect_1 : decode cX3_expect 1 = .ok (.iload_n 1, 1) := by decide +kernel
theorem dX3_expect_2 : decode cX3_expect 2 = .ok (.invokevirtual 66, 3) := by decide +kernel
theorem dX3_expect_5 : decode cX3_expect 5 = .ok (.ifCond .eq 16, 3) := by decide +kernel
theorem dX3_expect_8 : decode cX3_expect 8 = .ok (.aload_n 0, 1) := by decide +kernel
theorem dX3_expect_9 : decode cX3_expect 9 = .ok (.dup, 1) := by decide +kernel
theorem dX3_expect_10 : decode cX3_expect 10 = .ok (.getfield 39, 3) := by decide +kernel
theorem dX3_expect_13 : decode cX3_expect 13 = .ok (.iconst 1, 1) := by decide +kernel
theorem dX3_expect_14 : decode cX3_expect 14 = .ok (.iadd, 1) := by decide +kernel
theorem dX3_expect_15 : decode cX3_expect 15 = .ok (.putfield 39, 3) := by decide +kernel
theorem dX3_expect_18 : decode cX3_expect 18 = .ok (.goto 7, 3) := by decide +kernel
theorem dX3_expect_21 : decode cX3_expect 21 = .ok (.aload_n 0, 1) := by decide +kernel
theorem dX3_expect_22 : decode cX3_expect 22 = .ok (.invokevirtual 70, 3) := by decide +kernel
theorem dX3_expect_25 : decode cX3_expect 25 = .ok (.return_, 1) := by decide +kernel
theorem dX3_enter_0 : decode cX3_enter 0 = .ok (.aload_n 0, 1) := by decide +kernel
theorem dX3_enter_1 : decode cX3_enter 1 = .ok (.getfield 42, 3) := by decide +kernel
theorem dX3_enter_4 : decode cX3_enter 4 = .ok (.bipush 12, 2) := by decide +kernel
theorem dX3_enter_6 : decode cX3_enter 6 = .ok (.if_icmp .lt 9, 3) := by decide +kernel
theorem dX3_enter_9 : decode cX3_enter 9 = .ok (.aload_n 0, 1) := by decide +kernel
theorem dX3_enter_10 : decode cX3_enter 10 = .ok (.invokevirtual 70, 3) := by decide +kernel
theorem dX3_enter_13 : decode cX3_enter 13 = .ok (.iconst 0, 1) := by decide +kernel
theorem dX3_enter_14 : decode cX3_enter 14 = .ok (.ireturn, 1) := by decide +kernel
theorem dX3_enter_15 : decode cX3_enter 15 = .ok (.aload_n 0, 1) := by decide +kernel
theorem dX3_enter_16 : decode cX3_enter 16 = .ok (.dup, 1) := by decide +kernel
theorem dX3_enter_17 : decode cX3_enter 17 = .ok (.getfield 42, 3) := by decide +kernel
theorem dX3_enter_20 : decode cX3_enter 20 = .ok (.iconst 1, 1) := by decide +kernel
theorem dX3_enter_21 : decode cX3_enter 21 = .ok (.iadd, 1) := by decide +kernel
theorem dX3_enter_22 : decode cX3_enter 22 = .ok (.putfield 42, 3) := by decide +kernel
theorem dX3_enter_25 : decode cX3_enter 25 = .ok (.aload_n 0, 1) := by decide +kernel
theorem dX3_enter_26 : decode cX3_enter 26 = .ok (.dup, 1) := by decide +kernel
theorem dX3_enter_27 : decode cX3_enter 27 = .ok (.getfield 39, 3) := by decide +kernel
theorem dX3_enter_30 : decode cX3_enter 30 = .ok (.iconst 1, 1) := by decide +kernel
theorem dX3_enter_31 : decode cX3_enter 31 = .ok (.iadd, 1) := by decide +kernel
theorem dX3_enter_32 : decode cX3_enter 32 = .ok (.putfield 39, 3) := by decide +kernel
theorem dX3_enter_35 : decode cX3_enter 35 = .ok (.iconst 1, 1) := by decide +kernel
theorem dX3_enter_36 : decode cX3_enter 36 = .ok (.ireturn, 1) := by decide +kernel
theorem dX3_refuse_0 : decode cX3_refuse 0 = .ok (.aload_n 0, 1) := by decide +kernel
theorem dX3_refuse_1 : decode cX3_refuse 1 = .ok (.getfield 45, 3) := by decide +kernel
theorem dX3_refuse_4 : decode cX3_refuse 4 = .ok (.ifCond .ge 18, 3) := by decide +kernel
theorem dX3_refuse_7 : decode cX3_refuse 7 = .ok (.aload_n 0, 1) := by decide +kernel
theorem dX3_refuse_8 : decode cX3_refuse 8 = .ok (.aload_n 0, 1) := by decide +kernel
theorem dX3_refuse_9 : decode cX3_refuse 9 = .ok (.getfield 24, 3) := by decide +kernel
theorem dX3_refuse_12 : decode cX3_refuse 12 = .ok (.aload_n 0, 1) := by decide +kernel
theorem dX3_refuse_13 : decode cX3_refuse 13 = .ok (.getfield 39, 3) := by decide +kernel
theorem dX3_refuse_16 : decode cX3_refuse 16 = .ok (.invokevirtual 132, 3) := by decide +kernel
theorem dX3_refuse_19 : decode cX3_refuse 19 = .ok (.putfield 45, 3) := by decide +kernel
theorem dX3_refuse_22 : decode cX3_refuse 22 = .ok (.aload_n 0, 1) := by decide +kernel
theorem dX3_refuse_23 : decode cX3_refuse 23 = .ok (.aload_n 0, 1) := by decide +kernel
theorem dX3_refuse_24 : decode cX3_refuse 24 = .ok (.getfield 24, 3) := by decide +kernel
theorem dX3_refuse_27 : decode cX3_refuse 27 = .ok (.invokevirtual 174, 3) := by decide +kernel
theorem dX3_refuse_30 : decode cX3_refuse 30 = .ok (.putfield 39, 3) := by decide +kernel
theorem dX3_refuse_33 : decode cX3_refuse 33 = .ok (.return_, 1) := by decide +kernel
theorem dX4_init_0 : decode cX4_init 0 = .ok (.aload_n 0, 1) := by decide +kernel
theorem dX4_init_1 : decode cX4_init 1 = .ok (.invokespecial 3, 3) := by decide +kernel
theorem dX4_init_4 : decode cX4_init 4 = .ok (.aload_n 0, 1) := by decide +kernel
theorem dX4_init_5 : decode cX4_init 5 = .ok (.new 9, 3) := by decide +kernel
theorem dX4_init_8 : decode cX4_init 8 = .ok (.dup, 1) := by decide +kernel
theorem dX4_init_9 : decode cX4_init 9 = .ok (.invokespecial 11, 3) := by decide +kernel
theorem dX4_init_12 : decode cX4_init 12 = .ok (.putfield 12, 3) := by decide +kernel
theorem dX4_init_15 : decode cX4_init 15 = .ok (.aload_n 0, 1) := by decide +kernel
theorem dX4_init_16 : decode cX4_init 16 = .ok (.new 18, 3) := by decide +kernel
theorem dX4_init_19 : decode cX4_init 19 = .ok (.dup, 1) := by decide +kernel
theorem dX4_init_20 : decode cX4_init 20 = .ok (.invokespecial 20, 3) := by decide +kernel
theorem dX4_init_23 : decode cX4_init 23 = .ok (.putfield 21, 3) := by decide +kernel
theorem dX4_init_26 : decode cX4_init 26 = .ok (.aload_n 0, 1) := by decide +kernel
theorem dX4_init_27 : decode cX4_init 27 = .ok (.new 25, 3) := by decide +kernel
theorem dX4_init_30 : decode cX4_init 30 = .ok (.dup, 1) := by decide +kernel
theorem dX4_init_31 : decode cX4_init 31 = .ok (.bipush 40, 2) := by decide +kernel
theorem dX4_init_33 : decode cX4_init 33 = .ok (.invokespecial 27, 3) := by decide +kernel
theorem dX4_init_36 : decode cX4_init 36 = .ok (.putfield 30, 3) := by decide +kernel
theorem dX4_init_39 : decode cX4_init 39 = .ok (.aload_n 0, 1) := by decide +kernel
theorem dX4_init_40 : decode cX4_init 40 = .ok (.new 25, 3) := by decide +kernel
theorem dX4_init_43 : decode cX4_init 43 = .ok (.dup, 1) := by decide +kernel
theorem dX4_init_44 : decode cX4_init 44 = .ok (.bipush 41, 2) := by decide +kernel
theorem dX4_init_46 : decode cX4_init 46 = .ok (.invokespecial 27, 3) := by decide +kernel
theorem dX4_init_49 : decode cX4_init 49 = .ok (.putfield 34, 3) := by decide +kernel
theorem dX4_init_52 : decode cX4_init 52 = .ok (.aload_n 0, 1) := by decide +kernel
theorem dX4_init_53 : decode cX4_init 53 = .ok (.bipush 40, 2) := by decide +kernel
theorem dX4_init_55 : decode cX4_init 55 = .ok (.anewarray 37, 3) := by decide +kernel
theorem dX4_init_58 : decode cX4_init 58 = .ok (.putfield 39, 3) := by decide +kernel
theorem dX4_init_61 : decode cX4_init 61 = .ok (.return_, 1) := by decide +kernel
theorem dX4_clear_0 : decode cX4_clear 0 = .ok (.aload_n 0, 1) := by decide +kernel
theorem dX4_clear_1 : decode cX4_clear 1 = .ok (.getfield 12, 3) := by decide +kernel
theorem dX4_clear_4 : decode cX4_clear 4 = .ok (.invokevirtual 43, 3) := by decide +kernel
theorem dX4_clear_7 : decode cX4_clear 7 = .ok (.aload_n 0, 1) := by decide +kernel
theorem dX4_clear_8 : decode cX4_clear 8 = .ok (.getfield 21, 3) := by decide +kernel
theorem dX4_clear_11 : decode cX4_clear 11 = .ok (.iconst 0, 1) := by decide +kernel
theorem dX4_clear_12 : decode cX4_clear 12 = .ok (.invokevirtual 46, 3) := by decide +kernel
theorem dX4_clear_15 : decode cX4_clear 15 = .ok (.aload_n 0, 1) := by decide +kernel
theorem dX4_clear_16 : decode cX4_clear 16 = .ok (.iconst 0, 1) := by decide +kernel
theorem dX4_clear_17 : decode cX4_clear 17 = .ok (.putfield 49, 3) := by decide +kernel
theorem dX4_clear_20 : decode cX4_clear 20 = .ok (.aload_n 0, 1) := by decide +kernel
theorem dX4_clear_21 : decode cX4_clear 21 = .ok (.iconst 0, 1) := by decide +kernel
theorem dX4_clear_22 : decode cX4_clear 22 = .ok (.putfield 53, 3) := by decide +kernel
theorem dX4_clear_25 : decode cX4_clear 25 = .ok (.return_, 1) := by decide +kernel
theorem dX4_isFull_0 : decode cX4_isFull 0 = .ok (.aload_n 0, 1) := by decide +kernel
theorem dX4_isFull_1 : decode cX4_isFull 1 = .ok (.getfield 49, 3) := by decide +kernel
theorem dX4_isFull_4 : decode cX4_isFull 4 = .ok (.bipush 40, 2) := by decide +kernel
theorem dX4_isFull_6 : decode cX4_isFull 6 = .ok (.if_icmp .lt 7, 3) := by decide +kernel
theorem dX4_isFull_9 : decode cX4_isFull 9 = .ok (.iconst 1, 1) := by decide +kernel
theorem dX4_isFull_10 : decode cX4_isFull 10 = .ok (.goto 4, 3) := by decide +kernel
theorem dX4_isFull_13 : decode cX4_isFull 13 = .ok (.iconst 0, 1) := by decide +kernel
theorem dX4_isFull_14 : decode cX4_isFull 14 = .ok (.ireturn, 1) := by decide +kernel
theorem dX4_keptCount_0 : decode cX4_keptCount 0 = .ok (.aload_n 0, 1) := by decide +kernel
theorem dX4_keptCount_1 : decode cX4_keptCount 1 = .ok (.getfield 49, 3) := by decide +kernel
theorem dX4_keptCount_4 : decode cX4_keptCount 4 = .ok (.ireturn, 1) := by decide +kernel
theorem dX4_resultCount_0 : decode cX4_resultCount 0 = .ok (.aload_n 0, 1) := by decide +kernel
theorem dX4_resultCount_1 : decode cX4_resultCount 1 = .ok (.getfield 53, 3) := by decide +kernel
theorem dX4_resultCount_4 : decode cX4_resultCount 4 = .ok (.ireturn, 1) := by decide +kernel
theorem dX4_hasSnippet_0 : decode cX4_hasSnippet 0 = .ok (.iload_n 1, 1) := by decide +kernel
theorem dX4_hasSnippet_1 : decode cX4_hasSnippet 1 = .ok (.ifCond .lt 24, 3) := by decide +kernel
theorem dX4_hasSnippet_4 : decode cX4_hasSnippet 4 = .ok (.iload_n 1, 1) := by decide +kernel
theorem dX4_hasSnippet_5 : decode cX4_hasSnippet 5 = .ok (.aload_n 0, 1) := by decide +kernel
theorem dX4_hasSnippet_6 : decode cX4_hasSnippet 6 = .ok (.getfield 49, 3) := by decide +kernel
theorem dX4_hasSnippet_9 : decode cX4_hasSnippet 9 = .ok (.if_icmp .ge 16, 3) := by decide +kernel
theorem dX4_hasSnippet_12 : decode cX4_hasSnippet 12 = .ok (.aload_n 0, 1) := by decide +kernel
theorem dX4_hasSnippet_13 : decode cX4_hasSnippet 13 = .ok (.getfield 39, 3) := by decide +kernel
theorem dX4_hasSnippet_16 : decode cX4_hasSnippet 16 = .ok (.iload_n 1, 1) := by decide +kernel
theorem dX4_hasSnippet_17 : decode cX4_hasSnippet 17 = .ok (.aaload, 1) := by decide +kernel
theorem dX4_hasSnippet_18 : decode cX4_hasSnippet 18 = .ok (.ifnull 7, 3) := by decide +kernel
theorem dX4_hasSnippet_21 : decode cX4_hasSnippet 21 = .ok (.iconst 1, 1) := by decide +kernel
theorem dX4_hasSnippet_22 : decode cX4_hasSnippet 22 = .ok (.goto 4, 3) := by decide +kernel
theorem dX4_hasSnippet_25 : decode cX4_hasSnippet 25 = .ok (.iconst 0, 1) := by decide +kernel
theorem dX4_hasSnippet_26 : decode cX4_hasSnippet 26 = .ok (.ireturn, 1) := by decide +kernel
theorem dX4_hasResult_0 : decode cX4_hasResult 0 = .ok (.lload_n 1, 1) := by decide +kernel
theorem dX4_hasResult_1 : decode cX4_hasResult 1 = .ok (.lconst 1, 1) := by decide +kernel
theorem dX4_hasResult_2 : decode cX4_hasResult 2 = .ok (.lcmp, 1) := by decide +kernel
theorem dX4_hasResult_3 : decode cX4_hasResult 3 = .ok (.ifCond .lt 17, 3) := by decide +kernel
theorem dX4_hasResult_6 : decode cX4_hasResult 6 = .ok (.lload_n 1, 1) := by decide +kernel
theorem dX4_hasResult_7 : decode cX4_hasResult 7 = .ok (.aload_n 0, 1) := by decide +kernel
theorem dX4_hasResult_8 : decode cX4_hasResult 8 = .ok (.getfield 53, 3) := by decide +kernel
theorem dX4_hasResult_11 : decode cX4_hasResult 11 = .ok (.i2l, 1) := by decide +kernel
theorem dX4_hasResult_12 : decode cX4_hasResult 12 = .ok (.lcmp, 1) := by decide +kernel
theorem dX4_hasResult_13 : decode cX4_hasResult 13 = .ok (.ifCond .gt 7, 3) := by decide +kernel
theorem dX4_hasResult_16 : decode cX4_hasResult 16 = .ok (.iconst 1, 1) := by decide +kernel
theorem dX4_hasResult_17 : decode cX4_hasResult 17 = .ok (.goto 4, 3) := by decide +kernel
theorem dX4_hasResult_20 : decode cX4_hasResult 20 = .ok (.iconst 0, 1) := by decide +kernel
theorem dX4_hasResult_21 : decode cX4_hasResult 21 = .ok (.ireturn, 1) := by decide +kernel
theorem dX4_keep_0 : decode cX4_keep 0 = .ok (.aload_n 0, 1) := by decide +kernel
theorem dX4_keep_1 : decode cX4_keep 1 = .ok (.invokevirtual 56, 3) := by decide +kernel
theorem dX4_keep_4 : decode cX4_keep 4 = .ok (.ifCond .eq 4, 3) := by decide +kernel
theorem dX4_keep_8 : decode cX4_keep 8 = .ok (.aload_n 1, 1) := by decide +kernel
theorem dX4_keep_9 : decode cX4_keep 9 = .ok (.invokevirtual 60, 3) := by decide +kernel
theorem dX4_keep_12 : decode cX4_keep 12 = .ok (.ifCond .ne 29, 3) := by decide +kernel
theorem dX4_keep_15 : decode cX4_keep 15 = .ok (.aload_n 0, 1) := by decide +kernel
theorem dX4_keep_16 : decode cX4_keep 16 = .ok (.dup, 1) := by decide +kernel
theorem dX4_keep_17 : decode cX4_keep 17 = .ok (.getfield 53, 3) := by decide +kernel
theorem dX4_keep_20 : decode cX4_keep 20 = .ok (.iconst 1, 1) := by decide +kernel
theorem dX4_keep_21 : decode cX4_keep 21 = .ok (.iadd, 1) := by decide +kernel
theorem dX4_keep_22 : decode cX4_keep 22 = .ok (.putfield 53, 3) := by decide +kernel
theorem dX4_keep_25 : decode cX4_keep 25 = .ok (.aload_n 0, 1) := by decide +kernel
theorem dX4_keep_26 : decode cX4_keep 26 = .ok (.getfield 34, 3) := by decide +kernel
theorem dX4_keep_29 : decode cX4_keep 29 = .ok (.aload_n 0, 1) := by decide +kernel
theorem dX4_keep_30 : decode cX4_keep 30 = .ok (.getfield 53, 3) := by decide +kernel
theorem dX4_keep_33 : decode cX4_keep 33 = .ok (.iload_n 2, 1) := by decide +kernel
theorem dX4_keep_34 : decode cX4_keep 34 = .ok (.lload_n 3, 1) := by decide +kernel
theorem dX4_keep_35 : decode cX4_keep 35 = .ok (.invokevirtual 64, 3) := by decide +kernel
theorem dX4_keep_38 : decode cX4_keep 38 = .ok (.goto 22, 3) := by decide +kernel
theorem dX4_keep_41 : decode cX4_keep 41 = .ok (.aload_n 0, 1) := by decide +kernel
theorem dX4_keep_42 : decode cX4_keep 42 = .ok (.getfield 12, 3) := by decide +kernel
theorem dX4_keep_45 : decode cX4_keep 45 = .ok (.aload_n 1, 1) := by decide +kernel
theorem dX4_keep_46 : decode cX4_keep 46 = .ok (.invokevirtual 68, 3) := by decide +kernel
theorem dX4_keep_49 : decode cX4_keep 49 = .ok (.aload_n 1, 1) := by decide +kernel
theorem dX4_keep_50 : decode cX4_keep 50 = .ok (.invokevirtual 60, 3) := by decide +kernel
theorem dX4_keep_53 : decode cX4_keep 53 = .ok (.aload_n 0, 1) := by decide +kernel
theorem dX4_keep_54 : decode cX4_keep 54 = .ok (.getfield 49, 3) := by decide +kernel
theorem dX4_keep_57 : decode cX4_keep 57 = .ok (.invokevirtual 71, 3) := by decide +kernel
theorem dX4_keep_60 : decode cX4_keep 60 = .ok (.aload_n 1, 1) := by decide +kernel
theorem dX4_keep_61 : decode cX4_keep 61 = .ok (.invokevirtual 60, 3) := by decide +kernel
theorem dX4_keep_64 : decode cX4_keep 64 = .ok (.iconst 1, 1) := by decide +kernel
theorem dX4_keep_65 : decode cX4_keep 65 = .ok (.if_icmp .ne 16, 3) := by decide +kernel
theorem dX4_keep_68 : decode cX4_keep 68 = .ok (.aload_n 0, 1) := by decide +kernel
theorem dX4_keep_69 : decode cX4_keep 69 = .ok (.getfield 30, 3) := by decide +kernel
theorem dX4_keep_72 : decode cX4_keep 72 = .ok (.aload_n 1, 1) := by decide +kernel
theorem dX4_keep_73 : decode cX4_keep 73 = .ok (.invokevirtual 68, 3) := by decide +kernel
theorem dX4_keep_76 : decode cX4_keep 76 = .ok (.iload_n 2, 1) := by decide +kernel
theorem dX4_keep_77 : decode cX4_keep 77 = .ok (.lload_n 3, 1) := by decide +kernel
theorem dX4_keep_78 : decode cX4_keep 78 = .ok (.invokevirtual 64, 3) := by decide +kernel
theorem dX4_keep_81 : decode cX4_keep 81 = .ok (.aload_n 0, 1) := by decide +kernel
theorem dX4_keep_82 : decode cX4_keep 82 = .ok (.getfield 39, 3) := by decide +kernel
theorem dX4_keep_85 : decode cX4_keep 85 = .ok (.aload_n 0, 1) := by decide +kernel
theorem dX4_keep_86 : decode cX4_keep 86 = .ok (.getfield 49, 3) := by decide +kernel
theorem dX4_keep_89 : decode cX4_keep 89 = .ok (.aload_n 1, 1) := by decide +kernel
theorem dX4_keep_90 : decode cX4_keep 90 = .ok (.aastore, 1) := by decide +kernel
theorem dX4_keep_91 : decode cX4_keep 91 = .ok (.aload_n 0, 1) := by decide +kernel
theorem dX4_keep_92 : decode cX4_keep 92 = .ok (.dup, 1) := by decide +kernel
theorem dX4_keep_93 : decode cX4_keep 93 = .ok (.getfield 49, 3) := by decide +kernel
theorem dX4_keep_96 : decode cX4_keep 96 = .ok (.iconst 1, 1) := by decide +kernel
theorem dX4_keep_97 : decode cX4_keep 97 = .ok (.iadd, 1) := by decide +kernel
theorem dX4_keep_98 : decode cX4_keep 98 = .ok (.putfield 49, 3) := by decide +kernel
theorem dX4_keep_101 : decode cX4_keep 101 = .ok (.return_, 1) := by decide +kernel
theorem dX4_callable_0 : decode cX4_callable 0 = .ok (.aload_n 0, 1) := by decide +kernel
theorem dX4_callable_1 : decode cX4_callable 1 = .ok (.getfield 12, 3) := by decide +kernel
theorem dX4_callable_4 : decode cX4_callable 4 = .ok (.iload_n 1, 1) := by decide +kernel
theorem dX4_callable_5 : decode cX4_callable 5 = .ok (.invokevirtual 75, 3) := by decide +kernel
theorem dX4_callable_8 : decode cX4_callable 8 = .ok (.istore_n 2, 1) := by decide +kernel
theorem dX4_callable_9 : decode cX4_callable 9 = .ok (.aload_n 0, 1) := by decide +kernel
theorem dX4_callable_10 : decode cX4_callable 10 = .ok (.getfield 12, 3) := by decide +kernel
theorem dX4_callable_13 : decode cX4_callable 13 = .ok (.iload_n 1, 1) := by decide +kernel
theorem dX4_callable_14 : decode cX4_callable 14 = .ok (.invokevirtual 79, 3) := by decide +kernel
theorem dX4_callable_17 : decode cX4_callable 17 = .ok (.istore_n 3, 1) := by decide +kernel
theorem dX4_callable_18 : decode cX4_callable 18 = .ok (.iload_n 2, 1) := by decide +kernel
theorem dX4_callable_19 : decode cX4_callable 19 = .ok (.iconst 2, 1) := by decide +kernel
theorem dX4_callable_20 : decode cX4_callable 20 = .ok (.if_icmp .eq 8, 3) := by decide +kernel
theorem dX4_callable_23 : decode cX4_callable 23 = .ok (.iload_n 2, 1) := by decide +kernel
theorem dX4_callable_24 : decode cX4_callable 24 = .ok (.iconst 3, 1) := by decide +kernel
theorem dX4_callable_25 : decode cX4_callable 25 = .ok (.if_icmp .ne 7, 3) := by decide +kernel
theorem dX4_callable_28 : decode cX4_callable 28 = .ok (.iconst 1, 1) := by decide +kernel
theorem dX4_callable_29 : decode cX4_callable 29 = .ok (.goto 4, 3) := by decide +kernel
theorem dX4_callable_32 : decode cX4_callable 32 = .ok (.iconst 0, 1) := by decide +kernel
theorem dX4_callable_33 : decode cX4_callable 33 = .ok (.istore 4, 2) := by decide +kernel
theorem dX4_callable_35 : decode cX4_callable 35 = .ok (.iload 4, 2) := by decide +kernel
theorem dX4_callable_37 : decode cX4_callable 37 = .ok (.ifCond .eq 20, 3) := by decide +kernel
theorem dX4_callable_40 : decode cX4_callable 40 = .ok (.aload_n 0, 1) := by decide +kernel
theorem dX4_callable_41 : decode cX4_callable 41 = .ok (.iload_n 3, 1) := by decide +kernel
theorem dX4_callable_42 : decode cX4_callable 42 = .ok (.invokevirtual 82, 3) := by decide +kernel
theorem dX4_callable_45 : decode cX4_callable 45 = .ok (.ifCond .eq 12, 3) := by decide +kernel
theorem dX4_callable_48 : decode cX4_callable 48 = .ok (.aload_n 0, 1) := by decide +kernel
theorem dX4_callable_49 : decode cX4_callable 49 = .ok (.getfield 39, 3) := by decide +kernel
theorem dX4_callable_52 : decode cX4_callable 52 = .ok (.iload_n 3, 1) := by decide +kernel
theorem dX4_callable_53 : decode cX4_callable 53 = .ok (.aaload, 1) := by decide +kernel
theorem dX4_callable_54 : decode cX4_callable 54 = .ok (.goto 4, 3) := by decide +kernel
theorem dX4_callable_57 : decode cX4_callable 57 = .ok (.aconst_null, 1) := by decide +kernel
theorem dX4_callable_58 : decode cX4_callable 58 = .ok (.areturn, 1) := by decide +kernel
theorem dX4_isOld_0 : decode cX4_isOld 0 = .ok (.aload_n 0, 1) := by decide +kernel
theorem dX4_isOld_1 : decode cX4_isOld 1 = .ok (.getfield 21, 3) := by decide +kernel
theorem dX4_isOld_4 : decode cX4_isOld 4 = .ok (.iload_n 1, 1) := by decide +kernel
theorem dX4_isOld_5 : decode cX4_isOld 5 = .ok (.invokevirtual 86, 3) := by decide +kernel
theorem dX4_isOld_8 : decode cX4_isOld 8 = .ok (.istore_n 2, 1) := by decide +kernel
theorem dX4_isOld_9 : decode cX4_isOld 9 = .ok (.aload_n 0, 1) := by decide +kernel
theorem dX4_isOld_10 : decode cX4_isOld 10 = .ok (.getfield 12, 3) := by decide +kernel
theorem dX4_isOld_13 : decode cX4_isOld 13 = .ok (.iload_n 2, 1) := by decide +kernel
theorem dX4_isOld_14 : decode cX4_isOld 14 = .ok (.invokevirtual 75, 3) := by decide +kernel
theorem dX4_isOld_17 : decode cX4_isOld 17 = .ok (.iconst 3, 1) := by decide +kernel
theorem dX4_isOld_18 : decode cX4_isOld 18 = .ok (.if_icmp .ne 22, 3) := by decide +kernel
theorem dX4_isOld_21 : decode cX4_isOld 21 = .ok (.aload_n 0, 1) := by decide +kernel
theorem dX4_isOld_22 : decode cX4_isOld 22 = .ok (.getfield 12, 3) := by decide +kernel
theorem dX4_isOld_25 : decode cX4_isOld 25 = .ok (.iload_n 2, 1) := by decide +kernel
theorem dX4_isOld_26 : decode cX4_isOld 26 = .ok (.invokevirtual 89, 3) := by decide +kernel
theorem dX4_isOld_29 : decode cX4_isOld 29 = .ok (.aload_n 0, 1) := by decide +kernel
theorem dX4_isOld_30 : decode cX4_isOld 30 = .ok (.getfield 21, 3) := by decide +kernel
theorem dX4_isOld_33 : decode cX4_isOld 33 = .ok (.iload_n 1, 1) := by decide +kernel
theorem dX4_isOld_34 : decode cX4_isOld 34 = .ok (.invokevirtual 92, 3) := by decide +kernel
theorem dX4_isOld_37 : decode cX4_isOld 37 = .ok (.if_icmp .eq 7, 3) := by decide +kernel
theorem dX4_isOld_40 : decode cX4_isOld 40 = .ok (.iconst 1, 1) := by decide +kernel
theorem dX4_isOld_41 : decode cX4_isOld 41 = .ok (.goto 4, 3) := by decide +kernel
theorem dX4_isOld_44 : decode cX4_isOld 44 = .ok (.iconst 0, 1) := by decide +kernel
theorem dX4_isOld_45 : decode cX4_isOld 45 = .ok (.ireturn, 1) := by decide +kernel
theorem dX4_signOf_0 : decode cX4_signOf 0 = .ok (.aload_n 0, 1) := by decide +kernel
theorem dX4_signOf_1 : decode cX4_signOf 1 = .ok (.iload_n 1, 1) := by decide +kernel
theorem dX4_signOf_2 : decode cX4_signOf 2 = .ok (.invokevirtual 82, 3) := by decide +kernel
theorem dX4_signOf_5 : decode cX4_signOf 5 = .ok (.ifCond .eq 16, 3) := by decide +kernel
theorem dX4_signOf_8 : decode cX4_signOf 8 = .ok (.aload_n 0, 1) := by decide +kernel
theorem dX4_signOf_9 : decode cX4_signOf 9 = .ok (.getfield 39, 3) := by decide +kernel
theorem dX4_signOf_12 : decode cX4_signOf 12 = .ok (.iload_n 1, 1) := by decide +kernel
theorem dX4_signOf_13 : decode cX4_signOf 13 = .ok (.aaload, 1) := by decide +kernel
theorem dX4_signOf_14 : decode cX4_signOf 14 = .ok (.iload_n 2, 1) := by decide +kernel
theorem dX4_signOf_15 : decode cX4_signOf 15 = .ok (.invokevirtual 93, 3) := by decide +kernel
theorem dX4_signOf_18 : decode cX4_signOf 18 = .ok (.goto 5, 3) := by decide +kernel
theorem dX4_signOf_21 : decode cX4_signOf 21 = .ok (.bipush (-5), 2) := by decide +kernel
theorem dX4_signOf_23 : decode cX4_signOf 23 = .ok (.ireturn, 1) := by decide +kernel
theorem dX4_stateOf_0 : decode cX4_stateOf 0 = .ok (.aload_n 0, 1) := by decide +kernel
theorem dX4_stateOf_1 : decode cX4_stateOf 1 = .ok (.iload_n 1, 1) := by decide +kernel
theorem dX4_stateOf_2 : decode cX4_stateOf 2 = .ok (.invokevirtual 96, 3) := by decide +kernel
theorem dX4_stateOf_5 : decode cX4_stateOf 5 = .ok (.ifCond .eq 5, 3) := by decide +kernel
theorem dX4_stateOf_8 : decode cX4_stateOf 8 = .ok (.iconst 2, 1) := by decide +kernel
theorem dX4_stateOf_9 : decode cX4_stateOf 9 = .ok (.ireturn, 1) := by decide +kernel
theorem dX4_stateOf_10 : decode cX4_stateOf 10 = .ok (.aload_n 0, 1) := by decide +kernel
theorem dX4_stateOf_11 : decode cX4_stateOf 11 = .ok (.iload_n 1, 1) := by decide +kernel
theorem dX4_stateOf_12 : decode cX4_stateOf 12 = .ok (.invokevirtual 82, 3) := by decide +kernel
theorem dX4_stateOf_15 : decode cX4_stateOf 15 = .ok (.ifCond .eq 23, 3) := by decide +kernel
theorem dX4_stateOf_18 : decode cX4_stateOf 18 = .ok (.aload_n 0, 1) := by decide +kernel
theorem dX4_stateOf_19 : decode cX4_stateOf 19 = .ok (.getfield 39, 3) := by decide +kernel
theorem dX4_stateOf_22 : decode cX4_stateOf 22 = .ok (.iload_n 1, 1) := by decide +kernel
theorem dX4_stateOf_23 : decode cX4_stateOf 23 = .ok (.aaload, 1) := by decide +kernel
theorem dX4_stateOf_24 : decode cX4_stateOf 24 = .ok (.aload_n 0, 1) := by decide +kernel
theorem dX4_stateOf_25 : decode cX4_stateOf 25 = .ok (.getfield 12, 3) := by decide +kernel
theorem dX4_stateOf_28 : decode cX4_stateOf 28 = .ok (.invokevirtual 99, 3) := by decide +kernel
theorem dX4_stateOf_31 : decode cX4_stateOf 31 = .ok (.ifCond .eq 7, 3) := by decide +kernel
theorem dX4_stateOf_34 : decode cX4_stateOf 34 = .ok (.iconst 1, 1) := by decide +kernel
theorem dX4_stateOf_35 : decode cX4_stateOf 35 = .ok (.goto 4, 3) := by decide +kernel
theorem dX4_stateOf_38 : decode cX4_stateOf 38 = .ok (.iconst 0, 1) := by decide +kernel
theorem dX4_stateOf_39 : decode cX4_stateOf 39 = .ok (.ireturn, 1) := by decide +kernel
theorem dX4_userOf_0 : decode cX4_userOf 0 = .ok (.iconst 0, 1) := by decide +kernel
theorem dX4_userOf_1 : decode cX4_userOf 1 = .ok (.istore_n 3, 1) := by decide +kernel
theorem dX4_userOf_2 : decode cX4_userOf 2 = .ok (.iconst 0, 1) := by decide +kernel
theorem dX4_userOf_3 : decode cX4_userOf 3 = .ok (.istore 4, 2) := by decide +kernel
theorem dX4_userOf_5 : decode cX4_userOf 5 = .ok (.iload 4, 2) := by decide +kernel
theorem dX4_userOf_7 : decode cX4_userOf 7 = .ok (.aload_n 0, 1) := by decide +kernel
theorem dX4_userOf_8 : decode cX4_userOf 8 = .ok (.getfield 49, 3) := by decide +kernel
theorem dX4_userOf_11 : decode cX4_userOf 11 = .ok (.if_icmp .ge 52, 3) := by decide +kernel
theorem dX4_userOf_14 : decode cX4_userOf 14 = .ok (.aload_n 0, 1) := by decide +kernel
theorem dX4_userOf_15 : decode cX4_userOf 15 = .ok (.iload 4, 2) := by decide +kernel
theorem dX4_userOf_17 : decode cX4_userOf 17 = .ok (.invokevirtual 82, 3) := by decide +kernel
theorem dX4_userOf_20 : decode cX4_userOf 20 = .ok (.ifCond .eq 37, 3) := by decide +kernel
theorem dX4_userOf_23 : decode cX4_userOf 23 = .ok (.aload_n 0, 1) := by decide +kernel
theorem dX4_userOf_24 : decode cX4_userOf 24 = .ok (.iload 4, 2) := by decide +kernel
theorem dX4_userOf_26 : decode cX4_userOf 26 = .ok (.invokevirtual 96, 3) := by decide +kernel
theorem dX4_userOf_29 : decode cX4_userOf 29 = .ok (.ifCond .ne 28, 3) := by decide +kernel
theorem dX4_userOf_32 : decode cX4_userOf 32 = .ok (.aload_n 0, 1) := by decide +kernel
theorem dX4_userOf_33 : decode cX4_userOf 33 = .ok (.getfield 39, 3) := by decide +kernel
theorem dX4_userOf_36 : decode cX4_userOf 36 = .ok (.iload 4, 2) := by decide +kernel
theorem dX4_userOf_38 : decode cX4_userOf 38 = .ok (.aaload, 1) := by decide +kernel
theorem dX4_userOf_39 : decode cX4_userOf 39 = .ok (.iload_n 1, 1) := by decide +kernel
theorem dX4_userOf_40 : decode cX4_userOf 40 = .ok (.invokevirtual 103, 3) := by decide +kernel
theorem dX4_userOf_43 : decode cX4_userOf 43 = .ok (.ifCond .eq 14, 3) := by decide +kernel
theorem dX4_userOf_46 : decode cX4_userOf 46 = .ok (.iload_n 3, 1) := by decide +kernel
theorem dX4_userOf_47 : decode cX4_userOf 47 = .ok (.iload_n 2, 1) := by decide +kernel
theorem dX4_userOf_48 : decode cX4_userOf 48 = .ok (.if_icmp .ne 6, 3) := by decide +kernel
theorem dX4_userOf_51 : decode cX4_userOf 51 = .ok (.iload 4, 2) := by decide +kernel
theorem dX4_userOf_53 : decode cX4_userOf 53 = .ok (.ireturn, 1) := by decide +kernel
theorem dX4_userOf_54 : decode cX4_userOf 54 = .ok (.iinc 3 1, 3) := by decide +kernel
theorem dX4_userOf_57 : decode cX4_userOf 57 = .ok (.iinc 4 1, 3) := by decide +kernel
theorem dX4_userOf_60 : decode cX4_userOf 60 = .ok (.goto (-55), 3) := by decide +kernel
theorem dX4_userOf_63 : decode cX4_userOf 63 = .ok (.bipush (-5), 2) := by decide +kernel
theorem dX4_userOf_65 : decode cX4_userOf 65 = .ok (.ireturn, 1) := by decide +kernel
theorem dX4_countWaiting_0 : decode cX4_countWaiting 0 = .ok (.iconst 0, 1) := by decide +kernel
theorem dX4_countWaiting_1 : decode cX4_countWaiting 1 = .ok (.istore_n 1, 1) := by decide +kernel
theorem dX4_countWaiting_2 : decode cX4_countWaiting 2 = .ok (.iconst 0, 1) := by decide +kernel
theorem dX4_countWaiting_3 : decode cX4_countWaiting 3 = .ok (.istore_n 2, 1) := by decide +kernel
theorem dX4_countWaiting_4 : decode cX4_countWaiting 4 = .ok (.iload_n 2, 1) := by decide +kernel
theorem dX4_countWaiting_5 : decode cX4_countWaiting 5 = .ok (.aload_n 0, 1) := by decide +kernel
theorem dX4_countWaiting_6 : decode cX4_countWaiting 6 = .ok (.getfield 49, 3) := by decide +kernel
theorem dX4_countWaiting_9 : decode cX4_countWaiting 9 = .ok (.if_icmp .ge 21, 3) := by decide +kernel
theorem dX4_countWaiting_12 : decode cX4_countWaiting 12 = .ok (.aload_n 0, 1) := by decide +kernel
theorem dX4_countWaiting_13 : decode cX4_countWaiting 13 = .ok (.iload_n 2, 1) := by decide +kernel
theorem dX4_countWaiting_14 : decode cX4_countWaiting 14 = .ok (.invokevirtual 106, 3) := by decide +kernel
theorem dX4_countWaiting_17 : decode cX4_countWaiting 17 = .ok (.iconst 1, 1) := by decide +kernel
theorem dX4_countWaiting_18 : decode cX4_countWaiting 18 = .ok (.if_icmp .ne 6, 3) := by decide +kernel
theorem dX4_countWaiting_21 : decode cX4_countWaiting 21 = .ok (.iinc 1 1, 3) := by decide +kernel
theorem dX4_countWaiting_24 : decode cX4_countWaiting 24 = .ok (.iinc 2 1, 3) := by decide +kernel
theorem dX4_countWaiting_27 : decode cX4_countWaiting 27 = .ok (.goto (-23), 3) := by decide +kernel
theorem dX4_countWaiting_30 : decode cX4_countWaiting 30 = .ok (.iload_n 1, 1) := by decide +kernel
theorem dX4_countWaiting_31 : decode cX4_countWaiting 31 = .ok (.ireturn, 1) := by decide +kernel
theorem dX4_countOldResults_0 : decode cX4_countOldResults 0 = .ok (.iconst 0, 1) := by decide +kernel
theorem dX4_countOldResults_1 : decode cX4_countOldResults 1 = .ok (.istore_n 1, 1) := by decide +kernel
theorem dX4_countOldResults_2 : decode cX4_countOldResults 2 = .ok (.iconst 1, 1) := by decide +kernel
theorem dX4_countOldResults_3 : decode cX4_countOldResults 3 = .ok (.istore_n 2, 1) := by decide +kernel
theorem dX4_countOldResults_4 : decode cX4_countOldResults 4 = .ok (.iload_n 2, 1) := by decide +kernel
theorem dX4_countOldResults_5 : decode cX4_countOldResults 5 = .ok (.aload_n 0, 1) := by decide +kernel
theorem dX4_countOldResults_6 : decode cX4_countOldResults 6 = .ok (.getfield 53, 3) := by decide +kernel
theorem dX4_countOldResults_9 : decode cX4_countOldResults 9 = .ok (.if_icmp .gt 40, 3) := by decide +kernel
theorem dX4_countOldResults_12 : decode cX4_countOldResults 12 = .ok (.aload_n 0, 1) := by decide +kernel
theorem dX4_countOldResults_13 : decode cX4_countOldResults 13 = .ok (.getfield 34, 3) := by decide +kernel
theorem dX4_countOldResults_16 : decode cX4_countOldResults 16 = .ok (.iload_n 2, 1) := by decide +kernel
theorem dX4_countOldResults_17 : decode cX4_countOldResults 17 = .ok (.invokevirtual 109, 3) := by decide +kernel
theorem dX4_countOldResults_20 : decode cX4_countOldResults 20 = .ok (.iconst 2, 1) := by decide +kernel
theorem dX4_countOldResults_21 : decode cX4_countOldResults 21 = .ok (.if_icmp .ne 22, 3) := by decide +kernel
theorem dX4_countOldResults_24 : decode cX4_countOldResults 24 = .ok (.aload_n 0, 1) := by decide +kernel
theorem dX4_countOldResults_25 : decode cX4_countOldResults 25 = .ok (.aload_n 0, 1) := by decide +kernel
theorem dX4_countOldResults_26 : decode cX4_countOldResults 26 = .ok (.getfield 34, 3) := by decide +kernel
theorem dX4_countOldResults_29 : decode cX4_countOldResults 29 = .ok (.iload_n 2, 1) := by decide +kernel
theorem dX4_countOldResults_30 : decode cX4_countOldResults 30 = .ok (.invokevirtual 112, 3) := by decide +kernel
theorem dX4_countOldResults_33 : decode cX4_countOldResults 33 = .ok (.l2i, 1) := by decide +kernel
theorem dX4_countOldResults_34 : decode cX4_countOldResults 34 = .ok (.invokevirtual 116, 3) := by decide +kernel
theorem dX4_countOldResults_37 : decode cX4_countOldResults 37 = .ok (.ifCond .eq 6, 3) := by decide +kernel
theorem dX4_countOldResults_40 : decode cX4_countOldResults 40 = .ok (.iinc 1 1, 3) := by decide +kernel
theorem dX4_countOldResults_43 : decode cX4_countOldResults 43 = .ok (.iinc 2 1, 3) := by decide +kernel
theorem dX4_countOldResults_46 : decode cX4_countOldResults 46 = .ok (.goto (-42), 3) := by decide +kernel
theorem dX4_countOldResults_49 : decode cX4_countOldResults 49 = .ok (.iload_n 1, 1) := by decide +kernel
theorem dX4_countOldResults_50 : decode cX4_countOldResults 50 = .ok (.ireturn, 1) := by decide +kernel
theorem dX4_isReplaced_0 : decode cX4_isReplaced 0 = .ok (.aload_n 0, 1) := by decide +kernel
theorem dX4_isReplaced_1 : decode cX4_isReplaced 1 = .ok (.iload_n 1, 1) := by decide +kernel
theorem dX4_isReplaced_2 : decode cX4_isReplaced 2 = .ok (.invokevirtual 82, 3) := by decide +kernel
theorem dX4_isReplaced_5 : decode cX4_isReplaced 5 = .ok (.ifCond .eq 15, 3) := by decide +kernel
theorem dX4_isReplaced_8 : decode cX4_isReplaced 8 = .ok (.aload_n 0, 1) := by decide +kernel
theorem dX4_isReplaced_9 : decode cX4_isReplaced 9 = .ok (.getfield 39, 3) := by decide +kernel
theorem dX4_isReplaced_12 : decode cX4_isReplaced 12 = .ok (.iload_n 1, 1) := by decide +kernel
theorem dX4_isReplaced_13 : decode cX4_isReplaced 13 = .ok (.aaload, 1) := by decide +kernel
theorem dX4_isReplaced_14 : decode cX4_isReplaced 14 = .ok (.invokevirtual 60, 3) := by decide +kernel
theorem dX4_isReplaced_17 : decode cX4_isReplaced 17 = .ok (.ifCond .ne 5, 3) := by decide +kernel
theorem dX4_isReplaced_20 : decode cX4_isReplaced 20 = .ok (.iconst 0, 1) := by decide +kernel
theorem dX4_isReplaced_21 : decode cX4_isReplaced 21 = .ok (.ireturn, 1) := by decide +kernel
theorem dX4_isReplaced_22 : decode cX4_isReplaced 22 = .ok (.aload_n 0, 1) := by decide +kernel
theorem dX4_isReplaced_23 : decode cX4_isReplaced 23 = .ok (.getfield 12, 3) := by decide +kernel
theorem dX4_isReplaced_26 : decode cX4_isReplaced 26 = .ok (.aload_n 0, 1) := by decide +kernel
theorem dX4_isReplaced_27 : decode cX4_isReplaced 27 = .ok (.getfield 39, 3) := by decide +kernel
theorem dX4_isReplaced_30 : decode cX4_isReplaced 30 = .ok (.iload_n 1, 1) := by decide +kernel
theorem dX4_isReplaced_31 : decode cX4_isReplaced 31 = .ok (.aaload, 1) := by decide +kernel
theorem dX4_isReplaced_32 : decode cX4_isReplaced 32 = .ok (.invokevirtual 68, 3) := by decide +kernel
theorem dX4_isReplaced_35 : decode cX4_isReplaced 35 = .ok (.invokevirtual 79, 3) := by decide +kernel
theorem dX4_isReplaced_38 : decode cX4_isReplaced 38 = .ok (.iload_n 1, 1) := by decide +kernel
theorem dX4_isReplaced_39 : decode cX4_isReplaced 39 = .ok (.if_icmp .eq 7, 3) := by decide +kernel
theorem dX4_isReplaced_42 : decode cX4_isReplaced 42 = .ok (.iconst 1, 1) := by decide +kernel
theorem dX4_isReplaced_43 : decode cX4_isReplaced 43 = .ok (.goto 4, 3) := by decide +kernel
theorem dX4_isReplaced_46 : decode cX4_isReplaced 46 = .ok (.iconst 0, 1) := by decide +kernel
theorem dX4_isReplaced_47 : decode cX4_isReplaced 47 = .ok (.ireturn, 1) := by decide +kernel
theorem dX5_init_0 : decode cX5_init 0 = .ok (.aload_n 0, 1) := by decide +kernel
theorem dX5_init_1 : decode cX5_init 1 = .ok (.invokespecial 3, 3) := by decide +kernel
theorem dX5_init_4 : decode cX5_init 4 = .ok (.aload_n 0, 1) := by decide +kernel
theorem dX5_init_5 : decode cX5_init 5 = .ok (.iload_n 1, 1) := by decide +kernel
theorem dX5_init_6 : decode cX5_init 6 = .ok (.putfield 9, 3) := by decide +kernel
theorem dX5_init_9 : decode cX5_init 9 = .ok (.aload_n 0, 1) := by decide +kernel
theorem dX5_init_10 : decode cX5_init 10 = .ok (.iload_n 2, 1) := by decide +kernel
theorem dX5_init_11 : decode cX5_init 11 = .ok (.putfield 15, 3) := by decide +kernel
theorem dX5_init_14 : decode cX5_init 14 = .ok (.aload_n 0, 1) := by decide +kernel
theorem dX5_init_15 : decode cX5_init 15 = .ok (.aload_n 3, 1) := by decide +kernel
theorem dX5_init_16 : decode cX5_init 16 = .ok (.putfield 18, 3) := by decide +kernel
theorem dX5_init_19 : decode cX5_init 19 = .ok (.aload_n 0, 1) := by decide +kernel
theorem dX5_init_20 : decode cX5_init 20 = .ok (.aload 4, 2) := by decide +kernel
theorem dX5_init_22 : decode cX5_init 22 = .ok (.putfield 22, 3) := by decide +kernel
theorem dX5_init_25 : decode cX5_init 25 = .ok (.aload_n 0, 1) := by decide +kernel
theorem dX5_init_26 : decode cX5_init 26 = .ok (.aload 5, 2) := by decide +kernel
theorem dX5_init_28 : decode cX5_init 28 = .ok (.putfield 26, 3) := by decide +kernel
theorem dX5_init_31 : decode cX5_init 31 = .ok (.return_, 1) := by decide +kernel
theorem dX5_form_0 : decode cX5_form 0 = .ok (.aload_n 0, 1) := by decide +kernel
theorem dX5_form_1 : decode cX5_form 1 = .ok (.getfield 9, 3) := by decide +kernel
theorem dX5_form_4 : decode cX5_form 4 = .ok (.ireturn, 1) := by decide +kernel
theorem dX5_declared_0 : decode cX5_declared 0 = .ok (.aload_n 0, 1) := by decide +kernel
theorem dX5_declared_1 : decode cX5_declared 1 = .ok (.getfield 15, 3) := by decide +kernel
theorem dX5_declared_4 : decode cX5_declared 4 = .ok (.ireturn, 1) := by decide +kernel
theorem dX5_code_0 : decode cX5_code 0 = .ok (.aload_n 0, 1) := by decide +kernel
theorem dX5_code_1 : decode cX5_code 1 = .ok (.getfield 26, 3) := by decide +kernel
theorem dX5_code_4 : decode cX5_code 4 = .ok (.areturn, 1) := by decide +kernel
theorem dX5_size_0 : decode cX5_size 0 = .ok (.aload_n 0, 1) := by decide +kernel
theorem dX5_size_1 : decode cX5_size 1 = .ok (.getfield 18, 3) := by decide +kernel
theorem dX5_size_4 : decode cX5_size 4 = .ok (.arraylength, 1) := by decide +kernel
theorem dX5_size_5 : decode cX5_size 5 = .ok (.ireturn, 1) := by decide +kernel
theorem dX5_partOf_0 : decode cX5_partOf 0 = .ok (.iconst 0, 1) := by decide +kernel
theorem dX5_partOf_1 : decode cX5_partOf 1 = .ok (.istore_n 3, 1) := by decide +kernel
theorem dX5_partOf_2 : decode cX5_partOf 2 = .ok (.iload_n 3, 1) := by decide +kernel
theorem dX5_partOf_3 : decode cX5_partOf 3 = .ok (.aload_n 0, 1) := by decide +kernel
theorem dX5_partOf_4 : decode cX5_partOf 4 = .ok (.getfield 18, 3) := by decide +kernel
theorem dX5_partOf_7 : decode cX5_partOf 7 = .ok (.arraylength, 1) := by decide +kernel
theorem dX5_partOf_8 : decode cX5_partOf 8 = .ok (.if_icmp .ge 23, 3) := by decide +kernel
theorem dX5_partOf_11 : decode cX5_partOf 11 = .ok (.aload_n 0, 1) := by decide +kernel
theorem dX5_partOf_12 : decode cX5_partOf 12 = .ok (.getfield 18, 3) := by decide +kernel
theorem dX5_partOf_15 : decode cX5_partOf 15 = .ok (.iload_n 3, 1) := by decide +kernel
theorem dX5_partOf_16 : decode cX5_partOf 16 = .ok (.iaload, 1) := by decide +kernel
theorem dX5_partOf_17 : decode cX5_partOf 17 = .ok (.i2l, 1) := by decide +kernel
theorem dX5_partOf_18 : decode cX5_partOf 18 = .ok (.lload_n 1, 1) := by decide +kernel
theorem dX5_partOf_19 : decode cX5_partOf 19 = .ok (.lcmp, 1) := by decide +kernel
theorem dX5_partOf_20 : decode cX5_partOf 20 = .ok (.ifCond .ne 5, 3) := by decide +kernel
theorem dX5_partOf_23 : decode cX5_partOf 23 = .ok (.iload_n 3, 1) := by decide +kernel
theorem dX5_partOf_24 : decode cX5_partOf 24 = .ok (.ireturn, 1) := by decide +kernel
theorem dX5_partOf_25 : decode cX5_partOf 25 = .ok (.iinc 3 1, 3) := by decide +kernel
theorem dX5_partOf_28 : decode cX5_partOf 28 = .ok (.goto (-26), 3) := by decide +kernel
theorem dX5_partOf_31 : decode cX5_partOf 31 = .ok (.bipush (-5), 2) := by decide +kernel
theorem dX5_partOf_33 : decode cX5_partOf 33 = .ok (.ireturn, 1) := by decide +kernel
theorem dX5_signAt_0 : decode cX5_signAt 0 = .ok (.iload_n 1, 1) := by decide +kernel
theorem dX5_signAt_1 : decode cX5_signAt 1 = .ok (.ifCond .lt 21, 3) := by decide +kernel
theorem dX5_signAt_4 : decode cX5_signAt 4 = .ok (.iload_n 1, 1) := by decide +kernel
theorem dX5_signAt_5 : decode cX5_signAt 5 = .ok (.aload_n 0, 1) := by decide +kernel
theorem dX5_signAt_6 : decode cX5_signAt 6 = .ok (.getfield 22, 3) := by decide +kernel
theorem dX5_signAt_9 : decode cX5_signAt 9 = .ok (.arraylength, 1) := by decide +kernel
theorem dX5_signAt_10 : decode cX5_signAt 10 = .ok (.if_icmp .ge 12, 3) := by decide +kernel
theorem dX5_signAt_13 : decode cX5_signAt 13 = .ok (.aload_n 0, 1) := by decide +kernel
theorem dX5_signAt_14 : decode cX5_signAt 14 = .ok (.getfield 22, 3) := by decide +kernel
theorem dX5_signAt_17 : decode cX5_signAt 17 = .ok (.iload_n 1, 1) := by decide +kernel
theorem dX5_signAt_18 : decode cX5_signAt 18 = .ok (.baload, 1) := by decide +kernel
theorem dX5_signAt_19 : decode cX5_signAt 19 = .ok (.goto 5, 3) := by decide +kernel
theorem dX5_signAt_22 : decode cX5_signAt 22 = .ok (.bipush (-5), 2) := by decide +kernel
theorem dX5_signAt_24 : decode cX5_signAt 24 = .ok (.ireturn, 1) := by decide +kernel
theorem dX5_usesName_0 : decode cX5_usesName 0 = .ok (.iconst 0, 1) := by decide +kernel
theorem dX5_usesName_1 : decode cX5_usesName 1 = .ok (.istore_n 2, 1) := by decide +kernel
theorem dX5_usesName_2 : decode cX5_usesName 2 = .ok (.iload_n 2, 1) := by decide +kernel
theorem dX5_usesName_3 : decode cX5_usesName 3 = .ok (.aload_n 0, 1) := by decide +kernel
theorem dX5_usesName_4 : decode cX5_usesName 4 = .ok (.getfield 26, 3) := by decide +kernel
theorem dX5_usesName_7 : decode cX5_usesName 7 = .ok (.invokevirtual 30, 3) := by decide +kernel
theorem dX5_usesName_10 : decode cX5_usesName 10 = .ok (.if_icmp .ge 57, 3) := by decide +kernel
theorem dX5_usesName_13 : decode cX5_usesName 13 = .ok (.aload_n 0, 1) := by decide +kernel
theorem dX5_usesName_14 : decode cX5_usesName 14 = .ok (.getfield 26, 3) := by decide +kernel
theorem dX5_usesName_17 : decode cX5_usesName 17 = .ok (.iload_n 2, 1) := by decide +kernel
theorem dX5_usesName_18 : decode cX5_usesName 18 = .ok (.invokevirtual 36, 3) := by decide +kernel
theorem dX5_usesName_21 : decode cX5_usesName 21 = .ok (.istore_n 3, 1) := by decide +kernel
theorem dX5_usesName_22 : decode cX5_usesName 22 = .ok (.iload_n 3, 1) := by decide +kernel
theorem dX5_usesName_23 : decode cX5_usesName 23 = .ok (.iconst 5, 1) := by decide +kernel
theorem dX5_usesName_24 : decode cX5_usesName 24 = .ok (.if_icmp .eq 9, 3) := by decide +kernel
theorem dX5_usesName_27 : decode cX5_usesName 27 = .ok (.iload_n 3, 1) := by decide +kernel
theorem dX5_usesName_28 : decode cX5_usesName 28 = .ok (.bipush 6, 2) := by decide +kernel
theorem dX5_usesName_30 : decode cX5_usesName 30 = .ok (.if_icmp .ne 31, 3) := by decide +kernel
theorem dX5_usesName_33 : decode cX5_usesName 33 = .ok (.aload_n 0, 1) := by decide +kernel
theorem dX5_usesName_34 : decode cX5_usesName 34 = .ok (.getfield 26, 3) := by decide +kernel
theorem dX5_usesName_37 : decode cX5_usesName 37 = .ok (.iload_n 2, 1) := by decide +kernel
theorem dX5_usesName_38 : decode cX5_usesName 38 = .ok (.invokevirtual 40, 3) := by decide +kernel
theorem dX5_usesName_41 : decode cX5_usesName 41 = .ok (.iload_n 1, 1) := by decide +kernel
theorem dX5_usesName_42 : decode cX5_usesName 42 = .ok (.i2l, 1) := by decide +kernel
theorem dX5_usesName_43 : decode cX5_usesName 43 = .ok (.lcmp, 1) := by decide +kernel
theorem dX5_usesName_44 : decode cX5_usesName 44 = .ok (.ifCond .ne 17, 3) := by decide +kernel
theorem dX5_usesName_47 : decode cX5_usesName 47 = .ok (.aload_n 0, 1) := by decide +kernel
theorem dX5_usesName_48 : decode cX5_usesName 48 = .ok (.getfield 9, 3) := by decide +kernel
theorem dX5_usesName_51 : decode cX5_usesName 51 = .ok (.iconst 2, 1) := by decide +kernel
theorem dX5_usesName_52 : decode cX5_usesName 52 = .ok (.if_icmp .ne 7, 3) := by decide +kernel
theorem dX5_usesName_55 : decode cX5_usesName 55 = .ok (.iconst 1, 1) := by decide +kernel
theorem dX5_usesName_56 : decode cX5_usesName 56 = .ok (.goto 4, 3) := by decide +kernel
theorem dX5_usesName_59 : decode cX5_usesName 59 = .ok (.iconst 0, 1) := by decide +kernel
theorem dX5_usesName_60 : decode cX5_usesName 60 = .ok (.ireturn, 1) := by decide +kernel
theorem dX5_usesName_61 : decode cX5_usesName 61 = .ok (.iinc 2 1, 3) := by decide +kernel
theorem dX5_usesName_64 : decode cX5_usesName 64 = .ok (.goto (-62), 3) := by decide +kernel
theorem dX5_usesName_67 : decode cX5_usesName 67 = .ok (.iconst 0, 1) := by decide +kernel
theorem dX5_usesName_68 : decode cX5_usesName 68 = .ok (.ireturn, 1) := by decide +kernel
theorem dX5_lacksName_0 : decode cX5_lacksName 0 = .ok (.iconst 0, 1) := by decide +kernel
theorem dX5_lacksName_1 : decode cX5_lacksName 1 = .ok (.istore_n 2, 1) := by decide +kernel
theorem dX5_lacksName_2 : decode cX5_lacksName 2 = .ok (.iload_n 2, 1) := by decide +kernel
theorem dX5_lacksName_3 : decode cX5_lacksName 3 = .ok (.aload_n 0, 1) := by decide +kernel
theorem dX5_lacksName_4 : decode cX5_lacksName 4 = .ok (.getfield 26, 3) := by decide +kernel
theorem dX5_lacksName_7 : decode cX5_lacksName 7 = .ok (.invokevirtual 30, 3) := by decide +kernel
theorem dX5_lacksName_10 : decode cX5_lacksName 10 = .ok (.if_icmp .ge 91, 3) := by decide +kernel
theorem dX5_lacksName_13 : decode cX5_lacksName 13 = .ok (.aload_n 1, 1) := by decide +kernel
theorem dX5_lacksName_14 : decode cX5_lacksName 14 = .ok (.aload_n 0, 1) := by decide +kernel
theorem dX5_lacksName_15 : decode cX5_lacksName 15 = .ok (.getfield 26, 3) := by decide +kernel
theorem dX5_lacksName_18 : decode cX5_lacksName 18 = .ok (.iload_n 2, 1) := by decide +kernel
theorem dX5_lacksName_19 : decode cX5_lacksName 19 = .ok (.invokevirtual 40, 3) := by decide +kernel
theorem dX5_lacksName_22 : decode cX5_lacksName 22 = .ok (.l2i, 1) := by decide +kernel
theorem dX5_lacksName_23 : decode cX5_lacksName 23 = .ok (.invokevirtual 44, 3) := by decide +kernel
theorem dX5_lacksName_26 : decode cX5_lacksName 26 = .ok (.istore_n 3, 1) := by decide +kernel
theorem dX5_lacksName_27 : decode cX5_lacksName 27 = .ok (.aload_n 0, 1) := by decide +kernel
theorem dX5_lacksName_28 : decode cX5_lacksName 28 = .ok (.getfield 26, 3) := by decide +kernel
theorem dX5_lacksName_31 : decode cX5_lacksName 31 = .ok (.iload_n 2, 1) := by decide +kernel
theorem dX5_lacksName_32 : decode cX5_lacksName 32 = .ok (.invokevirtual 36, 3) := by decide +kernel
theorem dX5_lacksName_35 : decode cX5_lacksName 35 = .ok (.iconst 5, 1) := by decide +kernel
theorem dX5_lacksName_36 : decode cX5_lacksName 36 = .ok (.if_icmp .ne 22, 3) := by decide +kernel
theorem dX5_lacksName_39 : decode cX5_lacksName 39 = .ok (.iload_n 3, 1) := by decide +kernel
theorem dX5_lacksName_40 : decode cX5_lacksName 40 = .ok (.iconst 1, 1) := by decide +kernel
theorem dX5_lacksName_41 : decode cX5_lacksName 41 = .ok (.if_icmp .eq 17, 3) := by decide +kernel
theorem dX5_lacksName_44 : decode cX5_lacksName 44 = .ok (.aload_n 0, 1) := by decide +kernel
theorem dX5_lacksName_45 : decode cX5_lacksName 45 = .ok (.getfield 9, 3) := by decide +kernel
theorem dX5_lacksName_48 : decode cX5_lacksName 48 = .ok (.iconst 2, 1) := by decide +kernel
theorem dX5_lacksName_49 : decode cX5_lacksName 49 = .ok (.if_icmp .ne 7, 3) := by decide +kernel
theorem dX5_lacksName_52 : decode cX5_lacksName 52 = .ok (.iconst 1, 1) := by decide +kernel
theorem dX5_lacksName_53 : decode cX5_lacksName 53 = .ok (.goto 4, 3) := by decide +kernel
theorem dX5_lacksName_56 : decode cX5_lacksName 56 = .ok (.iconst 0, 1) := by decide +kernel
theorem dX5_lacksName_57 : decode cX5_lacksName 57 = .ok (.ireturn, 1) := by decide +kernel
theorem dX5_lacksName_58 : decode cX5_lacksName 58 = .ok (.aload_n 0, 1) := by decide +kernel
theorem dX5_lacksName_59 : decode cX5_lacksName 59 = .ok (.getfield 26, 3) := by decide +kernel
theorem dX5_lacksName_62 : decode cX5_lacksName 62 = .ok (.iload_n 2, 1) := by decide +kernel
theorem dX5_lacksName_63 : decode cX5_lacksName 63 = .ok (.invokevirtual 36, 3) := by decide +kernel
theorem dX5_lacksName_66 : decode cX5_lacksName 66 = .ok (.bipush 6, 2) := by decide +kernel
theorem dX5_lacksName_68 : decode cX5_lacksName 68 = .ok (.if_icmp .ne 27, 3) := by decide +kernel
theorem dX5_lacksName_71 : decode cX5_lacksName 71 = .ok (.iload_n 3, 1) := by decide +kernel
theorem dX5_lacksName_72 : decode cX5_lacksName 72 = .ok (.iconst 2, 1) := by decide +kernel
theorem dX5_lacksName_73 : decode cX5_lacksName 73 = .ok (.if_icmp .eq 22, 3) := by decide +kernel
theorem dX5_lacksName_76 : decode cX5_lacksName 76 = .ok (.iload_n 3, 1) := by decide +kernel
theorem dX5_lacksName_77 : decode cX5_lacksName 77 = .ok (.iconst 3, 1) := by decide +kernel
theorem dX5_lacksName_78 : decode cX5_lacksName 78 = .ok (.if_icmp .eq 17, 3) := by decide +kernel
theorem dX5_lacksName_81 : decode cX5_lacksName 81 = .ok (.aload_n 0, 1) := by decide +kernel
theorem dX5_lacksName_82 : decode cX5_lacksName 82 = .ok (.getfield 9, 3) := by decide +kernel
theorem dX5_lacksName_85 : decode cX5_lacksName 85 = .ok (.iconst 2, 1) := by decide +kernel
theorem dX5_lacksName_86 : decode cX5_lacksName 86 = .ok (.if_icmp .ne 7, 3) := by decide +kernel
theorem dX5_lacksName_89 : decode cX5_lacksName 89 = .ok (.iconst 1, 1) := by decide +kernel
theorem dX5_lacksName_90 : decode cX5_lacksName 90 = .ok (.goto 4, 3) := by decide +kernel
theorem dX5_lacksName_93 : decode cX5_lacksName 93 = .ok (.iconst 0, 1) := by decide +kernel
theorem dX5_lacksName_94 : decode cX5_lacksName 94 = .ok (.ireturn, 1) := by decide +kernel
theorem dX5_lacksName_95 : decode cX5_lacksName 95 = .ok (.iinc 2 1, 3) := by decide +kernel
theorem dX5_lacksName_98 : decode cX5_lacksName 98 = .ok (.goto (-96), 3) := by decide +kernel
theorem dX5_lacksName_101 : decode cX5_lacksName 101 = .ok (.iconst 0, 1) := by decide +kernel
theorem dX5_lacksName_102 : decode cX5_lacksName 102 = .ok (.ireturn, 1) := by decide +kernel
theorem dX6_init_0 : decode cX6_init 0 = .ok (.aload_n 0, 1) := by decide +kernel
theorem dX6_init_1 : decode cX6_init 1 = .ok (.invokespecial 3, 3) := by decide +kernel
theorem dX6_init_4 : decode cX6_init 4 = .ok (.aload_n 0, 1) := by decide +kernel
theorem dX6_init_5 : decode cX6_init 5 = .ok (.bipush 32, 2) := by decide +kernel
theorem dX6_init_7 : decode cX6_init 7 = .ok (.newarray .int, 2) := by decide +kernel
theorem dX6_init_9 : decode cX6_init 9 = .ok (.putfield 11, 3) := by decide +kernel
theorem dX6_init_12 : decode cX6_init 12 = .ok (.aload_n 0, 1) := by decide +kernel
theorem dX6_init_13 : decode cX6_init 13 = .ok (.bipush 32, 2) := by decide +kernel
theorem dX6_init_15 : decode cX6_init 15 = .ok (.newarray .int, 2) := by decide +kernel
theorem dX6_init_17 : decode cX6_init 17 = .ok (.putfield 15, 3) := by decide +kernel
theorem dX6_init_20 : decode cX6_init 20 = .ok (.aload_n 0, 1) := by decide +kernel
theorem dX6_init_21 : decode cX6_init 21 = .ok (.bipush 32, 2) := by decide +kernel
theorem dX6_init_23 : decode cX6_init 23 = .ok (.newarray .int, 2) := by decide +kernel
theorem dX6_init_25 : decode cX6_init 25 = .ok (.putfield 18, 3) := by decide +kernel
theorem dX6_init_28 : decode cX6_init 28 = .ok (.aload_n 0, 1) := by decide +kernel
theorem dX6_init_29 : decode cX6_init 29 = .ok (.bipush 96, 2) := by decide +kernel
theorem dX6_init_31 : decode cX6_init 31 = .ok (.newarray .int, 2) := by decide +kernel
theorem dX6_init_33 : decode cX6_init 33 = .ok (.putfield 21, 3) := by decide +kernel
theorem dX6_init_36 : decode cX6_init 36 = .ok (.aload_n 0, 1) := by decide +kernel
theorem dX6_init_37 : decode cX6_init 37 = .ok (.bipush 96, 2) := by decide +kernel
theorem dX6_init_39 : decode cX6_init 39 = .ok (.newarray .long, 2) := by decide +kernel
theorem dX6_init_41 : decode cX6_init 41 = .ok (.putfield 24, 3) := by decide +kernel
theorem dX6_init_44 : decode cX6_init 44 = .ok (.return_, 1) := by decide +kernel
theorem dX6_size_0 : decode cX6_size 0 = .ok (.aload_n 0, 1) := by decide +kernel
theorem dX6_size_1 : decode cX6_size 1 = .ok (.getfield 28, 3) := by decide +kernel
theorem dX6_size_4 : decode cX6_size 4 = .ok (.ireturn, 1) := by decide +kernel
theorem dX6_dropFrom_0 : decode cX6_dropFrom 0 = .ok (.iload_n 1, 1) := by decide +kernel
theorem dX6_dropFrom_1 : decode cX6_dropFrom 1 = .ok (.ifCond .lt 16, 3) := by decide +kernel
theorem dX6_dropFrom_4 : decode cX6_dropFrom 4 = .ok (.iload_n 1, 1) := by decide +kernel
theorem dX6_dropFrom_5 : decode cX6_dropFrom 5 = .ok (.aload_n 0, 1) := by decide +kernel
theorem dX6_dropFrom_6 : decode cX6_dropFrom 6 = .ok (.getfield 28, 3) := by decide +kernel
theorem dX6_dropFrom_9 : decode cX6_dropFrom 9 = .ok (.if_icmp .ge 8, 3) := by decide +kernel
theorem dX6_dropFrom_12 : decode cX6_dropFrom 12 = .ok (.aload_n 0, 1) := by decide +kernel
theorem dX6_dropFrom_13 : decode cX6_dropFrom 13 = .ok (.iload_n 1, 1) := by decide +kernel
theorem dX6_dropFrom_14 : decode cX6_dropFrom 14 = .ok (.putfield 28, 3) := by decide +kernel
theorem dX6_dropFrom_17 : decode cX6_dropFrom 17 = .ok (.return_, 1) := by decide +kernel
theorem dX6_make_0 : decode cX6_make 0 = .ok (.aload_n 0, 1) := by decide +kernel
theorem dX6_make_1 : decode cX6_make 1 = .ok (.getfield 28, 3) := by decide +kernel
theorem dX6_make_4 : decode cX6_make 4 = .ok (.aload_n 0, 1) := by decide +kernel
theorem dX6_make_5 : decode cX6_make 5 = .ok (.getfield 11, 3) := by decide +kernel
theorem dX6_make_8 : decode cX6_make 8 = .ok (.arraylength, 1) := by decide +kernel
theorem dX6_make_9 : decode cX6_make 9 = .ok (.if_icmp .lt 7, 3) := by decide +kernel
theorem dX6_make_12 : decode cX6_make 12 = .ok (.aload_n 0, 1) := by decide +kernel
theorem dX6_make_13 : decode cX6_make 13 = .ok (.invokevirtual 32, 3) := by decide +kernel
theorem dX6_make_16 : decode cX6_make 16 = .ok (.aload_n 0, 1) := by decide +kernel
theorem dX6_make_17 : decode cX6_make 17 = .ok (.getfield 11, 3) := by decide +kernel
theorem dX6_make_20 : decode cX6_make 20 = .ok (.aload_n 0, 1) := by decide +kernel
theorem dX6_make_21 : decode cX6_make 21 = .ok (.getfield 28, 3) := by decide +kernel
theorem dX6_make_24 : decode cX6_make 24 = .ok (.iload_n 1, 1) := by decide +kernel
theorem dX6_make_25 : decode cX6_make 25 = .ok (.iastore, 1) := by decide +kernel
theorem dX6_make_26 : decode cX6_make 26 = .ok (.aload_n 0, 1) := by decide +kernel
theorem dX6_make_27 : decode cX6_make 27 = .ok (.getfield 15, 3) := by decide +kernel
theorem dX6_make_30 : decode cX6_make 30 = .ok (.aload_n 0, 1) := by decide +kernel
theorem dX6_make_31 : decode cX6_make 31 = .ok (.getfield 28, 3) := by decide +kernel
theorem dX6_make_34 : decode cX6_make 34 = .ok (.iload_n 2, 1) := by decide +kernel
theorem dX6_make_35 : decode cX6_make 35 = .ok (.iastore, 1) := by decide +kernel
theorem dX6_make_36 : decode cX6_make 36 = .ok (.aload_n 0, 1) := by decide +kernel
theorem dX6_make_37 : decode cX6_make 37 = .ok (.getfield 18, 3) := by decide +kernel
theorem dX6_make_40 : decode cX6_make 40 = .ok (.aload_n 0, 1) := by decide +kernel
theorem dX6_make_41 : decode cX6_make 41 = .ok (.getfield 28, 3) := by decide +kernel
theorem dX6_make_44 : decode cX6_make 44 = .ok (.iload 5, 2) := by decide +kernel
theorem dX6_make_46 : decode cX6_make 46 = .ok (.iastore, 1) := by decide +kernel
theorem dX6_make_47 : decode cX6_make 47 = .ok (.iconst 0, 1) := by decide +kernel
theorem dX6_make_48 : decode cX6_make 48 = .ok (.istore 6, 2) := by decide +kernel
theorem dX6_make_50 : decode cX6_make 50 = .ok (.iload 6, 2) := by decide +kernel
theorem dX6_make_52 : decode cX6_make 52 = .ok (.iload 5, 2) := by decide +kernel
theorem dX6_make_54 : decode cX6_make 54 = .ok (.if_icmp .ge 61, 3) := by decide +kernel
theorem dX6_make_57 : decode cX6_make 57 = .ok (.iload 6, 2) := by decide +kernel
theorem dX6_make_59 : decode cX6_make 59 = .ok (.iconst 3, 1) := by decide +kernel
theorem dX6_make_60 : decode cX6_make 60 = .ok (.if_icmp .ge 55, 3) := by decide +kernel
theorem dX6_make_63 : decode cX6_make 63 = .ok (.aload_n 0, 1) := by decide +kernel
theorem dX6_make_64 : decode cX6_make 64 = .ok (.getfield 21, 3) := by decide +kernel
theorem dX6_make_67 : decode cX6_make 67 = .ok (.aload_n 0, 1) := by decide +kernel
theorem dX6_make_68 : decode cX6_make 68 = .ok (.getfield 28, 3) := by decide +kernel
theorem dX6_make_71 : decode cX6_make 71 = .ok (.iconst 3, 1) := by decide +kernel
theorem dX6_make_72 : decode cX6_make 72 = .ok (.imul, 1) := by decide +kernel
theorem dX6_make_73 : decode cX6_make 73 = .ok (.iload 6, 2) := by decide +kernel
theorem dX6_make_75 : decode cX6_make 75 = .ok (.iadd, 1) := by decide +kernel
theorem dX6_make_76 : decode cX6_make 76 = .ok (.aload_n 3, 1) := by decide +kernel
theorem dX6_make_77 : decode cX6_make 77 = .ok (.iload 4, 2) := by decide +kernel
theorem dX6_make_79 : decode cX6_make 79 = .ok (.iload 6, 2) := by decide +kernel
theorem dX6_make_81 : decode cX6_make 81 = .ok (.iadd, 1) := by decide +kernel
theorem dX6_make_82 : decode cX6_make 82 = .ok (.invokevirtual 35, 3) := by decide +kernel
theorem dX6_make_85 : decode cX6_make 85 = .ok (.iastore, 1) := by decide +kernel
theorem dX6_make_86 : decode cX6_make 86 = .ok (.aload_n 0, 1) := by decide +kernel
theorem dX6_make_87 : decode cX6_make 87 = .ok (.getfield 24, 3) := by decide +kernel
theorem dX6_make_90 : decode cX6_make 90 = .ok (.aload_n 0, 1) := by decide +kernel
theorem dX6_make_91 : decode cX6_make 91 = .ok (.getfield 28, 3) := by decide +kernel
theorem dX6_make_94 : decode cX6_make 94 = .ok (.iconst 3, 1) := by decide +kernel
theorem dX6_make_95 : decode cX6_make 95 = .ok (.imul, 1) := by decide +kernel
theorem dX6_make_96 : decode cX6_make 96 = .ok (.iload 6, 2) := by decide +kernel
theorem dX6_make_98 : decode cX6_make 98 = .ok (.iadd, 1) := by decide +kernel
theorem dX6_make_99 : decode cX6_make 99 = .ok (.aload_n 3, 1) := by decide +kernel
theorem dX6_make_100 : decode cX6_make 100 = .ok (.iload 4, 2) := by decide +kernel
theorem dX6_make_102 : decode cX6_make 102 = .ok (.iload 6, 2) := by decide +kernel
theorem dX6_make_104 : decode cX6_make 104 = .ok (.iadd, 1) := by decide +kernel
theorem dX6_make_105 : decode cX6_make 105 = .ok (.invokevirtual 41, 3) := by decide +kernel
theorem dX6_make_108 : decode cX6_make 108 = .ok (.lastore, 1) := by decide +kernel
theorem dX6_make_109 : decode cX6_make 109 = .ok (.iinc 6 1, 3) := by decide +kernel
theorem dX6_make_112 : decode cX6_make 112 = .ok (.goto (-62), 3) := by decide +kernel
theorem dX6_make_115 : decode cX6_make 115 = .ok (.aload_n 0, 1) := by decide +kernel
theorem dX6_make_116 : decode cX6_make 116 = .ok (.dup, 1) := by decide +kernel
theorem dX6_make_117 : decode cX6_make 117 = .ok (.getfield 28, 3) := by decide +kernel
theorem dX6_make_120 : decode cX6_make 120 = .ok (.iconst 1, 1) := by decide +kernel
theorem dX6_make_121 : decode cX6_make 121 = .ok (.iadd, 1) := by decide +kernel
theorem dX6_make_122 : decode cX6_make 122 = .ok (.putfield 28, 3) := by decide +kernel
theorem dX6_make_125 : decode cX6_make 125 = .ok (.aload_n 0, 1) := by decide +kernel
theorem dX6_make_126 : decode cX6_make 126 = .ok (.getfield 28, 3) := by decide +kernel
theorem dX6_make_129 : decode cX6_make 129 = .ok (.iconst 1, 1) := by decide +kernel
theorem dX6_make_130 : decode cX6_make 130 = .ok (.isub, 1) := by decide +kernel
theorem dX6_make_131 : decode cX6_make 131 = .ok (.ireturn, 1) := by decide +kernel
theorem dX6_typeOf_0 : decode cX6_typeOf 0 = .ok (.aload_n 0, 1) := by decide +kernel
theorem dX6_typeOf_1 : decode cX6_typeOf 1 = .ok (.iload_n 1, 1) := by decide +kernel
theorem dX6_typeOf_2 : decode cX6_typeOf 2 = .ok (.invokevirtual 45, 3) := by decide +kernel
theorem dX6_typeOf_5 : decode cX6_typeOf 5 = .ok (.ifCond .eq 12, 3) := by decide +kernel
theorem dX6_typeOf_8 : decode cX6_typeOf 8 = .ok (.aload_n 0, 1) := by decide +kernel
theorem dX6_typeOf_9 : decode cX6_typeOf 9 = .ok (.getfield 11, 3) := by decide +kernel
theorem dX6_typeOf_12 : decode cX6_typeOf 12 = .ok (.iload_n 1, 1) := by decide +kernel
theorem dX6_typeOf_13 : decode cX6_typeOf 13 = .ok (.iaload, 1) := by decide +kernel
theorem dX6_typeOf_14 : decode cX6_typeOf 14 = .ok (.goto 5, 3) := by decide +kernel
theorem dX6_typeOf_17 : decode cX6_typeOf 17 = .ok (.bipush (-5), 2) := by decide +kernel
theorem dX6_typeOf_19 : decode cX6_typeOf 19 = .ok (.ireturn, 1) := by decide +kernel
theorem dX6_editionOf_0 : decode cX6_editionOf 0 = .ok (.aload_n 0, 1) := by decide +kernel
theorem dX6_editionOf_1 : decode cX6_editionOf 1 = .ok (.iload_n 1, 1) := by decide +kernel
theorem dX6_editionOf_2 : decode cX6_editionOf 2 = .ok (.invokevirtual 45, 3) := by decide +kernel
theorem dX6_editionOf_5 : decode cX6_editionOf 5 = .ok (.ifCond .eq 12, 3) := by decide +kernel
theorem dX6_editionOf_8 : decode cX6_editionOf 8 = .ok (.aload_n 0, 1) := by decide +kernel
theorem dX6_editionOf_9 : decode cX6_editionOf 9 = .ok (.getfield 15, 3) := by decide +kernel
theorem dX6_editionOf_12 : decode cX6_editionOf 12 = .ok (.iload_n 1, 1) := by decide +kernel
theorem dX6_editionOf_13 : decode cX6_editionOf 13 = .ok (.iaload, 1) := by decide +kernel
theorem dX6_editionOf_14 : decode cX6_editionOf 14 = .ok (.goto 4, 3) := by decide +kernel
theorem dX6_editionOf_17 : decode cX6_editionOf 17 = .ok (.iconst 0, 1) := by decide +kernel
theorem dX6_editionOf_18 : decode cX6_editionOf 18 = .ok (.ireturn, 1) := by decide +kernel
theorem dX6_sizeOf_0 : decode cX6_sizeOf 0 = .ok (.aload_n 0, 1) := by decide +kernel
theorem dX6_sizeOf_1 : decode cX6_sizeOf 1 = .ok (.iload_n 1, 1) := by decide +kernel
theorem dX6_sizeOf_2 : decode cX6_sizeOf 2 = .ok (.invokevirtual 45, 3) := by decide +kernel
theorem dX6_sizeOf_5 : decode cX6_sizeOf 5 = .ok (.ifCond .eq 12, 3) := by decide +kernel
theorem dX6_sizeOf_8 : decode cX6_sizeOf 8 = .ok (.aload_n 0, 1) := by decide +kernel
theorem dX6_sizeOf_9 : decode cX6_sizeOf 9 = .ok (.getfield 18, 3) := by decide +kernel
theorem dX6_sizeOf_12 : decode cX6_sizeOf 12 = .ok (.iload_n 1, 1) := by decide +kernel
theorem dX6_sizeOf_13 : decode cX6_sizeOf 13 = .ok (.iaload, 1) := by decide +kernel
theorem dX6_sizeOf_14 : decode cX6_sizeOf 14 = .ok (.goto 4, 3) := by decide +kernel
theorem dX6_sizeOf_17 : decode cX6_sizeOf 17 = .ok (.iconst 0, 1) := by decide +kernel
theorem dX6_sizeOf_18 : decode cX6_sizeOf 18 = .ok (.ireturn, 1) := by decide +kernel
theorem dX6_fieldKind_0 : decode cX6_fieldKind 0 = .ok (.aload_n 0, 1) := by decide +kernel
theorem dX6_fieldKind_1 : decode cX6_fieldKind 1 = .ok (.iload_n 1, 1) := by decide +kernel
theorem dX6_fieldKind_2 : decode cX6_fieldKind 2 = .ok (.iload_n 2, 1) := by decide +kernel
theorem dX6_fieldKind_3 : decode cX6_fieldKind 3 = .ok (.invokevirtual 49, 3) := by decide +kernel
theorem dX6_fieldKind_6 : decode cX6_fieldKind 6 = .ok (.ifCond .eq 16, 3) := by decide +kernel
theorem dX6_fieldKind_9 : decode cX6_fieldKind 9 = .ok (.aload_n 0, 1) := by decide +kernel
theorem dX6_fieldKind_10 : decode cX6_fieldKind 10 = .ok (.getfield 21, 3) := by decide +kernel
theorem dX6_fieldKind_13 : decode cX6_fieldKind 13 = .ok (.iload_n 1, 1) := by decide +kernel
theorem dX6_fieldKind_14 : decode cX6_fieldKind 14 = .ok (.iconst 3, 1) := by decide +kernel
theorem dX6_fieldKind_15 : decode cX6_fieldKind 15 = .ok (.imul, 1) := by decide +kernel
theorem dX6_fieldKind_16 : decode cX6_fieldKind 16 = .ok (.iload_n 2, 1) := by decide +kernel
theorem dX6_fieldKind_17 : decode cX6_fieldKind 17 = .ok (.iadd, 1) := by decide +kernel
theorem dX6_fieldKind_18 : decode cX6_fieldKind 18 = .ok (.iaload, 1) := by decide +kernel
theorem dX6_fieldKind_19 : decode cX6_fieldKind 19 = .ok (.goto 5, 3) := by decide +kernel
theorem dX6_fieldKind_22 : decode cX6_fieldKind 22 = .ok (.bipush (-5), 2) := by decide +kernel
theorem dX6_fieldKind_24 : decode cX6_fieldKind 24 = .ok (.ireturn, 1) := by decide +kernel
theorem dX6_fieldCore_0 : decode cX6_fieldCore 0 = .ok (.aload_n 0, 1) := by decide +kernel
theorem dX6_fieldCore_1 : decode cX6_fieldCore 1 = .ok (.iload_n 1, 1) := by decide +kernel
theorem dX6_fieldCore_2 : decode cX6_fieldCore 2 = .ok (.iload_n 2, 1) := by decide +kernel
theorem dX6_fieldCore_3 : decode cX6_fieldCore 3 = .ok (.invokevirtual 49, 3) := by decide +kernel
theorem dX6_fieldCore_6 : decode cX6_fieldCore 6 = .ok (.ifCond .eq 16, 3) := by decide +kernel
theorem dX6_fieldCore_9 : decode cX6_fieldCore 9 = .ok (.aload_n 0, 1) := by decide +kernel
theorem dX6_fieldCore_10 : decode cX6_fieldCore 10 = .ok (.getfield 24, 3) := by decide +kernel
theorem dX6_fieldCore_13 : decode cX6_fieldCore 13 = .ok (.iload_n 1, 1) := by decide +kernel
theorem dX6_fieldCore_14 : decode cX6_fieldCore 14 = .ok (.iconst 3, 1) := by decide +kernel
theorem dX6_fieldCore_15 : decode cX6_fieldCore 15 = .ok (.imul, 1) := by decide +kernel
theorem dX6_fieldCore_16 : decode cX6_fieldCore 16 = .ok (.iload_n 2, 1) := by decide +kernel
theorem dX6_fieldCore_17 : decode cX6_fieldCore 17 = .ok (.iadd, 1) := by decide +kernel
theorem dX6_fieldCore_18 : decode cX6_fieldCore 18 = .ok (.laload, 1) := by decide +kernel
theorem dX6_fieldCore_19 : decode cX6_fieldCore 19 = .ok (.goto 4, 3) := by decide +kernel
theorem dX6_fieldCore_23 : decode cX6_fieldCore 23 = .ok (.lreturn, 1) := by decide +kernel
theorem dX6_has_0 : decode cX6_has 0 = .ok (.iload_n 1, 1) := by decide +kernel
theorem dX6_has_1 : decode cX6_has 1 = .ok (.ifCond .lt 15, 3) := by decide +kernel
theorem dX6_has_4 : decode cX6_has 4 = .ok (.iload_n 1, 1) := by decide +kernel
theorem dX6_has_5 : decode cX6_has 5 = .ok (.aload_n 0, 1) := by decide +kernel
theorem dX6_has_6 : decode cX6_has 6 = .ok (.getfield 28, 3) := by decide +kernel
theorem dX6_has_9 : decode cX6_has 9 = .ok (.if_icmp .ge 7, 3) := by decide +kernel
theorem dX6_has_12 : decode cX6_has 12 = .ok (.iconst 1, 1) := by decide +kernel
theorem dX6_has_13 : decode cX6_has 13 = .ok (.goto 4, 3) := by decide +kernel
theorem dX6_has_16 : decode cX6_has 16 = .ok (.iconst 0, 1) := by decide +kernel
theorem dX6_has_17 : decode cX6_has 17 = .ok (.ireturn, 1) := by decide +kernel
theorem dX6_hasField_0 : decode cX6_hasField 0 = .ok (.aload_n 0, 1) := by decide +kernel
theorem dX6_hasField_1 : decode cX6_hasField 1 = .ok (.iload_n 1, 1) := by decide +kernel
theorem dX6_hasField_2 : decode cX6_hasField 2 = .ok (.invokevirtual 45, 3) := by decide +kernel
theorem dX6_hasField_5 : decode cX6_hasField 5 = .ok (.ifCond .eq 26, 3) := by decide +kernel
theorem dX6_hasField_8 : decode cX6_hasField 8 = .ok (.iload_n 2, 1) := by decide +kernel
theorem dX6_hasField_9 : decode cX6_hasField 9 = .ok (.ifCond .lt 22, 3) := by decide +kernel
theorem dX6_hasField_12 : decode cX6_hasField 12 = .ok (.iload_n 2, 1) := by decide +kernel
theorem dX6_hasField_13 : decode cX6_hasField 13 = .ok (.aload_n 0, 1) := by decide +kernel
theorem dX6_hasField_14 : decode cX6_hasField 14 = .ok (.getfield 18, 3) := by decide +kernel
theorem dX6_hasField_17 : decode cX6_hasField 17 = .ok (.iload_n 1, 1) := by decide +kernel
theorem dX6_hasField_18 : decode cX6_hasField 18 = .ok (.iaload, 1) := by decide +kernel
theorem dX6_hasField_19 : decode cX6_hasField 19 = .ok (.if_icmp .ge 12, 3) := by decide +kernel
theorem dX6_hasField_22 : decode cX6_hasField 22 = .ok (.iload_n 2, 1) := by decide +kernel
theorem dX6_hasField_23 : decode cX6_hasField 23 = .ok (.iconst 3, 1) := by decide +kernel
theorem dX6_hasField_24 : decode cX6_hasField 24 = .ok (.if_icmp .ge 7, 3) := by decide +kernel
theorem dX6_hasField_27 : decode cX6_hasField 27 = .ok (.iconst 1, 1) := by decide +kernel
theorem dX6_hasField_28 : decode cX6_hasField 28 = .ok (.goto 4, 3) := by decide +kernel
theorem dX6_hasField_31 : decode cX6_hasField 31 = .ok (.iconst 0, 1) := by decide +kernel
theorem dX6_hasField_32 : decode cX6_hasField 32 = .ok (.ireturn, 1) := by decide +kernel
theorem dX6_doubleRoom_0 : decode cX6_doubleRoom 0 = .ok (.aload_n 0, 1) := by decide +kernel
theorem dX6_doubleRoom_1 : decode cX6_doubleRoom 1 = .ok (.aload_n 0, 1) := by decide +kernel
theorem dX6_doubleRoom_2 : decode cX6_doubleRoom 2 = .ok (.getfield 11, 3) := by decide +kernel
theorem dX6_doubleRoom_5 : decode cX6_doubleRoom 5 = .ok (.iconst 2, 1) := by decide +kernel
theorem dX6_doubleRoom_6 : decode cX6_doubleRoom 6 = .ok (.aload_n 0, 1) := by decide +kernel
theorem dX6_doubleRoom_7 : decode cX6_doubleRoom 7 = .ok (.getfield 11, 3) := by decide +kernel
theorem dX6_doubleRoom_10 : decode cX6_doubleRoom 10 = .ok (.arraylength, 1) := by decide +kernel
theorem dX6_doubleRoom_11 : decode cX6_doubleRoom 11 = .ok (.imul, 1) := by decide +kernel
theorem dX6_doubleRoom_12 : decode cX6_doubleRoom 12 = .ok (.invokestatic 53, 3) := by decide +kernel
theorem dX6_doubleRoom_15 : decode cX6_doubleRoom 15 = .ok (.putfield 11, 3) := by decide +kernel
theorem dX6_doubleRoom_18 : decode cX6_doubleRoom 18 = .ok (.aload_n 0, 1) := by decide +kernel
theorem dX6_doubleRoom_19 : decode cX6_doubleRoom 19 = .ok (.aload_n 0, 1) := by decide +kernel
theorem dX6_doubleRoom_20 : decode cX6_doubleRoom 20 = .ok (.getfield 15, 3) := by decide +kernel
theorem dX6_doubleRoom_23 : decode cX6_doubleRoom 23 = .ok (.iconst 2, 1) := by decide +kernel
theorem dX6_doubleRoom_24 : decode cX6_doubleRoom 24 = .ok (.aload_n 0, 1) := by decide +kernel
theorem dX6_doubleRoom_25 : decode cX6_doubleRoom 25 = .ok (.getfield 15, 3) := by decide +kernel
theorem dX6_doubleRoom_28 : decode cX6_doubleRoom 28 = .ok (.arraylength, 1) := by decide +kernel
theorem dX6_doubleRoom_29 : decode cX6_doubleRoom 29 = .ok (.imul, 1) := by decide +kernel
theorem dX6_doubleRoom_30 : decode cX6_doubleRoom 30 = .ok (.invokestatic 53, 3) := by decide +kernel
theorem dX6_doubleRoom_33 : decode cX6_doubleRoom 33 = .ok (.putfield 15, 3) := by decide +kernel
theorem dX6_doubleRoom_36 : decode cX6_doubleRoom 36 = .ok (.aload_n 0, 1) := by decide +kernel
theorem dX6_doubleRoom_37 : decode cX6_doubleRoom 37 = .ok (.aload_n 0, 1) := by decide +kernel
theorem dX6_doubleRoom_38 : decode cX6_doubleRoom 38 = .ok (.getfield 18, 3) := by decide +kernel
theorem dX6_doubleRoom_41 : decode cX6_doubleRoom 41 = .ok (.iconst 2, 1) := by decide +kernel
theorem dX6_doubleRoom_42 : decode cX6_doubleRoom 42 = .ok (.aload_n 0, 1) := by decide +kernel
theorem dX6_doubleRoom_43 : decode cX6_doubleRoom 43 = .ok (.getfield 18, 3) := by decide +kernel
theorem dX6_doubleRoom_46 : decode cX6_doubleRoom 46 = .ok (.arraylength, 1) := by decide +kernel
theorem dX6_doubleRoom_47 : decode cX6_doubleRoom 47 = .ok (.imul, 1) := by decide +kernel
theorem dX6_doubleRoom_48 : decode cX6_doubleRoom 48 = .ok (.invokestatic 53, 3) := by decide +kernel
theorem dX6_doubleRoom_51 : decode cX6_doubleRoom 51 = .ok (.putfield 18, 3) := by decide +kernel
theorem dX6_doubleRoom_54 : decode cX6_doubleRoom 54 = .ok (.aload_n 0, 1) := by decide +kernel
theorem dX6_doubleRoom_55 : decode cX6_doubleRoom 55 = .ok (.aload_n 0, 1) := by decide +kernel
theorem dX6_doubleRoom_56 : decode cX6_doubleRoom 56 = .ok (.getfield 21, 3) := by decide +kernel
theorem dX6_doubleRoom_59 : decode cX6_doubleRoom 59 = .ok (.iconst 2, 1) := by decide +kernel
theorem dX6_doubleRoom_60 : decode cX6_doubleRoom 60 = .ok (.aload_n 0, 1) := by decide +kernel
theorem dX6_doubleRoom_61 : decode cX6_doubleRoom 61 = .ok (.getfield 21, 3) := by decide +kernel
theorem dX6_doubleRoom_64 : decode cX6_doubleRoom 64 = .ok (.arraylength, 1) := by decide +kernel
theorem dX6_doubleRoom_65 : decode cX6_doubleRoom 65 = .ok (.imul, 1) := by decide +kernel
theorem dX6_doubleRoom_66 : decode cX6_doubleRoom 66 = .ok (.invokestatic 53, 3) := by decide +kernel
theorem dX6_doubleRoom_69 : decode cX6_doubleRoom 69 = .ok (.putfield 21, 3) := by decide +kernel
theorem dX6_doubleRoom_72 : decode cX6_doubleRoom 72 = .ok (.aload_n 0, 1) := by decide +kernel
theorem dX6_doubleRoom_73 : decode cX6_doubleRoom 73 = .ok (.aload_n 0, 1) := by decide +kernel
theorem dX6_doubleRoom_74 : decode cX6_doubleRoom 74 = .ok (.getfield 24, 3) := by decide +kernel
theorem dX6_doubleRoom_77 : decode cX6_doubleRoom 77 = .ok (.iconst 2, 1) := by decide +kernel
theorem dX6_doubleRoom_78 : decode cX6_doubleRoom 78 = .ok (.aload_n 0, 1) := by decide +kernel
theorem dX6_doubleRoom_79 : decode cX6_doubleRoom 79 = .ok (.getfield 24, 3) := by decide +kernel
theorem dX6_doubleRoom_82 : decode cX6_doubleRoom 82 = .ok (.arraylength, 1) := by decide +kernel
theorem dX6_doubleRoom_83 : decode cX6_doubleRoom 83 = .ok (.imul, 1) := by decide +kernel
theorem dX6_doubleRoom_84 : decode cX6_doubleRoom 84 = .ok (.invokestatic 59, 3) := by decide +kernel
theorem dX6_doubleRoom_87 : decode cX6_doubleRoom 87 = .ok (.putfield 24, 3) := by decide +kernel
theorem dX6_doubleRoom_90 : decode cX6_doubleRoom 90 = .ok (.return_, 1) := by decide +kernel
theorem dX7_init_0 : decode cX7_init 0 = .ok (.aload_n 0, 1) := by decide +kernel
theorem dX7_init_1 : decode cX7_init 1 = .ok (.invokespecial 1, 3) := by decide +kernel
theorem dX7_init_4 : decode cX7_init 4 = .ok (.aload_n 0, 1) := by decide +kernel
theorem dX7_init_5 : decode cX7_init 5 = .ok (.bipush 62, 2) := by decide +kernel
theorem dX7_init_7 : decode cX7_init 7 = .ok (.newarray .int, 2) := by decide +kernel
theorem dX7_init_9 : decode cX7_init 9 = .ok (.putfield 9, 3) := by decide +kernel
theorem dX7_init_12 : decode cX7_init 12 = .ok (.aload_n 0, 1) := by decide +kernel
theorem dX7_init_13 : decode cX7_init 13 = .ok (.bipush 62, 2) := by decide +kernel
theorem dX7_init_15 : decode cX7_init 15 = .ok (.newarray .int, 2) := by decide +kernel
theorem dX7_init_17 : decode cX7_init 17 = .ok (.putfield 13, 3) := by decide +kernel
theorem dX7_init_20 : decode cX7_init 20 = .ok (.aload_n 0, 1) := by decide +kernel
theorem dX7_init_21 : decode cX7_init 21 = .ok (.bipush 62, 2) := by decide +kernel
theorem dX7_init_23 : decode cX7_init 23 = .ok (.newarray .long, 2) := by decide +kernel
theorem dX7_init_25 : decode cX7_init 25 = .ok (.putfield 16, 3) := by decide +kernel
theorem dX7_init_28 : decode cX7_init 28 = .ok (.return_, 1) := by decide +kernel
theorem dX7_cut_0 : decode cX7_cut 0 = .ok (.aload_n 0, 1) := by decide +kernel
theorem dX7_cut_1 : decode cX7_cut 1 = .ok (.iconst 0, 1) := by decide +kernel
theorem dX7_cut_2 : decode cX7_cut 2 = .ok (.putfield 20, 3) := by decide +kernel
theorem dX7_cut_5 : decode cX7_cut 5 = .ok (.aload_n 1, 1) := by decide +kernel
theorem dX7_cut_6 : decode cX7_cut 6 = .ok (.iconst 0, 1) := by decide +kernel
theorem dX7_cut_7 : decode cX7_cut 7 = .ok (.iload_n 2, 1) := by decide +kernel
theorem dX7_cut_8 : decode cX7_cut 8 = .ok (.invokestatic 24, 3) := by decide +kernel
theorem dX7_cut_11 : decode cX7_cut 11 = .ok (.istore_n 3, 1) := by decide +kernel
theorem dX7_cut_12 : decode cX7_cut 12 = .ok (.iconst 0, 1) := by decide +kernel
theorem dX7_cut_13 : decode cX7_cut 13 = .ok (.istore 4, 2) := by decide +kernel
theorem dX7_cut_15 : decode cX7_cut 15 = .ok (.iload 4, 2) := by decide +kernel
theorem dX7_cut_17 : decode cX7_cut 17 = .ok (.bipush 60, 2) := by decide +kernel
theorem dX7_cut_19 : decode cX7_cut 19 = .ok (.if_icmp .gt 31, 3) := by decide +kernel
theorem dX7_cut_22 : decode cX7_cut 22 = .ok (.iload_n 3, 1) := by decide +kernel
theorem dX7_cut_23 : decode cX7_cut 23 = .ok (.iload_n 2, 1) := by decide +kernel
theorem dX7_cut_24 : decode cX7_cut 24 = .ok (.if_icmp .ge 26, 3) := by decide +kernel
theorem dX7_cut_27 : decode cX7_cut 27 = .ok (.aload_n 0, 1) := by decide +kernel
theorem dX7_cut_28 : decode cX7_cut 28 = .ok (.aload_n 1, 1) := by decide +kernel
theorem dX7_cut_29 : decode cX7_cut 29 = .ok (.iload_n 3, 1) := by decide +kernel
theorem dX7_cut_30 : decode cX7_cut 30 = .ok (.iload_n 2, 1) := by decide +kernel
theorem dX7_cut_31 : decode cX7_cut 31 = .ok (.invokevirtual 28, 3) := by decide +kernel
theorem dX7_cut_34 : decode cX7_cut 34 = .ok (.istore 5, 2) := by decide +kernel
theorem dX7_cut_36 : decode cX7_cut 36 = .ok (.aload_n 1, 1) := by decide +kernel
theorem dX7_cut_37 : decode cX7_cut 37 = .ok (.iload 5, 2) := by decide +kernel
theorem dX7_cut_39 : decode cX7_cut 39 = .ok (.iload_n 2, 1) := by decide +kernel
theorem dX7_cut_40 : decode cX7_cut 40 = .ok (.invokestatic 24, 3) := by decide +kernel
theorem dX7_cut_43 : decode cX7_cut 43 = .ok (.istore_n 3, 1) := by decide +kernel
theorem dX7_cut_44 : decode cX7_cut 44 = .ok (.iinc 4 1, 3) := by decide +kernel
theorem dX7_cut_47 : decode cX7_cut 47 = .ok (.goto (-32), 3) := by decide +kernel
theorem dX7_cut_50 : decode cX7_cut 50 = .ok (.aload_n 0, 1) := by decide +kernel
theorem dX7_cut_51 : decode cX7_cut 51 = .ok (.iconst 0, 1) := by decide +kernel
theorem dX7_cut_52 : decode cX7_cut 52 = .ok (.iload_n 2, 1) := by decide +kernel
theorem dX7_cut_53 : decode cX7_cut 53 = .ok (.lconst 0, 1) := by decide +kernel
theorem dX7_cut_54 : decode cX7_cut 54 = .ok (.invokevirtual 31, 3) := by decide +kernel
theorem dX7_cut_57 : decode cX7_cut 57 = .ok (.return_, 1) := by decide +kernel
theorem dX7_size_0 : decode cX7_size 0 = .ok (.aload_n 0, 1) := by decide +kernel
theorem dX7_size_1 : decode cX7_size 1 = .ok (.getfield 20, 3) := by decide +kernel
theorem dX7_size_4 : decode cX7_size 4 = .ok (.ireturn, 1) := by decide +kernel
theorem dX7_kindAt_0 : decode cX7_kindAt 0 = .ok (.iload_n 1, 1) := by decide +kernel
theorem dX7_kindAt_1 : decode cX7_kindAt 1 = .ok (.ifCond .lt 20, 3) := by decide +kernel
theorem dX7_kindAt_4 : decode cX7_kindAt 4 = .ok (.iload_n 1, 1) := by decide +kernel
theorem dX7_kindAt_5 : decode cX7_kindAt 5 = .ok (.aload_n 0, 1) := by decide +kernel
theorem dX7_kindAt_6 : decode cX7_kindAt 6 = .ok (.getfield 20, 3) := by decide +kernel
theorem dX7_kindAt_9 : decode cX7_kindAt 9 = .ok (.if_icmp .ge 12, 3) := by decide +kernel
theorem dX7_kindAt_12 : decode cX7_kindAt 12 = .ok (.aload_n 0, 1) := by decide +kernel
theorem dX7_kindAt_13 : decode cX7_kindAt 13 = .ok (.getfield 9, 3) := by decide +kernel
theorem dX7_kindAt_16 : decode cX7_kindAt 16 = .ok (.iload_n 1, 1) := by decide +kernel
theorem dX7_kindAt_17 : decode cX7_kindAt 17 = .ok (.iaload, 1) := by decide +kernel
theorem dX7_kindAt_18 : decode cX7_kindAt 18 = .ok (.goto 4, 3) := by decide +kernel
theorem dX7_kindAt_21 : decode cX7_kindAt 21 = .ok (.iconst 0, 1) := by decide +kernel
theorem dX7_kindAt_22 : decode cX7_kindAt 22 = .ok (.ireturn, 1) := by decide +kernel
theorem dX7_placeAt_0 : decode cX7_placeAt 0 = .ok (.iload_n 1, 1) := by decide +kernel
theorem dX7_placeAt_1 : decode cX7_placeAt 1 = .ok (.ifCond .lt 29, 3) := by decide +kernel
theorem dX7_placeAt_4 : decode cX7_placeAt 4 = .ok (.iload_n 1, 1) := by decide +kernel
theorem dX7_placeAt_5 : decode cX7_placeAt 5 = .ok (.aload_n 0, 1) := by decide +kernel
theorem dX7_placeAt_6 : decode cX7_placeAt 6 = .ok (.getfield 20, 3) := by decide +kernel
theorem dX7_placeAt_9 : decode cX7_placeAt 9 = .ok (.if_icmp .gt 21, 3) := by decide +kernel
theorem dX7_placeAt_12 : decode cX7_placeAt 12 = .ok (.iload_n 1, 1) := by decide +kernel
theorem dX7_placeAt_13 : decode cX7_placeAt 13 = .ok (.aload_n 0, 1) := by decide +kernel
theorem dX7_placeAt_14 : decode cX7_placeAt 14 = .ok (.getfield 13, 3) := by decide +kernel
theorem dX7_placeAt_17 : decode cX7_placeAt 17 = .ok (.arraylength, 1) := by decide +kernel
theorem dX7_placeAt_18 : decode cX7_placeAt 18 = .ok (.if_icmp .ge 12, 3) := by decide +kernel
theorem dX7_placeAt_21 : decode cX7_placeAt 21 = .ok (.aload_n 0, 1) := by decide +kernel
theorem dX7_placeAt_22 : decode cX7_placeAt 22 = .ok (.getfield 13, 3) := by decide +kernel
theorem dX7_placeAt_25 : decode cX7_placeAt 25 = .ok (.iload_n 1, 1) := by decide +kernel
theorem dX7_placeAt_26 : decode cX7_placeAt 26 = .ok (.iaload, 1) := by decide +kernel
theorem dX7_placeAt_27 : decode cX7_placeAt 27 = .ok (.goto 4, 3) := by decide +kernel
theorem dX7_placeAt_31 : decode cX7_placeAt 31 = .ok (.ireturn, 1) := by decide +kernel
theorem dX7_coreAt_0 : decode cX7_coreAt 0 = .ok (.iload_n 1, 1) := by decide +kernel
theorem dX7_coreAt_1 : decode cX7_coreAt 1 = .ok (.ifCond .lt 20, 3) := by decide +kernel
theorem dX7_coreAt_4 : decode cX7_coreAt 4 = .ok (.iload_n 1, 1) := by decide +kernel
theorem dX7_coreAt_5 : decode cX7_coreAt 5 = .ok (.aload_n 0, 1) := by decide +kernel
theorem dX7_coreAt_6 : decode cX7_coreAt 6 = .ok (.getfield 20, 3) := by decide +kernel
theorem dX7_coreAt_9 : decode cX7_coreAt 9 = .ok (.if_icmp .ge 12, 3) := by decide +kernel
theorem dX7_coreAt_12 : decode cX7_coreAt 12 = .ok (.aload_n 0, 1) := by decide +kernel
theorem dX7_coreAt_13 : decode cX7_coreAt 13 = .ok (.getfield 16, 3) := by decide +kernel
theorem dX7_coreAt_16 : decode cX7_coreAt 16 = .ok (.iload_n 1, 1) := by decide +kernel
theorem dX7_coreAt_17 : decode cX7_coreAt 17 = .ok (.laload, 1) := by decide +kernel
theorem dX7_coreAt_18 : decode cX7_coreAt 18 = .ok (.goto 4, 3) := by decide +kernel
theorem dX7_coreAt_21 : decode cX7_coreAt 21 = .ok (.lconst 0, 1) := by decide +kernel
theorem dX7_coreAt_22 : decode cX7_coreAt 22 = .ok (.lreturn, 1) := by decide +kernel
theorem dX7_afterBlanks_0 : decode cX7_afterBlanks 0 = .ok (.iload_n 1, 1) := by decide +kernel
theorem dX7_afterBlanks_1 : decode cX7_afterBlanks 1 = .ok (.istore_n 3, 1) := by decide +kernel
theorem dX7_afterBlanks_2 : decode cX7_afterBlanks 2 = .ok (.iload_n 3, 1) := by decide +kernel
theorem dX7_afterBlanks_3 : decode cX7_afterBlanks 3 = .ok (.iload_n 2, 1) := by decide +kernel
theorem dX7_afterBlanks_4 : decode cX7_afterBlanks 4 = .ok (.if_icmp .ge 17, 3) := by decide +kernel
theorem dX7_afterBlanks_7 : decode cX7_afterBlanks 7 = .ok (.aload_n 0, 1) := by decide +kernel
theorem dX7_afterBlanks_8 : decode cX7_afterBlanks 8 = .ok (.iload_n 3, 1) := by decide +kernel
theorem dX7_afterBlanks_9 : decode cX7_afterBlanks 9 = .ok (.baload, 1) := by decide +kernel
theorem dX7_afterBlanks_10 : decode cX7_afterBlanks 10 = .ok (.bipush 32, 2) := by decide +kernel
theorem dX7_afterBlanks_12 : decode cX7_afterBlanks 12 = .ok (.if_icmp .ne 9, 3) := by decide +kernel
theorem dX7_afterBlanks_15 : decode cX7_afterBlanks 15 = .ok (.iinc 3 1, 3) := by decide +kernel
theorem dX7_afterBlanks_18 : decode cX7_afterBlanks 18 = .ok (.goto (-16), 3) := by decide +kernel
theorem dX7_afterBlanks_21 : decode cX7_afterBlanks 21 = .ok (.iload_n 3, 1) := by decide +kernel
theorem dX7_afterBlanks_22 : decode cX7_afterBlanks 22 = .ok (.ireturn, 1) := by decide +kernel
theorem dX7_cutOne_0 : decode cX7_cutOne 0 = .ok (.aload_n 1, 1) := by decide +kernel
theorem dX7_cutOne_1 : decode cX7_cutOne 1 = .ok (.iload_n 2, 1) := by decide +kernel
theorem dX7_cutOne_2 : decode cX7_cutOne 2 = .ok (.baload, 1) := by decide +kernel
theorem dX7_cutOne_3 : decode cX7_cutOne 3 = .ok (.istore 4, 2) := by decide +kernel
theorem dX7_cutOne_5 : decode cX7_cutOne 5 = .ok (.aload_n 0, 1) := by decide +kernel
theorem dX7_cutOne_6 : decode cX7_cutOne 6 = .ok (.getfield 20, 3) := by decide +kernel
theorem dX7_cutOne_9 : decode cX7_cutOne 9 = .ok (.bipush 60, 2) := by decide +kernel
theorem dX7_cutOne_11 : decode cX7_cutOne 11 = .ok (.if_icmp .lt 12, 3) := by decide +kernel
theorem dX7_cutOne_14 : decode cX7_cutOne 14 = .ok (.aload_n 0, 1) := by decide +kernel
theorem dX7_cutOne_15 : decode cX7_cutOne 15 = .ok (.iconst 1, 1) := by decide +kernel
theorem dX7_cutOne_16 : decode cX7_cutOne 16 = .ok (.iload_n 2, 1) := by decide +kernel
theorem dX7_cutOne_17 : decode cX7_cutOne 17 = .ok (.lconst 0, 1) := by decide +kernel
theorem dX7_cutOne_18 : decode cX7_cutOne 18 = .ok (.invokevirtual 31, 3) := by decide +kernel
theorem dX7_cutOne_21 : decode cX7_cutOne 21 = .ok (.iload_n 3, 1) := by decide +kernel
theorem dX7_cutOne_22 : decode cX7_cutOne 22 = .ok (.ireturn, 1) := by decide +kernel
theorem dX7_cutOne_23 : decode cX7_cutOne 23 = .ok (.iload 4, 2) := by decide +kernel
theorem dX7_cutOne_25 : decode cX7_cutOne 25 = .ok (.invokestatic 35, 3) := by decide +kernel
theorem dX7_cutOne_28 : decode cX7_cutOne 28 = .ok (.ifCond .eq 11, 3) := by decide +kernel
theorem dX7_cutOne_31 : decode cX7_cutOne 31 = .ok (.aload_n 0, 1) := by decide +kernel
theorem dX7_cutOne_32 : decode cX7_cutOne 32 = .ok (.aload_n 1, 1) := by decide +kernel
theorem dX7_cutOne_33 : decode cX7_cutOne 33 = .ok (.iload_n 2, 1) := by decide +kernel
theorem dX7_cutOne_34 : decode cX7_cutOne 34 = .ok (.iload_n 3, 1) := by decide +kernel
theorem dX7_cutOne_35 : decode cX7_cutOne 35 = .ok (.invokevirtual 39, 3) := by decide +kernel
theorem dX7_cutOne_38 : decode cX7_cutOne 38 = .ok (.ireturn, 1) := by decide +kernel
theorem dX7_cutOne_39 : decode cX7_cutOne 39 = .ok (.iload 4, 2) := by decide +kernel
theorem dX7_cutOne_41 : decode cX7_cutOne 41 = .ok (.invokestatic 42, 3) := by decide +kernel
theorem dX7_cutOne_44 : decode cX7_cutOne 44 = .ok (.ifCond .eq 13, 3) := by decide +kernel
theorem dX7_cutOne_47 : decode cX7_cutOne 47 = .ok (.aload_n 0, 1) := by decide +kernel
theorem dX7_cutOne_48 : decode cX7_cutOne 48 = .ok (.aload_n 1, 1) := by decide +kernel
theorem dX7_cutOne_49 : decode cX7_cutOne 49 = .ok (.iload_n 2, 1) := by decide +kernel
theorem dX7_cutOne_50 : decode cX7_cutOne 50 = .ok (.iload_n 3, 1) := by decide +kernel
theorem dX7_cutOne_51 : decode cX7_cutOne 51 = .ok (.bipush 48, 2) := by decide +kernel
theorem dX7_cutOne_53 : decode cX7_cutOne 53 = .ok (.invokevirtual 45, 3) := by decide +kernel
theorem dX7_cutOne_56 : decode cX7_cutOne 56 = .ok (.ireturn, 1) := by decide +kernel
theorem dX7_cutOne_57 : decode cX7_cutOne 57 = .ok (.iload 4, 2) := by decide +kernel
theorem dX7_cutOne_59 : decode cX7_cutOne 59 = .ok (.bipush 36, 2) := by decide +kernel
theorem dX7_cutOne_61 : decode cX7_cutOne 61 = .ok (.if_icmp .ne 13, 3) := by decide +kernel
theorem dX7_cutOne_64 : decode cX7_cutOne 64 = .ok (.aload_n 0, 1) := by decide +kernel
theorem dX7_cutOne_65 : decode cX7_cutOne 65 = .ok (.aload_n 1, 1) := by decide +kernel
theorem dX7_cutOne_66 : decode cX7_cutOne 66 = .ok (.iload_n 2, 1) := by decide +kernel
theorem dX7_cutOne_67 : decode cX7_cutOne 67 = .ok (.iload_n 3, 1) := by decide +kernel
theorem dX7_cutOne_68 : decode cX7_cutOne 68 = .ok (.bipush 36, 2) := by decide +kernel
theorem dX7_cutOne_70 : decode cX7_cutOne 70 = .ok (.invokevirtual 45, 3) := by decide +kernel
theorem dX7_cutOne_73 : decode cX7_cutOne 73 = .ok (.ireturn, 1) := by decide +kernel
theorem dX7_cutOne_74 : decode cX7_cutOne 74 = .ok (.aload_n 0, 1) := by decide +kernel
theorem dX7_cutOne_75 : decode cX7_cutOne 75 = .ok (.ldc 49, 2) := by decide +kernel
theorem dX7_cutOne_77 : decode cX7_cutOne 77 = .ok (.iload 4, 2) := by decide +kernel
theorem dX7_cutOne_79 : decode cX7_cutOne 79 = .ok (.i2c, 1) := by decide +kernel
theorem dX7_cutOne_80 : decode cX7_cutOne 80 = .ok (.invokevirtual 51, 3) := by decide +kernel
theorem dX7_cutOne_83 : decode cX7_cutOne 83 = .ok (.ifCond .lt 8, 3) := by decide +kernel
theorem dX7_cutOne_86 : decode cX7_cutOne 86 = .ok (.iload 4, 2) := by decide +kernel
theorem dX7_cutOne_88 : decode cX7_cutOne 88 = .ok (.goto 4, 3) := by decide +kernel
theorem dX7_cutOne_91 : decode cX7_cutOne 91 = .ok (.iconst 1, 1) := by decide +kernel
theorem dX7_cutOne_92 : decode cX7_cutOne 92 = .ok (.iload_n 2, 1) := by decide +kernel
theorem dX7_cutOne_93 : decode cX7_cutOne 93 = .ok (.lconst 0, 1) := by decide +kernel
theorem dX7_cutOne_94 : decode cX7_cutOne 94 = .ok (.invokevirtual 31, 3) := by decide +kernel
theorem dX7_cutOne_97 : decode cX7_cutOne 97 = .ok (.iload_n 2, 1) := by decide +kernel
theorem dX7_cutOne_98 : decode cX7_cutOne 98 = .ok (.iconst 1, 1) := by decide +kernel
theorem dX7_cutOne_99 : decode cX7_cutOne 99 = .ok (.iadd, 1) := by decide +kernel
theorem dX7_cutOne_100 : decode cX7_cutOne 100 = .ok (.ireturn, 1) := by decide +kernel
theorem dX7_cutLetters_0 : decode cX7_cutLetters 0 = .ok (.iload_n 2, 1) := by decide +kernel
theorem dX7_cutLetters_1 : decode cX7_cutLetters 1 = .ok (.istore 4, 2) := by decide +kernel
theorem dX7_cutLetters_3 : decode cX7_cutLetters 3 = .ok (.lconst 0, 1) := by decide +kernel
theorem dX7_cutLetters_4 : decode cX7_cutLetters 4 = .ok (.lstore 5, 2) := by decide +kernel
theorem dX7_cutLetters_6 : decode cX7_cutLetters 6 = .ok (.iload 4, 2) := by decide +kernel
theorem dX7_cutLetters_8 : decode cX7_cutLetters 8 = .ok (.iload_n 3, 1) := by decide +kernel
theorem dX7_cutLetters_9 : decode cX7_cutLetters 9 = .ok (.if_icmp .ge 32, 3) := by decide +kernel
theorem dX7_cutLetters_12 : decode cX7_cutLetters 12 = .ok (.aload_n 1, 1) := by decide +kernel
theorem dX7_cutLetters_13 : decode cX7_cutLetters 13 = .ok (.iload 4, 2) := by decide +kernel
theorem dX7_cutLetters_15 : decode cX7_cutLetters 15 = .ok (.baload, 1) := by decide +kernel
theorem dX7_cutLetters_16 : decode cX7_cutLetters 16 = .ok (.invokestatic 35, 3) := by decide +kernel
theorem dX7_cutLetters_19 : decode cX7_cutLetters 19 = .ok (.ifCond .eq 22, 3) := by decide +kernel
theorem dX7_cutLetters_22 : decode cX7_cutLetters 22 = .ok (.lload 5, 2) := by decide +kernel
theorem dX7_cutLetters_24 : decode cX7_cutLetters 24 = .ok (.bipush 8, 2) := by decide +kernel
theorem dX7_cutLetters_26 : decode cX7_cutLetters 26 = .ok (.lshl, 1) := by decide +kernel
theorem dX7_cutLetters_27 : decode cX7_cutLetters 27 = .ok (.aload_n 1, 1) := by decide +kernel
theorem dX7_cutLetters_28 : decode cX7_cutLetters 28 = .ok (.iload 4, 2) := by decide +kernel
theorem dX7_cutLetters_30 : decode cX7_cutLetters 30 = .ok (.baload, 1) := by decide +kernel
theorem dX7_cutLetters_31 : decode cX7_cutLetters 31 = .ok (.i2l, 1) := by decide +kernel
theorem dX7_cutLetters_32 : decode cX7_cutLetters 32 = .ok (.lor, 1) := by decide +kernel
theorem dX7_cutLetters_33 : decode cX7_cutLetters 33 = .ok (.lstore 5, 2) := by decide +kernel
theorem dX7_cutLetters_35 : decode cX7_cutLetters 35 = .ok (.iinc 4 1, 3) := by decide +kernel
theorem dX7_cutLetters_38 : decode cX7_cutLetters 38 = .ok (.goto (-32), 3) := by decide +kernel
theorem dX7_cutLetters_41 : decode cX7_cutLetters 41 = .ok (.aload_n 0, 1) := by decide +kernel
theorem dX7_cutLetters_42 : decode cX7_cutLetters 42 = .ok (.iload 4, 2) := by decide +kernel
theorem dX7_cutLetters_44 : decode cX7_cutLetters 44 = .ok (.iload_n 2, 1) := by decide +kernel
theorem dX7_cutLetters_45 : decode cX7_cutLetters 45 = .ok (.isub, 1) := by decide +kernel
theorem dX7_cutLetters_46 : decode cX7_cutLetters 46 = .ok (.bipush 8, 2) := by decide +kernel
theorem dX7_cutLetters_48 : decode cX7_cutLetters 48 = .ok (.if_icmp .le 7, 3) := by decide +kernel
theorem dX7_cutLetters_51 : decode cX7_cutLetters 51 = .ok (.iconst 1, 1) := by decide +kernel
theorem dX7_cutLetters_52 : decode cX7_cutLetters 52 = .ok (.goto 8, 3) := by decide +kernel
theorem dX7_cutLetters_55 : decode cX7_cutLetters 55 = .ok (.lload 5, 2) := by decide +kernel
theorem dX7_cutLetters_57 : decode cX7_cutLetters 57 = .ok (.invokestatic 57, 3) := by decide +kernel
theorem dX7_cutLetters_60 : decode cX7_cutLetters 60 = .ok (.iload_n 2, 1) := by decide +kernel
theorem dX7_cutLetters_61 : decode cX7_cutLetters 61 = .ok (.lload 5, 2) := by decide +kernel
theorem dX7_cutLetters_63 : decode cX7_cutLetters 63 = .ok (.invokevirtual 31, 3) := by decide +kernel
theorem dX7_cutLetters_66 : decode cX7_cutLetters 66 = .ok (.iload 4, 2) := by decide +kernel
theorem dX7_cutLetters_68 : decode cX7_cutLetters 68 = .ok (.ireturn, 1) := by decide +kernel
theorem dX7_cutDigits_0 : decode cX7_cutDigits 0 = .ok (.iload 4, 2) := by decide +kernel
theorem dX7_cutDigits_2 : decode cX7_cutDigits 2 = .ok (.bipush 36, 2) := by decide +kernel
theorem dX7_cutDigits_4 : decode cX7_cutDigits 4 = .ok (.if_icmp .ne 9, 3) := by decide +kernel
theorem dX7_cutDigits_7 : decode cX7_cutDigits 7 = .ok (.iload_n 2, 1) := by decide +kernel
theorem dX7_cutDigits_8 : decode cX7_cutDigits 8 = .ok (.iconst 1, 1) := by decide +kernel
theorem dX7_cutDigits_9 : decode cX7_cutDigits 9 = .ok (.iadd, 1) := by decide +kernel
theorem dX7_cutDigits_10 : decode cX7_cutDigits 10 = .ok (.goto 4, 3) := by decide +kernel
theorem dX7_cutDigits_13 : decode cX7_cutDigits 13 = .ok (.iload_n 2, 1) := by decide +kernel
theorem dX7_cutDigits_14 : decode cX7_cutDigits 14 = .ok (.istore 5, 2) := by decide +kernel
theorem dX7_cutDigits_16 : decode cX7_cutDigits 16 = .ok (.iload 4, 2) := by decide +kernel
theorem dX7_cutDigits_18 : decode cX7_cutDigits 18 = .ok (.bipush 36, 2) := by decide +kernel
theorem dX7_cutDigits_20 : decode cX7_cutDigits 20 = .ok (.if_icmp .ne 7, 3) := by decide +kernel
theorem dX7_cutDigits_23 : decode cX7_cutDigits 23 = .ok (.iconst 3, 1) := by decide +kernel
theorem dX7_cutDigits_24 : decode cX7_cutDigits 24 = .ok (.goto 5, 3) := by decide +kernel
theorem dX7_cutDigits_27 : decode cX7_cutDigits 27 = .ok (.bipush 18, 2) := by decide +kernel
theorem dX7_cutDigits_29 : decode cX7_cutDigits 29 = .ok (.istore 6, 2) := by decide +kernel
theorem dX7_cutDigits_31 : decode cX7_cutDigits 31 = .ok (.iload 5, 2) := by decide +kernel
theorem dX7_cutDigits_33 : decode cX7_cutDigits 33 = .ok (.istore 7, 2) := by decide +kernel
theorem dX7_cutDigits_35 : decode cX7_cutDigits 35 = .ok (.lconst 0, 1) := by decide +kernel
theorem dX7_cutDigits_36 : decode cX7_cutDigits 36 = .ok (.lstore 8, 2) := by decide +kernel
theorem dX7_cutDigits_38 : decode cX7_cutDigits 38 = .ok (.iload 7, 2) := by decide +kernel
theorem dX7_cutDigits_40 : decode cX7_cutDigits 40 = .ok (.iload_n 3, 1) := by decide +kernel
theorem dX7_cutDigits_41 : decode cX7_cutDigits 41 = .ok (.if_icmp .ge 36, 3) := by decide +kernel
theorem dX7_cutDigits_44 : decode cX7_cutDigits 44 = .ok (.aload_n 1, 1) := by decide +kernel
theorem dX7_cutDigits_45 : decode cX7_cutDigits 45 = .ok (.iload 7, 2) := by decide +kernel
theorem dX7_cutDigits_47 : decode cX7_cutDigits 47 = .ok (.baload, 1) := by decide +kernel
theorem dX7_cutDigits_48 : decode cX7_cutDigits 48 = .ok (.invokestatic 42, 3) := by decide +kernel
theorem dX7_cutDigits_51 : decode cX7_cutDigits 51 = .ok (.ifCond .eq 26, 3) := by decide +kernel
theorem dX7_cutDigits_54 : decode cX7_cutDigits 54 = .ok (.lload 8, 2) := by decide +kernel
theorem dX7_cutDigits_56 : decode cX7_cutDigits 56 = .ok (.ldc2_w 61, 3) := by decide +kernel
theorem dX7_cutDigits_59 : decode cX7_cutDigits 59 = .ok (.lmul, 1) := by decide +kernel
theorem dX7_cutDigits_60 : decode cX7_cutDigits 60 = .ok (.aload_n 1, 1) := by decide +kernel
theorem dX7_cutDigits_61 : decode cX7_cutDigits 61 = .ok (.iload 7, 2) := by decide +kernel
theorem dX7_cutDigits_63 : decode cX7_cutDigits 63 = .ok (.baload, 1) := by decide +kernel
theorem dX7_cutDigits_64 : decode cX7_cutDigits 64 = .ok (.bipush 48, 2) := by decide +kernel
theorem dX7_cutDigits_66 : decode cX7_cutDigits 66 = .ok (.isub, 1) := by decide +kernel
theorem dX7_cutDigits_67 : decode cX7_cutDigits 67 = .ok (.i2l, 1) := by decide +kernel
theorem dX7_cutDigits_68 : decode cX7_cutDigits 68 = .ok (.ladd, 1) := by decide +kernel
theorem dX7_cutDigits_69 : decode cX7_cutDigits 69 = .ok (.lstore 8, 2) := by decide +kernel
theorem dX7_cutDigits_71 : decode cX7_cutDigits 71 = .ok (.iinc 7 1, 3) := by decide +kernel
theorem dX7_cutDigits_74 : decode cX7_cutDigits 74 = .ok (.goto (-36), 3) := by decide +kernel
theorem dX7_cutDigits_77 : decode cX7_cutDigits 77 = .ok (.aload_n 0, 1) := by decide +kernel
theorem dX7_cutDigits_78 : decode cX7_cutDigits 78 = .ok (.iload 7, 2) := by decide +kernel
theorem dX7_cutDigits_80 : decode cX7_cutDigits 80 = .ok (.iload 5, 2) := by decide +kernel
theorem dX7_cutDigits_82 : decode cX7_cutDigits 82 = .ok (.if_icmp .eq 13, 3) := by decide +kernel
theorem dX7_cutDigits_85 : decode cX7_cutDigits 85 = .ok (.iload 7, 2) := by decide +kernel
theorem dX7_cutDigits_87 : decode cX7_cutDigits 87 = .ok (.iload 5, 2) := by decide +kernel
theorem dX7_cutDigits_89 : decode cX7_cutDigits 89 = .ok (.isub, 1) := by decide +kernel
theorem dX7_cutDigits_90 : decode cX7_cutDigits 90 = .ok (.iload 6, 2) := by decide +kernel
theorem dX7_cutDigits_92 : decode cX7_cutDigits 92 = .ok (.if_icmp .le 7, 3) := by decide +kernel
theorem dX7_cutDigits_95 : decode cX7_cutDigits 95 = .ok (.iconst 1, 1) := by decide +kernel
theorem dX7_cutDigits_96 : decode cX7_cutDigits 96 = .ok (.goto 5, 3) := by decide +kernel
theorem dX7_cutDigits_99 : decode cX7_cutDigits 99 = .ok (.iload 4, 2) := by decide +kernel
theorem dX7_cutDigits_101 : decode cX7_cutDigits 101 = .ok (.iload_n 2, 1) := by decide +kernel
theorem dX7_cutDigits_102 : decode cX7_cutDigits 102 = .ok (.lload 8, 2) := by decide +kernel
theorem dX7_cutDigits_104 : decode cX7_cutDigits 104 = .ok (.invokevirtual 31, 3) := by decide +kernel
theorem dX7_cutDigits_107 : decode cX7_cutDigits 107 = .ok (.iload 7, 2) := by decide +kernel
theorem dX7_cutDigits_109 : decode cX7_cutDigits 109 = .ok (.ireturn, 1) := by decide +kernel
theorem dX7_wordKind_0 : decode cX7_wordKind 0 = .ok (.lload_n 0, 1) := by decide +kernel
theorem dX7_wordKind_1 : decode cX7_wordKind 1 = .ok (.ldc2_w 63, 3) := by decide +kernel
theorem dX7_wordKind_4 : decode cX7_wordKind 4 = .ok (.lcmp, 1) := by decide +kernel
theorem dX7_wordKind_5 : decode cX7_wordKind 5 = .ok (.ifCond .ne 6, 3) := by decide +kernel
theorem dX7_wordKind_8 : decode cX7_wordKind 8 = .ok (.bipush 118, 2) := by decide +kernel
theorem dX7_wordKind_10 : decode cX7_wordKind 10 = .ok (.ireturn, 1) := by decide +kernel
theorem dX7_wordKind_11 : decode cX7_wordKind 11 = .ok (.lload_n 0, 1) := by decide +kernel
theorem dX7_wordKind_12 : decode cX7_wordKind 12 = .ok (.ldc2_w 65, 3) := by decide +kernel
theorem dX7_wordKind_15 : decode cX7_wordKind 15 = .ok (.lcmp, 1) := by decide +kernel
theorem dX7_wordKind_16 : decode cX7_wordKind 16 = .ok (.ifCond .ne 6, 3) := by decide +kernel
theorem dX7_wordKind_19 : decode cX7_wordKind 19 = .ok (.bipush 100, 2) := by decide +kernel
theorem dX7_wordKind_21 : decode cX7_wordKind 21 = .ok (.ireturn, 1) := by decide +kernel
theorem dX7_wordKind_22 : decode cX7_wordKind 22 = .ok (.lload_n 0, 1) := by decide +kernel
theorem dX7_wordKind_23 : decode cX7_wordKind 23 = .ok (.ldc2_w 67, 3) := by decide +kernel
theorem dX7_wordKind_26 : decode cX7_wordKind 26 = .ok (.lcmp, 1) := by decide +kernel
theorem dX7_wordKind_27 : decode cX7_wordKind 27 = .ok (.ifCond .ne 8, 3) := by decide +kernel
theorem dX7_wordKind_30 : decode cX7_wordKind 30 = .ok (.bipush 116, 2) := by decide +kernel
theorem dX7_wordKind_32 : decode cX7_wordKind 32 = .ok (.goto 5, 3) := by decide +kernel
theorem dX7_wordKind_35 : decode cX7_wordKind 35 = .ok (.bipush 97, 2) := by decide +kernel
theorem dX7_wordKind_37 : decode cX7_wordKind 37 = .ok (.ireturn, 1) := by decide +kernel
theorem dX7_isLetter_0 : decode cX7_isLetter 0 = .ok (.iload_n 0, 1) := by decide +kernel
theorem dX7_isLetter_1 : decode cX7_isLetter 1 = .ok (.bipush 97, 2) := by decide +kernel
theorem dX7_isLetter_3 : decode cX7_isLetter 3 = .ok (.if_icmp .lt 13, 3) := by decide +kernel
theorem dX7_isLetter_6 : decode cX7_isLetter 6 = .ok (.iload_n 0, 1) := by decide +kernel
theorem dX7_isLetter_7 : decode cX7_isLetter 7 = .ok (.bipush 122, 2) := by decide +kernel
theorem dX7_isLetter_9 : decode cX7_isLetter 9 = .ok (.if_icmp .gt 7, 3) := by decide +kernel
theorem dX7_isLetter_12 : decode cX7_isLetter 12 = .ok (.iconst 1, 1) := by decide +kernel
theorem dX7_isLetter_13 : decode cX7_isLetter 13 = .ok (.goto 4, 3) := by decide +kernel
theorem dX7_isLetter_16 : decode cX7_isLetter 16 = .ok (.iconst 0, 1) := by decide +kernel
theorem dX7_isLetter_17 : decode cX7_isLetter 17 = .ok (.ireturn, 1) := by decide +kernel
theorem dX7_isDigit_0 : decode cX7_isDigit 0 = .ok (.iload_n 0, 1) := by decide +kernel
theorem dX7_isDigit_1 : decode cX7_isDigit 1 = .ok (.bipush 48, 2) := by decide +kernel
theorem dX7_isDigit_3 : decode cX7_isDigit 3 = .ok (.if_icmp .lt 13, 3) := by decide +kernel
theorem dX7_isDigit_6 : decode cX7_isDigit 6 = .ok (.iload_n 0, 1) := by decide +kernel
theorem dX7_isDigit_7 : decode cX7_isDigit 7 = .ok (.bipush 57, 2) := by decide +kernel
theorem dX7_isDigit_9 : decode cX7_isDigit 9 = .ok (.if_icmp .gt 7, 3) := by decide +kernel
theorem dX7_isDigit_12 : decode cX7_isDigit 12 = .ok (.iconst 1, 1) := by decide +kernel
theorem dX7_isDigit_13 : decode cX7_isDigit 13 = .ok (.goto 4, 3) := by decide +kernel
theorem dX7_isDigit_16 : decode cX7_isDigit 16 = .ok (.iconst 0, 1) := by decide +kernel
theorem dX7_isDigit_17 : decode cX7_isDigit 17 = .ok (.ireturn, 1) := by decide +kernel
theorem dX7_put_0 : decode cX7_put 0 = .ok (.aload_n 0, 1) := by decide +kernel
theorem dX7_put_1 : decode cX7_put 1 = .ok (.getfield 20, 3) := by decide +kernel
theorem dX7_put_4 : decode cX7_put 4 = .ok (.aload_n 0, 1) := by decide +kernel
theorem dX7_put_5 : decode cX7_put 5 = .ok (.getfield 9, 3) := by decide +kernel
theorem dX7_put_8 : decode cX7_put 8 = .ok (.arraylength, 1) := by decide +kernel
theorem dX7_put_9 : decode cX7_put 9 = .ok (.if_icmp .ge 47, 3) := by decide +kernel
theorem dX7_put_12 : decode cX7_put 12 = .ok (.aload_n 0, 1) := by decide +kernel
theorem dX7_put_13 : decode cX7_put 13 = .ok (.getfield 9, 3) := by decide +kernel
theorem dX7_put_16 : decode cX7_put 16 = .ok (.aload_n 0, 1) := by decide +kernel
theorem dX7_put_17 : decode cX7_put 17 = .ok (.getfield 20, 3) := by decide +kernel
theorem dX7_put_20 : decode cX7_put 20 = .ok (.iload_n 1, 1) := by decide +kernel
theorem dX7_put_21 : decode cX7_put 21 = .ok (.iastore, 1) := by decide +kernel
theorem dX7_put_22 : decode cX7_put 22 = .ok (.aload_n 0, 1) := by decide +kernel
theorem dX7_put_23 : decode cX7_put 23 = .ok (.getfield 13, 3) := by decide +kernel
theorem dX7_put_26 : decode cX7_put 26 = .ok (.aload_n 0, 1) := by decide +kernel
theorem dX7_put_27 : decode cX7_put 27 = .ok (.getfield 20, 3) := by decide +kernel
theorem dX7_put_30 : decode cX7_put 30 = .ok (.iload_n 2, 1) := by decide +kernel
theorem dX7_put_31 : decode cX7_put 31 = .ok (.iastore, 1) := by decide +kernel
theorem dX7_put_32 : decode cX7_put 32 = .ok (.aload_n 0, 1) := by decide +kernel
theorem dX7_put_33 : decode cX7_put 33 = .ok (.getfield 16, 3) := by decide +kernel
theorem dX7_put_36 : decode cX7_put 36 = .ok (.aload_n 0, 1) := by decide +kernel
theorem dX7_put_37 : decode cX7_put 37 = .ok (.getfield 20, 3) := by decide +kernel
theorem dX7_put_40 : decode cX7_put 40 = .ok (.lload_n 3, 1) := by decide +kernel
theorem dX7_put_41 : decode cX7_put 41 = .ok (.lastore, 1) := by decide +kernel
theorem dX7_put_42 : decode cX7_put 42 = .ok (.iload_n 1, 1) := by decide +kernel
theorem dX7_put_43 : decode cX7_put 43 = .ok (.ifCond .eq 13, 3) := by decide +kernel
theorem dX7_put_46 : decode cX7_put 46 = .ok (.aload_n 0, 1) := by decide +kernel
theorem dX7_put_47 : decode cX7_put 47 = .ok (.dup, 1) := by decide +kernel
theorem dX7_put_48 : decode cX7_put 48 = .ok (.getfield 20, 3) := by decide +kernel
theorem dX7_put_51 : decode cX7_put 51 = .ok (.iconst 1, 1) := by decide +kernel
theorem dX7_put_52 : decode cX7_put 52 = .ok (.iadd, 1) := by decide +kernel
theorem dX7_put_53 : decode cX7_put 53 = .ok (.putfield 20, 3) := by decide +kernel
theorem dX7_put_56 : decode cX7_put 56 = .ok (.return_, 1) := by decide +kernel
theorem dX8_init_0 : decode cX8_init 0 = .ok (.aload_n 0, 1) := by decide +kernel
theorem dX8_init_1 : decode cX8_init 1 = .ok (.invokespecial 1, 3) := by decide +kernel
theorem dX8_init_4 : decode cX8_init 4 = .ok (.aload_n 0, 1) := by decide +kernel
theorem dX8_init_5 : decode cX8_init 5 = .ok (.iload_n 1, 1) := by decide +kernel
theorem dX8_init_6 : decode cX8_init 6 = .ok (.newarray .int, 2) := by decide +kernel
theorem dX8_init_8 : decode cX8_init 8 = .ok (.putfield 7, 3) := by decide +kernel
theorem dX8_init_11 : decode cX8_init 11 = .ok (.aload_n 0, 1) := by decide +kernel
theorem dX8_init_12 : decode cX8_init 12 = .ok (.iload_n 1, 1) := by decide +kernel
theorem dX8_init_13 : decode cX8_init 13 = .ok (.newarray .long, 2) := by decide +kernel
theorem dX8_init_15 : decode cX8_init 15 = .ok (.putfield 13, 3) := by decide +kernel
theorem dX8_init_18 : decode cX8_init 18 = .ok (.return_, 1) := by decide +kernel
theorem dX8_kindAt_0 : decode cX8_kindAt 0 = .ok (.iload_n 1, 1) := by decide +kernel
theorem dX8_kindAt_1 : decode cX8_kindAt 1 = .ok (.ifCond .lt 21, 3) := by decide +kernel
theorem dX8_kindAt_4 : decode cX8_kindAt 4 = .ok (.iload_n 1, 1) := by decide +kernel
theorem dX8_kindAt_5 : decode cX8_kindAt 5 = .ok (.aload_n 0, 1) := by decide +kernel
theorem dX8_kindAt_6 : decode cX8_kindAt 6 = .ok (.getfield 7, 3) := by decide +kernel
theorem dX8_kindAt_9 : decode cX8_kindAt 9 = .ok (.arraylength, 1) := by decide +kernel
theorem dX8_kindAt_10 : decode cX8_kindAt 10 = .ok (.if_icmp .ge 12, 3) := by decide +kernel
theorem dX8_kindAt_13 : decode cX8_kindAt 13 = .ok (.aload_n 0, 1) := by decide +kernel
theorem dX8_kindAt_14 : decode cX8_kindAt 14 = .ok (.getfield 7, 3) := by decide +kernel
theorem dX8_kindAt_17 : decode cX8_kindAt 17 = .ok (.iload_n 1, 1) := by decide +kernel
theorem dX8_kindAt_18 : decode cX8_kindAt 18 = .ok (.iaload, 1) := by decide +kernel
theorem dX8_kindAt_19 : decode cX8_kindAt 19 = .ok (.goto 4, 3) := by decide +kernel
theorem dX8_kindAt_22 : decode cX8_kindAt 22 = .ok (.iconst 0, 1) := by decide +kernel
theorem dX8_kindAt_23 : decode cX8_kindAt 23 = .ok (.ireturn, 1) := by decide +kernel
theorem dX8_coreAt_0 : decode cX8_coreAt 0 = .ok (.iload_n 1, 1) := by decide +kernel
theorem dX8_coreAt_1 : decode cX8_coreAt 1 = .ok (.ifCond .lt 21, 3) := by decide +kernel
theorem dX8_coreAt_4 : decode cX8_coreAt 4 = .ok (.iload_n 1, 1) := by decide +kernel
theorem dX8_coreAt_5 : decode cX8_coreAt 5 = .ok (.aload_n 0, 1) := by decide +kernel
theorem dX8_coreAt_6 : decode cX8_coreAt 6 = .ok (.getfield 13, 3) := by decide +kernel
theorem dX8_coreAt_9 : decode cX8_coreAt 9 = .ok (.arraylength, 1) := by decide +kernel
theorem dX8_coreAt_10 : decode cX8_coreAt 10 = .ok (.if_icmp .ge 12, 3) := by decide +kernel
theorem dX8_coreAt_13 : decode cX8_coreAt 13 = .ok (.aload_n 0, 1) := by decide +kernel
theorem dX8_coreAt_14 : decode cX8_coreAt 14 = .ok (.getfield 13, 3) := by decide +kernel
theorem dX8_coreAt_17 : decode cX8_coreAt 17 = .ok (.iload_n 1, 1) := by decide +kernel
theorem dX8_coreAt_18 : decode cX8_coreAt 18 = .ok (.laload, 1) := by decide +kernel
theorem dX8_coreAt_19 : decode cX8_coreAt 19 = .ok (.goto 4, 3) := by decide +kernel
theorem dX8_coreAt_22 : decode cX8_coreAt 22 = .ok (.lconst 0, 1) := by decide +kernel
theorem dX8_coreAt_23 : decode cX8_coreAt 23 = .ok (.lreturn, 1) := by decide +kernel
theorem dX8_put_0 : decode cX8_put 0 = .ok (.iload_n 1, 1) := by decide +kernel
theorem dX8_put_1 : decode cX8_put 1 = .ok (.ifCond .lt 26, 3) := by decide +kernel
theorem dX8_put_4 : decode cX8_put 4 = .ok (.iload_n 1, 1) := by decide +kernel
theorem dX8_put_5 : decode cX8_put 5 = .ok (.aload_n 0, 1) := by decide +kernel
theorem dX8_put_6 : decode cX8_put 6 = .ok (.getfield 7, 3) := by decide +kernel
theorem dX8_put_9 : decode cX8_put 9 = .ok (.arraylength, 1) := by decide +kernel
theorem dX8_put_10 : decode cX8_put 10 = .ok (.if_icmp .ge 17, 3) := by decide +kernel
theorem dX8_put_13 : decode cX8_put 13 = .ok (.aload_n 0, 1) := by decide +kernel
theorem dX8_put_14 : decode cX8_put 14 = .ok (.getfield 7, 3) := by decide +kernel
theorem dX8_put_17 : decode cX8_put 17 = .ok (.iload_n 1, 1) := by decide +kernel
theorem dX8_put_18 : decode cX8_put 18 = .ok (.iload_n 2, 1) := by decide +kernel
theorem dX8_put_19 : decode cX8_put 19 = .ok (.iastore, 1) := by decide +kernel
theorem dX8_put_20 : decode cX8_put 20 = .ok (.aload_n 0, 1) := by decide +kernel
theorem dX8_put_21 : decode cX8_put 21 = .ok (.getfield 13, 3) := by decide +kernel
theorem dX8_put_24 : decode cX8_put 24 = .ok (.iload_n 1, 1) := by decide +kernel
theorem dX8_put_25 : decode cX8_put 25 = .ok (.lload_n 3, 1) := by decide +kernel
theorem dX8_put_26 : decode cX8_put 26 = .ok (.lastore, 1) := by decide +kernel
theorem dX8_put_27 : decode cX8_put 27 = .ok (.return_, 1) := by decide +kernel
theorem dX9_init_0 : decode cX9_init 0 = .ok (.aload_n 0, 1) := by decide +kernel
theorem dX9_init_1 : decode cX9_init 1 = .ok (.invokespecial 1, 3) := by decide +kernel
theorem dX9_init_4 : decode cX9_init 4 = .ok (.aload_n 0, 1) := by decide +kernel
theorem dX9_init_5 : decode cX9_init 5 = .ok (.bipush 120, 2) := by decide +kernel
theorem dX9_init_7 : decode cX9_init 7 = .ok (.newarray .byte, 2) := by decide +kernel
theorem dX9_init_9 : decode cX9_init 9 = .ok (.putfield 9, 3) := by decide +kernel
theorem dX9_init_12 : decode cX9_init 12 = .ok (.aload_n 0, 1) := by decide +kernel
theorem dX9_init_13 : decode cX9_init 13 = .ok (.new 13, 3) := by decide +kernel
theorem dX9_init_16 : decode cX9_init 16 = .ok (.dup, 1) := by decide +kernel
theorem dX9_init_17 : decode cX9_init 17 = .ok (.invokespecial 15, 3) := by decide +kernel
theorem dX9_init_20 : decode cX9_init 20 = .ok (.putfield 16, 3) := by decide +kernel
theorem dX9_init_23 : decode cX9_init 23 = .ok (.aload_n 0, 1) := by decide +kernel
theorem dX9_init_24 : decode cX9_init 24 = .ok (.new 20, 3) := by decide +kernel
theorem dX9_init_27 : decode cX9_init 27 = .ok (.dup, 1) := by decide +kernel
theorem dX9_init_28 : decode cX9_init 28 = .ok (.aload_n 0, 1) := by decide +kernel
theorem dX9_init_29 : decode cX9_init 29 = .ok (.getfield 16, 3) := by decide +kernel
theorem dX9_init_32 : decode cX9_init 32 = .ok (.invokespecial 22, 3) := by decide +kernel
theorem dX9_init_35 : decode cX9_init 35 = .ok (.putfield 25, 3) := by decide +kernel
theorem dX9_init_38 : decode cX9_init 38 = .ok (.aload_n 0, 1) := by decide +kernel
theorem dX9_init_39 : decode cX9_init 39 = .ok (.new 29, 3) := by decide +kernel
theorem dX9_init_42 : decode cX9_init 42 = .ok (.dup, 1) := by decide +kernel
theorem dX9_init_43 : decode cX9_init 43 = .ok (.invokespecial 31, 3) := by decide +kernel
theorem dX9_init_46 : decode cX9_init 46 = .ok (.putfield 32, 3) := by decide +kernel
theorem dX9_init_49 : decode cX9_init 49 = .ok (.aload_n 0, 1) := by decide +kernel
theorem dX9_init_50 : decode cX9_init 50 = .ok (.new 36, 3) := by decide +kernel
theorem dX9_init_53 : decode cX9_init 53 = .ok (.dup, 1) := by decide +kernel
theorem dX9_init_54 : decode cX9_init 54 = .ok (.aload_n 0, 1) := by decide +kernel
theorem dX9_init_55 : decode cX9_init 55 = .ok (.getfield 32, 3) := by decide +kernel
theorem dX9_init_58 : decode cX9_init 58 = .ok (.invokespecial 38, 3) := by decide +kernel
theorem dX9_init_61 : decode cX9_init 61 = .ok (.putfield 41, 3) := by decide +kernel
theorem dX9_init_64 : decode cX9_init 64 = .ok (.return_, 1) := by decide +kernel
theorem dX9_signs_0 : decode cX9_signs 0 = .ok (.iconst 0, 1) := by decide +kernel
theorem dX9_signs_1 : decode cX9_signs 1 = .ok (.istore_n 3, 1) := by decide +kernel
theorem dX9_signs_2 : decode cX9_signs 2 = .ok (.bipush 56, 2) := by decide +kernel
theorem dX9_signs_4 : decode cX9_signs 4 = .ok (.istore 4, 2) := by decide +kernel
theorem dX9_signs_6 : decode cX9_signs 6 = .ok (.iload 4, 2) := by decide +kernel
theorem dX9_signs_8 : decode cX9_signs 8 = .ok (.ifCond .lt 42, 3) := by decide +kernel
theorem dX9_signs_11 : decode cX9_signs 11 = .ok (.lload_n 1, 1) := by decide +kernel
theorem dX9_signs_12 : decode cX9_signs 12 = .ok (.iload 4, 2) := by decide +kernel
theorem dX9_signs_14 : decode cX9_signs 14 = .ok (.invokestatic 45, 3) := by decide +kernel
theorem dX9_signs_17 : decode cX9_signs 17 = .ok (.istore 5, 2) := by decide +kernel
theorem dX9_signs_19 : decode cX9_signs 19 = .ok (.iload 5, 2) := by decide +kernel
theorem dX9_signs_21 : decode cX9_signs 21 = .ok (.ifCond .eq 23, 3) := by decide +kernel
theorem dX9_signs_24 : decode cX9_signs 24 = .ok (.iload 5, 2) := by decide +kernel
theorem dX9_signs_26 : decode cX9_signs 26 = .ok (.bipush 32, 2) := by decide +kernel
theorem dX9_signs_28 : decode cX9_signs 28 = .ok (.if_icmp .lt 10, 3) := by decide +kernel
theorem dX9_signs_31 : decode cX9_signs 31 = .ok (.iload 5, 2) := by decide +kernel
theorem dX9_signs_33 : decode cX9_signs 33 = .ok (.bipush 126, 2) := by decide +kernel
theorem dX9_signs_35 : decode cX9_signs 35 = .ok (.if_icmp .le 6, 3) := by decide +kernel
theorem dX9_signs_38 : decode cX9_signs 38 = .ok (.bipush (-2), 2) := by decide +kernel
theorem dX9_signs_40 : decode cX9_signs 40 = .ok (.ireturn, 1) := by decide +kernel
theorem dX9_signs_41 : decode cX9_signs 41 = .ok (.iinc 3 1, 3) := by decide +kernel
theorem dX9_signs_44 : decode cX9_signs 44 = .ok (.iinc 4 (-8), 3) := by decide +kernel
theorem dX9_signs_47 : decode cX9_signs 47 = .ok (.goto (-41), 3) := by decide +kernel
theorem dX9_signs_50 : decode cX9_signs 50 = .ok (.iload_n 3, 1) := by decide +kernel
theorem dX9_signs_51 : decode cX9_signs 51 = .ok (.bipush 120, 2) := by decide +kernel
theorem dX9_signs_53 : decode cX9_signs 53 = .ok (.aload_n 0, 1) := by decide +kernel
theorem dX9_signs_54 : decode cX9_signs 54 = .ok (.getfield 49, 3) := by decide +kernel
theorem dX9_signs_57 : decode cX9_signs 57 = .ok (.isub, 1) := by decide +kernel
theorem dX9_signs_58 : decode cX9_signs 58 = .ok (.if_icmp .le 6, 3) := by decide +kernel
theorem dX9_signs_61 : decode cX9_signs 61 = .ok (.bipush (-4), 2) := by decide +kernel
theorem dX9_signs_63 : decode cX9_signs 63 = .ok (.ireturn, 1) := by decide +kernel
theorem dX9_signs_64 : decode cX9_signs 64 = .ok (.bipush 56, 2) := by decide +kernel
theorem dX9_signs_66 : decode cX9_signs 66 = .ok (.istore 4, 2) := by decide +kernel
theorem dX9_signs_68 : decode cX9_signs 68 = .ok (.iload 4, 2) := by decide +kernel
theorem dX9_signs_70 : decode cX9_signs 70 = .ok (.ifCond .lt 19, 3) := by decide +kernel
theorem dX9_signs_73 : decode cX9_signs 73 = .ok (.aload_n 0, 1) := by decide +kernel
theorem dX9_signs_74 : decode cX9_signs 74 = .ok (.lload_n 1, 1) := by decide +kernel
theorem dX9_signs_75 : decode cX9_signs 75 = .ok (.iload 4, 2) := by decide +kernel
theorem dX9_signs_77 : decode cX9_signs 77 = .ok (.invokestatic 45, 3) := by decide +kernel
theorem dX9_signs_80 : decode cX9_signs 80 = .ok (.invokevirtual 53, 3) := by decide +kernel
theorem dX9_signs_83 : decode cX9_signs 83 = .ok (.iinc 4 (-8), 3) := by decide +kernel
theorem dX9_signs_86 : decode cX9_signs 86 = .ok (.goto (-18), 3) := by decide +kernel
theorem dX9_signs_89 : decode cX9_signs 89 = .ok (.aload_n 0, 1) := by decide +kernel
theorem dX9_signs_90 : decode cX9_signs 90 = .ok (.getfield 49, 3) := by decide +kernel
theorem dX9_signs_93 : decode cX9_signs 93 = .ok (.ireturn, 1) := by decide +kernel
theorem dX9_run_0 : decode cX9_run 0 = .ok (.aload_n 0, 1) := by decide +kernel
theorem dX9_run_1 : decode cX9_run 1 = .ok (.getfield 32, 3) := by decide +kernel
theorem dX9_run_4 : decode cX9_run 4 = .ok (.invokevirtual 57, 3) := by decide +kernel
theorem dX9_run_7 : decode cX9_run 7 = .ok (.ifCond .eq 6, 3) := by decide +kernel
theorem dX9_run_10 : decode cX9_run 10 = .ok (.bipush (-4), 2) := by decide +kernel
theorem dX9_run_12 : decode cX9_run 12 = .ok (.ireturn, 1) := by decide +kernel
theorem dX9_run_13 : decode cX9_run 13 = .ok (.aload_n 0, 1) := by decide +kernel
theorem dX9_run_14 : decode cX9_run 14 = .ok (.getfield 16, 3) := by decide +kernel
theorem dX9_run_17 : decode cX9_run 17 = .ok (.aload_n 0, 1) := by decide +kernel
theorem dX9_run_18 : decode cX9_run 18 = .ok (.getfield 9, 3) := by decide +kernel
theorem dX9_run_21 : decode cX9_run 21 = .ok (.aload_n 0, 1) := by decide +kernel
theorem dX9_run_22 : decode cX9_run 22 = .ok (.getfield 49, 3) := by decide +kernel
theorem dX9_run_25 : decode cX9_run 25 = .ok (.invokevirtual 61, 3) := by decide +kernel
theorem dX9_run_28 : decode cX9_run 28 = .ok (.aload_n 0, 1) := by decide +kernel
theorem dX9_run_29 : decode cX9_run 29 = .ok (.getfield 25, 3) := by decide +kernel
theorem dX9_run_32 : decode cX9_run 32 = .ok (.invokevirtual 65, 3) := by decide +kernel
theorem dX9_run_35 : decode cX9_run 35 = .ok (.istore_n 1, 1) := by decide +kernel
theorem dX9_run_36 : decode cX9_run 36 = .ok (.iload_n 1, 1) := by decide +kernel
theorem dX9_run_37 : decode cX9_run 37 = .ok (.ifCond .lt 20, 3) := by decide +kernel
theorem dX9_run_40 : decode cX9_run 40 = .ok (.aload_n 0, 1) := by decide +kernel
theorem dX9_run_41 : decode cX9_run 41 = .ok (.getfield 41, 3) := by decide +kernel
theorem dX9_run_44 : decode cX9_run 44 = .ok (.invokevirtual 69, 3) := by decide +kernel
theorem dX9_run_47 : decode cX9_run 47 = .ok (.aload_n 0, 1) := by decide +kernel
theorem dX9_run_48 : decode cX9_run 48 = .ok (.iconst 0, 1) := by decide +kernel
theorem dX9_run_49 : decode cX9_run 49 = .ok (.putfield 49, 3) := by decide +kernel
theorem dX9_run_52 : decode cX9_run 52 = .ok (.bipush (-20), 2) := by decide +kernel
theorem dX9_run_54 : decode cX9_run 54 = .ok (.iload_n 1, 1) := by decide +kernel
theorem dX9_run_55 : decode cX9_run 55 = .ok (.isub, 1) := by decide +kernel
theorem dX9_run_56 : decode cX9_run 56 = .ok (.ireturn, 1) := by decide +kernel
theorem dX9_run_57 : decode cX9_run 57 = .ok (.aload_n 0, 1) := by decide +kernel
theorem dX9_run_58 : decode cX9_run 58 = .ok (.getfield 32, 3) := by decide +kernel
theorem dX9_run_61 : decode cX9_run 61 = .ok (.getfield 72, 3) := by decide +kernel
theorem dX9_run_64 : decode cX9_run 64 = .ok (.aload_n 0, 1) := by decide +kernel
theorem dX9_run_65 : decode cX9_run 65 = .ok (.getfield 16, 3) := by decide +kernel
theorem dX9_run_68 : decode cX9_run 68 = .ok (.invokevirtual 76, 3) := by decide +kernel
theorem dX9_run_71 : decode cX9_run 71 = .ok (.ifCond .ne 6, 3) := by decide +kernel
theorem dX9_run_74 : decode cX9_run 74 = .ok (.bipush (-4), 2) := by decide +kernel
theorem dX9_run_76 : decode cX9_run 76 = .ok (.ireturn, 1) := by decide +kernel
theorem dX9_run_77 : decode cX9_run 77 = .ok (.aload_n 0, 1) := by decide +kernel
theorem dX9_run_78 : decode cX9_run 78 = .ok (.invokevirtual 82, 3) := by decide +kernel
theorem dX9_run_81 : decode cX9_run 81 = .ok (.istore_n 2, 1) := by decide +kernel
theorem dX9_run_82 : decode cX9_run 82 = .ok (.aload_n 0, 1) := by decide +kernel
theorem dX9_run_83 : decode cX9_run 83 = .ok (.iconst 0, 1) := by decide +kernel
theorem dX9_run_84 : decode cX9_run 84 = .ok (.putfield 49, 3) := by decide +kernel
theorem dX9_run_87 : decode cX9_run 87 = .ok (.iload_n 2, 1) := by decide +kernel
theorem dX9_run_88 : decode cX9_run 88 = .ok (.ireturn, 1) := by decide +kernel
theorem dX9_thrown_0 : decode cX9_thrown 0 = .ok (.iload_n 1, 1) := by decide +kernel
theorem dX9_thrown_1 : decode cX9_thrown 1 = .ok (.ifCond .lt 19, 3) := by decide +kernel
theorem dX9_thrown_4 : decode cX9_thrown 4 = .ok (.iload_n 1, 1) := by decide +kernel
theorem dX9_thrown_5 : decode cX9_thrown 5 = .ok (.iconst 5, 1) := by decide +kernel
theorem dX9_thrown_6 : decode cX9_thrown 6 = .ok (.if_icmp .ge 14, 3) := by decide +kernel
theorem dX9_thrown_9 : decode cX9_thrown 9 = .ok (.aload_n 0, 1) := by decide +kernel
theorem dX9_thrown_10 : decode cX9_thrown 10 = .ok (.getfield 41, 3) := by decide +kernel
theorem dX9_thrown_13 : decode cX9_thrown 13 = .ok (.iload_n 1, 1) := by decide +kernel
theorem dX9_thrown_14 : decode cX9_thrown 14 = .ok (.invokevirtual 85, 3) := by decide +kernel
theorem dX9_thrown_17 : decode cX9_thrown 17 = .ok (.goto 5, 3) := by decide +kernel
theorem dX9_thrown_20 : decode cX9_thrown 20 = .ok (.bipush (-2), 2) := by decide +kernel
theorem dX9_thrown_22 : decode cX9_thrown 22 = .ok (.ireturn, 1) := by decide +kernel
theorem dX9_kind_0 : decode cX9_kind 0 = .ok (.aload_n 0, 1) := by decide +kernel
theorem dX9_kind_1 : decode cX9_kind 1 = .ok (.getfield 32, 3) := by decide +kernel
theorem dX9_kind_4 : decode cX9_kind 4 = .ok (.iload_n 1, 1) := by decide +kernel
theorem dX9_kind_5 : decode cX9_kind 5 = .ok (.i2l, 1) := by decide +kernel
theorem dX9_kind_6 : decode cX9_kind 6 = .ok (.invokevirtual 89, 3) := by decide +kernel
theorem dX9_kind_9 : decode cX9_kind 9 = .ok (.ifCond .eq 17, 3) := by decide +kernel
theorem dX9_kind_12 : decode cX9_kind 12 = .ok (.aload_n 0, 1) := by decide +kernel
theorem dX9_kind_13 : decode cX9_kind 13 = .ok (.getfield 32, 3) := by decide +kernel
theorem dX9_kind_16 : decode cX9_kind 16 = .ok (.getfield 93, 3) := by decide +kernel
theorem dX9_kind_19 : decode cX9_kind 19 = .ok (.iload_n 1, 1) := by decide +kernel
theorem dX9_kind_20 : decode cX9_kind 20 = .ok (.invokevirtual 97, 3) := by decide +kernel
theorem dX9_kind_23 : decode cX9_kind 23 = .ok (.goto 4, 3) := by decide +kernel
theorem dX9_kind_26 : decode cX9_kind 26 = .ok (.iconst (-1), 1) := by decide +kernel
theorem dX9_kind_27 : decode cX9_kind 27 = .ok (.ireturn, 1) := by decide +kernel
theorem dX9_whole_0 : decode cX9_whole 0 = .ok (.aload_n 0, 1) := by decide +kernel
theorem dX9_whole_1 : decode cX9_whole 1 = .ok (.iload_n 1, 1) := by decide +kernel
theorem dX9_whole_2 : decode cX9_whole 2 = .ok (.invokevirtual 102, 3) := by decide +kernel
theorem dX9_whole_5 : decode cX9_whole 5 = .ok (.istore_n 2, 1) := by decide +kernel
theorem dX9_whole_6 : decode cX9_whole 6 = .ok (.iload_n 2, 1) := by decide +kernel
theorem dX9_whole_7 : decode cX9_whole 7 = .ok (.iconst 2, 1) := by decide +kernel
theorem dX9_whole_8 : decode cX9_whole 8 = .ok (.if_icmp .ne 11, 3) := by decide +kernel
theorem dX9_whole_11 : decode cX9_whole 11 = .ok (.new 105, 3) := by decide +kernel
theorem dX9_whole_14 : decode cX9_whole 14 = .ok (.dup, 1) := by decide +kernel
theorem dX9_whole_15 : decode cX9_whole 15 = .ok (.invokespecial 107, 3) := by decide +kernel
theorem dX9_whole_18 : decode cX9_whole 18 = .ok (.athrow, 1) := by decide +kernel
theorem dX9_whole_19 : decode cX9_whole 19 = .ok (.iload_n 2, 1) := by decide +kernel
theorem dX9_whole_20 : decode cX9_whole 20 = .ok (.iconst 1, 1) := by decide +kernel
theorem dX9_whole_21 : decode cX9_whole 21 = .ok (.if_icmp .eq 11, 3) := by decide +kernel
theorem dX9_whole_24 : decode cX9_whole 24 = .ok (.new 108, 3) := by decide +kernel
theorem dX9_whole_27 : decode cX9_whole 27 = .ok (.dup, 1) := by decide +kernel
theorem dX9_whole_28 : decode cX9_whole 28 = .ok (.invokespecial 110, 3) := by decide +kernel
theorem dX9_whole_31 : decode cX9_whole 31 = .ok (.athrow, 1) := by decide +kernel
theorem dX9_whole_32 : decode cX9_whole 32 = .ok (.aload_n 0, 1) := by decide +kernel
theorem dX9_whole_33 : decode cX9_whole 33 = .ok (.getfield 32, 3) := by decide +kernel
theorem dX9_whole_36 : decode cX9_whole 36 = .ok (.getfield 93, 3) := by decide +kernel
theorem dX9_whole_39 : decode cX9_whole 39 = .ok (.iload_n 1, 1) := by decide +kernel
theorem dX9_whole_40 : decode cX9_whole 40 = .ok (.invokevirtual 111, 3) := by decide +kernel
theorem dX9_whole_43 : decode cX9_whole 43 = .ok (.lreturn, 1) := by decide +kernel
theorem dX9_thing_0 : decode cX9_thing 0 = .ok (.aload_n 0, 1) := by decide +kernel
theorem dX9_thing_1 : decode cX9_thing 1 = .ok (.iload_n 1, 1) := by decide +kernel
theorem dX9_thing_2 : decode cX9_thing 2 = .ok (.invokevirtual 102, 3) := by decide +kernel
theorem dX9_thing_5 : decode cX9_thing 5 = .ok (.iconst 2, 1) := by decide +kernel
theorem dX9_thing_6 : decode cX9_thing 6 = .ok (.if_icmp .eq 5, 3) := by decide +kernel
theorem dX9_thing_9 : decode cX9_thing 9 = .ok (.iconst (-1), 1) := by decide +kernel
theorem dX9_thing_10 : decode cX9_thing 10 = .ok (.ireturn, 1) := by decide +kernel
theorem dX9_thing_11 : decode cX9_thing 11 = .ok (.aload_n 0, 1) := by decide +kernel
theorem dX9_thing_12 : decode cX9_thing 12 = .ok (.getfield 32, 3) := by decide +kernel
theorem dX9_thing_15 : decode cX9_thing 15 = .ok (.getfield 93, 3) := by decide +kernel
theorem dX9_thing_18 : decode cX9_thing 18 = .ok (.iload_n 1, 1) := by decide +kernel
theorem dX9_thing_19 : decode cX9_thing 19 = .ok (.invokevirtual 111, 3) := by decide +kernel
theorem dX9_thing_22 : decode cX9_thing 22 = .ok (.l2i, 1) := by decide +kernel
theorem dX9_thing_23 : decode cX9_thing 23 = .ok (.istore_n 3, 1) := by decide +kernel
theorem dX9_thing_24 : decode cX9_thing 24 = .ok (.iload_n 2, 1) := by decide +kernel
theorem dX9_thing_25 : decode cX9_thing 25 = .ok (.tableswitch 121 0 6 #[43, 57, 71, 85, 104, 104, 104], 43) := by decide +kernel
theorem dX9_thing_68 : decode cX9_thing 68 = .ok (.aload_n 0, 1) := by decide +kernel
theorem dX9_thing_69 : decode cX9_thing 69 = .ok (.getfield 32, 3) := by decide +kernel
theorem dX9_thing_72 : decode cX9_thing 72 = .ok (.getfield 115, 3) := by decide +kernel
theorem dX9_thing_75 : decode cX9_thing 75 = .ok (.iload_n 3, 1) := by decide +kernel
theorem dX9_thing_76 : decode cX9_thing 76 = .ok (.invokevirtual 119, 3) := by decide +kernel
theorem dX9_thing_79 : decode cX9_thing 79 = .ok (.goto 69, 3) := by decide +kernel
theorem dX9_thing_82 : decode cX9_thing 82 = .ok (.aload_n 0, 1) := by decide +kernel
theorem dX9_thing_83 : decode cX9_thing 83 = .ok (.getfield 32, 3) := by decide +kernel
theorem dX9_thing_86 : decode cX9_thing 86 = .ok (.getfield 115, 3) := by decide +kernel
theorem dX9_thing_89 : decode cX9_thing 89 = .ok (.iload_n 3, 1) := by decide +kernel
theorem dX9_thing_90 : decode cX9_thing 90 = .ok (.invokevirtual 124, 3) := by decide +kernel
theorem dX9_thing_93 : decode cX9_thing 93 = .ok (.goto 55, 3) := by decide +kernel
theorem dX9_thing_96 : decode cX9_thing 96 = .ok (.aload_n 0, 1) := by decide +kernel
theorem dX9_thing_97 : decode cX9_thing 97 = .ok (.getfield 32, 3) := by decide +kernel
theorem dX9_thing_100 : decode cX9_thing 100 = .ok (.getfield 115, 3) := by decide +kernel
theorem dX9_thing_103 : decode cX9_thing 103 = .ok (.iload_n 3, 1) := by decide +kernel
theorem dX9_thing_104 : decode cX9_thing 104 = .ok (.invokevirtual 127, 3) := by decide +kernel
theorem dX9_thing_107 : decode cX9_thing 107 = .ok (.goto 41, 3) := by decide +kernel
theorem dX9_thing_110 : decode cX9_thing 110 = .ok (.aload_n 0, 1) := by decide +kernel
theorem dX9_thing_111 : decode cX9_thing 111 = .ok (.getfield 32, 3) := by decide +kernel
theorem dX9_thing_114 : decode cX9_thing 114 = .ok (.iload_n 3, 1) := by decide +kernel
theorem dX9_thing_115 : decode cX9_thing 115 = .ok (.invokevirtual 130, 3) := by decide +kernel
theorem dX9_thing_118 : decode cX9_thing 118 = .ok (.ifCond .eq 7, 3) := by decide +kernel
theorem dX9_thing_121 : decode cX9_thing 121 = .ok (.iconst 1, 1) := by decide +kernel
theorem dX9_thing_122 : decode cX9_thing 122 = .ok (.goto 26, 3) := by decide +kernel
theorem dX9_thing_125 : decode cX9_thing 125 = .ok (.iconst 0, 1) := by decide +kernel
theorem dX9_thing_126 : decode cX9_thing 126 = .ok (.goto 22, 3) := by decide +kernel
theorem dX9_thing_129 : decode cX9_thing 129 = .ok (.aload_n 0, 1) := by decide +kernel
theorem dX9_thing_130 : decode cX9_thing 130 = .ok (.getfield 32, 3) := by decide +kernel
theorem dX9_thing_133 : decode cX9_thing 133 = .ok (.getfield 115, 3) := by decide +kernel
theorem dX9_thing_136 : decode cX9_thing 136 = .ok (.iload_n 3, 1) := by decide +kernel
theorem dX9_thing_137 : decode cX9_thing 137 = .ok (.iload_n 2, 1) := by decide +kernel
theorem dX9_thing_138 : decode cX9_thing 138 = .ok (.iconst 4, 1) := by decide +kernel
theorem dX9_thing_139 : decode cX9_thing 139 = .ok (.isub, 1) := by decide +kernel
theorem dX9_thing_140 : decode cX9_thing 140 = .ok (.invokevirtual 134, 3) := by decide +kernel
theorem dX9_thing_143 : decode cX9_thing 143 = .ok (.goto 5, 3) := by decide +kernel
theorem dX9_thing_146 : decode cX9_thing 146 = .ok (.bipush (-2), 2) := by decide +kernel
theorem dX9_thing_148 : decode cX9_thing 148 = .ok (.ireturn, 1) := by decide +kernel
theorem dX9_name_0 : decode cX9_name 0 = .ok (.aload_n 0, 1) := by decide +kernel
theorem dX9_name_1 : decode cX9_name 1 = .ok (.getfield 32, 3) := by decide +kernel
theorem dX9_name_4 : decode cX9_name 4 = .ok (.getfield 72, 3) := by decide +kernel
theorem dX9_name_7 : decode cX9_name 7 = .ok (.lload_n 1, 1) := by decide +kernel
theorem dX9_name_8 : decode cX9_name 8 = .ok (.invokevirtual 138, 3) := by decide +kernel
theorem dX9_name_11 : decode cX9_name 11 = .ok (.ireturn, 1) := by decide +kernel
theorem dX9_letter_0 : decode cX9_letter 0 = .ok (.aload_n 0, 1) := by decide +kernel
theorem dX9_letter_1 : decode cX9_letter 1 = .ok (.getfield 32, 3) := by decide +kernel
theorem dX9_letter_4 : decode cX9_letter 4 = .ok (.getfield 72, 3) := by decide +kernel
theorem dX9_letter_7 : decode cX9_letter 7 = .ok (.iload_n 1, 1) := by decide +kernel
theorem dX9_letter_8 : decode cX9_letter 8 = .ok (.invokevirtual 142, 3) := by decide +kernel
theorem dX9_letter_11 : decode cX9_letter 11 = .ok (.ifCond .eq 18, 3) := by decide +kernel
theorem dX9_letter_14 : decode cX9_letter 14 = .ok (.aload_n 0, 1) := by decide +kernel
theorem dX9_letter_15 : decode cX9_letter 15 = .ok (.getfield 32, 3) := by decide +kernel
theorem dX9_letter_18 : decode cX9_letter 18 = .ok (.getfield 72, 3) := by decide +kernel
theorem dX9_letter_21 : decode cX9_letter 21 = .ok (.iload_n 1, 1) := by decide +kernel
theorem dX9_letter_22 : decode cX9_letter 22 = .ok (.iload_n 2, 1) := by decide +kernel
theorem dX9_letter_23 : decode cX9_letter 23 = .ok (.invokevirtual 145, 3) := by decide +kernel
theorem dX9_letter_26 : decode cX9_letter 26 = .ok (.goto 4, 3) := by decide +kernel
theorem dX9_letter_29 : decode cX9_letter 29 = .ok (.iconst (-1), 1) := by decide +kernel
theorem dX9_letter_30 : decode cX9_letter 30 = .ok (.ireturn, 1) := by decide +kernel
theorem dX9_what_0 : decode cX9_what 0 = .ok (.aload_n 0, 1) := by decide +kernel
theorem dX9_what_1 : decode cX9_what 1 = .ok (.getfield 32, 3) := by decide +kernel
theorem dX9_what_4 : decode cX9_what 4 = .ok (.getfield 72, 3) := by decide +kernel
theorem dX9_what_7 : decode cX9_what 7 = .ok (.iload_n 1, 1) := by decide +kernel
theorem dX9_what_8 : decode cX9_what 8 = .ok (.invokevirtual 142, 3) := by decide +kernel
theorem dX9_what_11 : decode cX9_what 11 = .ok (.ifCond .eq 17, 3) := by decide +kernel
theorem dX9_what_14 : decode cX9_what 14 = .ok (.aload_n 0, 1) := by decide +kernel
theorem dX9_what_15 : decode cX9_what 15 = .ok (.getfield 32, 3) := by decide +kernel
theorem dX9_what_18 : decode cX9_what 18 = .ok (.getfield 72, 3) := by decide +kernel
theorem dX9_what_21 : decode cX9_what 21 = .ok (.iload_n 1, 1) := by decide +kernel
theorem dX9_what_22 : decode cX9_what 22 = .ok (.invokevirtual 148, 3) := by decide +kernel
theorem dX9_what_25 : decode cX9_what 25 = .ok (.goto 4, 3) := by decide +kernel
theorem dX9_what_28 : decode cX9_what 28 = .ok (.iconst (-1), 1) := by decide +kernel
theorem dX9_what_29 : decode cX9_what 29 = .ok (.ireturn, 1) := by decide +kernel
theorem dX9_by_0 : decode cX9_by 0 = .ok (.aload_n 0, 1) := by decide +kernel
theorem dX9_by_1 : decode cX9_by 1 = .ok (.getfield 32, 3) := by decide +kernel
theorem dX9_by_4 : decode cX9_by 4 = .ok (.getfield 72, 3) := by decide +kernel
theorem dX9_by_7 : decode cX9_by 7 = .ok (.iload_n 1, 1) := by decide +kernel
theorem dX9_by_8 : decode cX9_by 8 = .ok (.invokevirtual 142, 3) := by decide +kernel
theorem dX9_by_11 : decode cX9_by 11 = .ok (.ifCond .eq 17, 3) := by decide +kernel
theorem dX9_by_14 : decode cX9_by 14 = .ok (.aload_n 0, 1) := by decide +kernel
theorem dX9_by_15 : decode cX9_by 15 = .ok (.getfield 32, 3) := by decide +kernel
theorem dX9_by_18 : decode cX9_by 18 = .ok (.getfield 72, 3) := by decide +kernel
theorem dX9_by_21 : decode cX9_by 21 = .ok (.iload_n 1, 1) := by decide +kernel
theorem dX9_by_22 : decode cX9_by 22 = .ok (.invokevirtual 151, 3) := by decide +kernel
theorem dX9_by_25 : decode cX9_by 25 = .ok (.goto 4, 3) := by decide +kernel
theorem dX9_by_28 : decode cX9_by 28 = .ok (.iconst (-1), 1) := by decide +kernel
theorem dX9_by_29 : decode cX9_by 29 = .ok (.ireturn, 1) := by decide +kernel
theorem dX9_edition_0 : decode cX9_edition 0 = .ok (.aload_n 0, 1) := by decide +kernel
theorem dX9_edition_1 : decode cX9_edition 1 = .ok (.getfield 32, 3) := by decide +kernel
theorem dX9_edition_4 : decode cX9_edition 4 = .ok (.getfield 72, 3) := by decide +kernel
theorem dX9_edition_7 : decode cX9_edition 7 = .ok (.iload_n 1, 1) := by decide +kernel
theorem dX9_edition_8 : decode cX9_edition 8 = .ok (.invokevirtual 142, 3) := by decide +kernel
theorem dX9_edition_11 : decode cX9_edition 11 = .ok (.ifCond .eq 17, 3) := by decide +kernel
theorem dX9_edition_14 : decode cX9_edition 14 = .ok (.aload_n 0, 1) := by decide +kernel
theorem dX9_edition_15 : decode cX9_edition 15 = .ok (.getfield 32, 3) := by decide +kernel
theorem dX9_edition_18 : decode cX9_edition 18 = .ok (.getfield 72, 3) := by decide +kernel
theorem dX9_edition_21 : decode cX9_edition 21 = .ok (.iload_n 1, 1) := by decide +kernel
theorem dX9_edition_22 : decode cX9_edition 22 = .ok (.invokevirtual 154, 3) := by decide +kernel
theorem dX9_edition_25 : decode cX9_edition 25 = .ok (.goto 4, 3) := by decide +kernel
theorem dX9_edition_28 : decode cX9_edition 28 = .ok (.iconst (-1), 1) := by decide +kernel
theorem dX9_edition_29 : decode cX9_edition 29 = .ok (.ireturn, 1) := by decide +kernel
theorem dX9_state_0 : decode cX9_state 0 = .ok (.aload_n 0, 1) := by decide +kernel
theorem dX9_state_1 : decode cX9_state 1 = .ok (.getfield 32, 3) := by decide +kernel
theorem dX9_state_4 : decode cX9_state 4 = .ok (.iload_n 1, 1) := by decide +kernel
theorem dX9_state_5 : decode cX9_state 5 = .ok (.invokevirtual 155, 3) := by decide +kernel
theorem dX9_state_8 : decode cX9_state 8 = .ok (.ifCond .eq 14, 3) := by decide +kernel
theorem dX9_state_11 : decode cX9_state 11 = .ok (.aload_n 0, 1) := by decide +kernel
theorem dX9_state_12 : decode cX9_state 12 = .ok (.getfield 32, 3) := by decide +kernel
theorem dX9_state_15 : decode cX9_state 15 = .ok (.iload_n 1, 1) := by decide +kernel
theorem dX9_state_16 : decode cX9_state 16 = .ok (.invokevirtual 158, 3) := by decide +kernel
theorem dX9_state_19 : decode cX9_state 19 = .ok (.goto 4, 3) := by decide +kernel
theorem dX9_state_22 : decode cX9_state 22 = .ok (.iconst (-1), 1) := by decide +kernel
theorem dX9_state_23 : decode cX9_state 23 = .ok (.ireturn, 1) := by decide +kernel
theorem dX9_text_0 : decode cX9_text 0 = .ok (.aload_n 0, 1) := by decide +kernel
theorem dX9_text_1 : decode cX9_text 1 = .ok (.getfield 32, 3) := by decide +kernel
theorem dX9_text_4 : decode cX9_text 4 = .ok (.iload_n 1, 1) := by decide +kernel
theorem dX9_text_5 : decode cX9_text 5 = .ok (.iload_n 2, 1) := by decide +kernel
theorem dX9_text_6 : decode cX9_text 6 = .ok (.invokevirtual 161, 3) := by decide +kernel
theorem dX9_text_9 : decode cX9_text 9 = .ok (.istore_n 3, 1) := by decide +kernel
theorem dX9_text_10 : decode cX9_text 10 = .ok (.iload_n 3, 1) := by decide +kernel
theorem dX9_text_11 : decode cX9_text 11 = .ok (.bipush (-5), 2) := by decide +kernel
theorem dX9_text_13 : decode cX9_text 13 = .ok (.if_icmp .ne 11, 3) := by decide +kernel
theorem dX9_text_16 : decode cX9_text 16 = .ok (.new 164, 3) := by decide +kernel
theorem dX9_text_19 : decode cX9_text 19 = .ok (.dup, 1) := by decide +kernel
theorem dX9_text_20 : decode cX9_text 20 = .ok (.invokespecial 166, 3) := by decide +kernel
theorem dX9_text_23 : decode cX9_text 23 = .ok (.athrow, 1) := by decide +kernel
theorem dX9_text_24 : decode cX9_text 24 = .ok (.iload_n 3, 1) := by decide +kernel
theorem dX9_text_25 : decode cX9_text 25 = .ok (.ireturn, 1) := by decide +kernel
theorem dX9_user_0 : decode cX9_user 0 = .ok (.aload_n 0, 1) := by decide +kernel
theorem dX9_user_1 : decode cX9_user 1 = .ok (.getfield 32, 3) := by decide +kernel
theorem dX9_user_4 : decode cX9_user 4 = .ok (.getfield 72, 3) := by decide +kernel
theorem dX9_user_7 : decode cX9_user 7 = .ok (.iload_n 1, 1) := by decide +kernel
theorem dX9_user_8 : decode cX9_user 8 = .ok (.invokevirtual 142, 3) := by decide +kernel
theorem dX9_user_11 : decode cX9_user 11 = .ok (.ifCond .eq 15, 3) := by decide +kernel
theorem dX9_user_14 : decode cX9_user 14 = .ok (.aload_n 0, 1) := by decide +kernel
theorem dX9_user_15 : decode cX9_user 15 = .ok (.getfield 32, 3) := by decide +kernel
theorem dX9_user_18 : decode cX9_user 18 = .ok (.iload_n 1, 1) := by decide +kernel
theorem dX9_user_19 : decode cX9_user 19 = .ok (.iload_n 2, 1) := by decide +kernel
theorem dX9_user_20 : decode cX9_user 20 = .ok (.invokevirtual 167, 3) := by decide +kernel
theorem dX9_user_23 : decode cX9_user 23 = .ok (.goto 4, 3) := by decide +kernel
theorem dX9_user_26 : decode cX9_user 26 = .ok (.iconst (-1), 1) := by decide +kernel
theorem dX9_user_27 : decode cX9_user 27 = .ok (.ireturn, 1) := by decide +kernel
theorem dX9_count_0 : decode cX9_count 0 = .ok (.iload_n 1, 1) := by decide +kernel
theorem dX9_count_1 : decode cX9_count 1 = .ok (.tableswitch 113 0 6 #[43, 53, 63, 76, 83, 93, 103], 43) := by decide +kernel
theorem dX9_count_44 : decode cX9_count 44 = .ok (.aload_n 0, 1) := by decide +kernel
theorem dX9_count_45 : decode cX9_count 45 = .ok (.getfield 32, 3) := by decide +kernel
theorem dX9_count_48 : decode cX9_count 48 = .ok (.invokevirtual 170, 3) := by decide +kernel
theorem dX9_count_51 : decode cX9_count 51 = .ok (.goto 65, 3) := by decide +kernel
theorem dX9_count_54 : decode cX9_count 54 = .ok (.aload_n 0, 1) := by decide +kernel
theorem dX9_count_55 : decode cX9_count 55 = .ok (.getfield 32, 3) := by decide +kernel
theorem dX9_count_58 : decode cX9_count 58 = .ok (.invokevirtual 173, 3) := by decide +kernel
theorem dX9_count_61 : decode cX9_count 61 = .ok (.goto 55, 3) := by decide +kernel
theorem dX9_count_64 : decode cX9_count 64 = .ok (.aload_n 0, 1) := by decide +kernel
theorem dX9_count_65 : decode cX9_count 65 = .ok (.getfield 32, 3) := by decide +kernel
theorem dX9_count_68 : decode cX9_count 68 = .ok (.getfield 72, 3) := by decide +kernel
theorem dX9_count_71 : decode cX9_count 71 = .ok (.invokevirtual 176, 3) := by decide +kernel
theorem dX9_count_74 : decode cX9_count 74 = .ok (.goto 42, 3) := by decide +kernel
theorem dX9_count_77 : decode cX9_count 77 = .ok (.aload_n 0, 1) := by decide +kernel
theorem dX9_count_78 : decode cX9_count 78 = .ok (.getfield 49, 3) := by decide +kernel
theorem dX9_count_81 : decode cX9_count 81 = .ok (.goto 35, 3) := by decide +kernel
theorem dX9_count_84 : decode cX9_count 84 = .ok (.aload_n 0, 1) := by decide +kernel
theorem dX9_count_85 : decode cX9_count 85 = .ok (.getfield 32, 3) := by decide +kernel
theorem dX9_count_88 : decode cX9_count 88 = .ok (.invokevirtual 179, 3) := by decide +kernel
theorem dX9_count_91 : decode cX9_count 91 = .ok (.goto 25, 3) := by decide +kernel
theorem dX9_count_94 : decode cX9_count 94 = .ok (.aload_n 0, 1) := by decide +kernel
theorem dX9_count_95 : decode cX9_count 95 = .ok (.getfield 32, 3) := by decide +kernel
theorem dX9_count_98 : decode cX9_count 98 = .ok (.invokevirtual 182, 3) := by decide +kernel
theorem dX9_count_101 : decode cX9_count 101 = .ok (.goto 15, 3) := by decide +kernel
theorem dX9_count_104 : decode cX9_count 104 = .ok (.aload_n 0, 1) := by decide +kernel
theorem dX9_count_105 : decode cX9_count 105 = .ok (.getfield 41, 3) := by decide +kernel
theorem dX9_count_108 : decode cX9_count 108 = .ok (.invokevirtual 185, 3) := by decide +kernel
theorem dX9_count_111 : decode cX9_count 111 = .ok (.goto 5, 3) := by decide +kernel
theorem dX9_count_114 : decode cX9_count 114 = .ok (.bipush (-2), 2) := by decide +kernel
theorem dX9_count_116 : decode cX9_count 116 = .ok (.ireturn, 1) := by decide +kernel
theorem dX9_erase_0 : decode cX9_erase 0 = .ok (.aload_n 0, 1) := by decide +kernel
theorem dX9_erase_1 : decode cX9_erase 1 = .ok (.getfield 49, 3) := by decide +kernel
theorem dX9_erase_4 : decode cX9_erase 4 = .ok (.istore_n 1, 1) := by decide +kernel
theorem dX9_erase_5 : decode cX9_erase 5 = .ok (.aload_n 0, 1) := by decide +kernel
theorem dX9_erase_6 : decode cX9_erase 6 = .ok (.iconst 0, 1) := by decide +kernel
theorem dX9_erase_7 : decode cX9_erase 7 = .ok (.putfield 49, 3) := by decide +kernel
theorem dX9_erase_10 : decode cX9_erase 10 = .ok (.iload_n 1, 1) := by decide +kernel
theorem dX9_erase_11 : decode cX9_erase 11 = .ok (.ireturn, 1) := by decide +kernel
theorem dX9_reset_0 : decode cX9_reset 0 = .ok (.aload_n 0, 1) := by decide +kernel
theorem dX9_reset_1 : decode cX9_reset 1 = .ok (.getfield 32, 3) := by decide +kernel
theorem dX9_reset_4 : decode cX9_reset 4 = .ok (.invokevirtual 170, 3) := by decide +kernel
theorem dX9_reset_7 : decode cX9_reset 7 = .ok (.istore_n 1, 1) := by decide +kernel
theorem dX9_reset_8 : decode cX9_reset 8 = .ok (.aload_n 0, 1) := by decide +kernel
theorem dX9_reset_9 : decode cX9_reset 9 = .ok (.iconst 0, 1) := by decide +kernel
theorem dX9_reset_10 : decode cX9_reset 10 = .ok (.putfield 49, 3) := by decide +kernel
theorem dX9_reset_13 : decode cX9_reset 13 = .ok (.aload_n 0, 1) := by decide +kernel
theorem dX9_reset_14 : decode cX9_reset 14 = .ok (.getfield 32, 3) := by decide +kernel
theorem dX9_reset_17 : decode cX9_reset 17 = .ok (.invokevirtual 188, 3) := by decide +kernel
theorem dX9_reset_20 : decode cX9_reset 20 = .ok (.aload_n 0, 1) := by decide +kernel
theorem dX9_reset_21 : decode cX9_reset 21 = .ok (.getfield 41, 3) := by decide +kernel
theorem dX9_reset_24 : decode cX9_reset 24 = .ok (.invokevirtual 191, 3) := by decide +kernel
theorem dX9_reset_27 : decode cX9_reset 27 = .ok (.iload_n 1, 1) := by decide +kernel
theorem dX9_reset_28 : decode cX9_reset 28 = .ok (.ireturn, 1) := by decide +kernel
theorem dX9_byteOf_0 : decode cX9_byteOf 0 = .ok (.lload_n 0, 1) := by decide +kernel
theorem dX9_byteOf_1 : decode cX9_byteOf 1 = .ok (.iload_n 2, 1) := by decide +kernel
theorem dX9_byteOf_2 : decode cX9_byteOf 2 = .ok (.lushr, 1) := by decide +kernel
theorem dX9_byteOf_3 : decode cX9_byteOf 3 = .ok (.l2i, 1) := by decide +kernel
theorem dX9_byteOf_4 : decode cX9_byteOf 4 = .ok (.sipush 255, 3) := by decide +kernel
theorem dX9_byteOf_7 : decode cX9_byteOf 7 = .ok (.iand, 1) := by decide +kernel
theorem dX9_byteOf_8 : decode cX9_byteOf 8 = .ok (.ireturn, 1) := by decide +kernel
theorem dX9_addSign_0 : decode cX9_addSign 0 = .ok (.iload_n 1, 1) := by decide +kernel
theorem dX9_addSign_1 : decode cX9_addSign 1 = .ok (.ifCond .eq 33, 3) := by decide +kernel
theorem dX9_addSign_4 : decode cX9_addSign 4 = .ok (.aload_n 0, 1) := by decide +kernel
theorem dX9_addSign_5 : decode cX9_addSign 5 = .ok (.getfield 49, 3) := by decide +kernel
theorem dX9_addSign_8 : decode cX9_addSign 8 = .ok (.bipush 120, 2) := by decide +kernel
theorem dX9_addSign_10 : decode cX9_addSign 10 = .ok (.if_icmp .ge 24, 3) := by decide +kernel
theorem dX9_addSign_13 : decode cX9_addSign 13 = .ok (.aload_n 0, 1) := by decide +kernel
theorem dX9_addSign_14 : decode cX9_addSign 14 = .ok (.getfield 9, 3) := by decide +kernel
theorem dX9_addSign_17 : decode cX9_addSign 17 = .ok (.aload_n 0, 1) := by decide +kernel
theorem dX9_addSign_18 : decode cX9_addSign 18 = .ok (.getfield 49, 3) := by decide +kernel
theorem dX9_addSign_21 : decode cX9_addSign 21 = .ok (.iload_n 1, 1) := by decide +kernel
theorem dX9_addSign_22 : decode cX9_addSign 22 = .ok (.i2b, 1) := by decide +kernel
theorem dX9_addSign_23 : decode cX9_addSign 23 = .ok (.bastore, 1) := by decide +kernel
theorem dX9_addSign_24 : decode cX9_addSign 24 = .ok (.aload_n 0, 1) := by decide +kernel
theorem dX9_addSign_25 : decode cX9_addSign 25 = .ok (.dup, 1) := by decide +kernel
theorem dX9_addSign_26 : decode cX9_addSign 26 = .ok (.getfield 49, 3) := by decide +kernel
theorem dX9_addSign_29 : decode cX9_addSign 29 = .ok (.iconst 1, 1) := by decide +kernel
theorem dX9_addSign_30 : decode cX9_addSign 30 = .ok (.iadd, 1) := by decide +kernel
theorem dX9_addSign_31 : decode cX9_addSign 31 = .ok (.putfield 49, 3) := by decide +kernel
theorem dX9_addSign_34 : decode cX9_addSign 34 = .ok (.return_, 1) := by decide +kernel
theorem dX9_runWithoutFault_0 : decode cX9_runWithoutFault 0 = .ok (.aload_n 0, 1) := by decide +kernel
theorem dX9_runWithoutFault_1 : decode cX9_runWithoutFault 1 = .ok (.getfield 41, 3) := by decide +kernel
theorem dX9_runWithoutFault_4 : decode cX9_runWithoutFault 4 = .ok (.invokevirtual 69, 3) := by decide +kernel
theorem dX9_runWithoutFault_7 : decode cX9_runWithoutFault 7 = .ok (.aload_n 0, 1) := by decide +kernel
theorem dX9_runWithoutFault_8 : decode cX9_runWithoutFault 8 = .ok (.getfield 25, 3) := by decide +kernel
theorem dX9_runWithoutFault_11 : decode cX9_runWithoutFault 11 = .ok (.aload_n 0, 1) := by decide +kernel
theorem dX9_runWithoutFault_12 : decode cX9_runWithoutFault 12 = .ok (.getfield 32, 3) := by decide +kernel
theorem dX9_runWithoutFault_15 : decode cX9_runWithoutFault 15 = .ok (.getfield 72, 3) := by decide +kernel
theorem dX9_runWithoutFault_18 : decode cX9_runWithoutFault 18 = .ok (.aload_n 0, 1) := by decide +kernel
theorem dX9_runWithoutFault_19 : decode cX9_runWithoutFault 19 = .ok (.getfield 32, 3) := by decide +kernel
theorem dX9_runWithoutFault_22 : decode cX9_runWithoutFault 22 = .ok (.invokevirtual 170, 3) := by decide +kernel
theorem dX9_runWithoutFault_25 : decode cX9_runWithoutFault 25 = .ok (.invokevirtual 192, 3) := by decide +kernel
theorem dX9_runWithoutFault_28 : decode cX9_runWithoutFault 28 = .ok (.aload_n 0, 1) := by decide +kernel
theorem dX9_runWithoutFault_29 : decode cX9_runWithoutFault 29 = .ok (.getfield 25, 3) := by decide +kernel
theorem dX9_runWithoutFault_32 : decode cX9_runWithoutFault 32 = .ok (.invokevirtual 196, 3) := by decide +kernel
theorem dX9_runWithoutFault_35 : decode cX9_runWithoutFault 35 = .ok (.istore_n 1, 1) := by decide +kernel
theorem dX9_runWithoutFault_36 : decode cX9_runWithoutFault 36 = .ok (.iload_n 1, 1) := by decide +kernel
theorem dX9_runWithoutFault_37 : decode cX9_runWithoutFault 37 = .ok (.ifCond .eq 8, 3) := by decide +kernel
theorem dX9_runWithoutFault_40 : decode cX9_runWithoutFault 40 = .ok (.iload_n 1, 1) := by decide +kernel
theorem dX9_runWithoutFault_41 : decode cX9_runWithoutFault 41 = .ok (.iconst 1, 1) := by decide +kernel
theorem dX9_runWithoutFault_42 : decode cX9_runWithoutFault 42 = .ok (.if_icmp .ne 39, 3) := by decide +kernel
theorem dX9_runWithoutFault_45 : decode cX9_runWithoutFault 45 = .ok (.aload_n 0, 1) := by decide +kernel
theorem dX9_runWithoutFault_46 : decode cX9_runWithoutFault 46 = .ok (.getfield 41, 3) := by decide +kernel
theorem dX9_runWithoutFault_49 : decode cX9_runWithoutFault 49 = .ok (.aload_n 0, 1) := by decide +kernel
theorem dX9_runWithoutFault_50 : decode cX9_runWithoutFault 50 = .ok (.getfield 25, 3) := by decide +kernel
theorem dX9_runWithoutFault_53 : decode cX9_runWithoutFault 53 = .ok (.invokevirtual 201, 3) := by decide +kernel
theorem dX9_runWithoutFault_56 : decode cX9_runWithoutFault 56 = .ok (.invokevirtual 205, 3) := by decide +kernel
theorem dX9_runWithoutFault_59 : decode cX9_runWithoutFault 59 = .ok (.aload_n 0, 1) := by decide +kernel
theorem dX9_runWithoutFault_60 : decode cX9_runWithoutFault 60 = .ok (.getfield 41, 3) := by decide +kernel
theorem dX9_runWithoutFault_63 : decode cX9_runWithoutFault 63 = .ok (.invokevirtual 209, 3) := by decide +kernel
theorem dX9_runWithoutFault_66 : decode cX9_runWithoutFault 66 = .ok (.ifCond .eq 15, 3) := by decide +kernel
theorem dX9_runWithoutFault_69 : decode cX9_runWithoutFault 69 = .ok (.sipush (-200), 3) := by decide +kernel
theorem dX9_runWithoutFault_72 : decode cX9_runWithoutFault 72 = .ok (.aload_n 0, 1) := by decide +kernel
theorem dX9_runWithoutFault_73 : decode cX9_runWithoutFault 73 = .ok (.getfield 41, 3) := by decide +kernel
theorem dX9_runWithoutFault_76 : decode cX9_runWithoutFault 76 = .ok (.invokevirtual 209, 3) := by decide +kernel
theorem dX9_runWithoutFault_79 : decode cX9_runWithoutFault 79 = .ok (.isub, 1) := by decide +kernel
theorem dX9_runWithoutFault_80 : decode cX9_runWithoutFault 80 = .ok (.ireturn, 1) := by decide +kernel
theorem dX9_runWithoutFault_81 : decode cX9_runWithoutFault 81 = .ok (.aload_n 0, 1) := by decide +kernel
theorem dX9_runWithoutFault_82 : decode cX9_runWithoutFault 82 = .ok (.getfield 32, 3) := by decide +kernel
theorem dX9_runWithoutFault_85 : decode cX9_runWithoutFault 85 = .ok (.aload_n 0, 1) := by decide +kernel
theorem dX9_runWithoutFault_86 : decode cX9_runWithoutFault 86 = .ok (.getfield 25, 3) := by decide +kernel
theorem dX9_runWithoutFault_89 : decode cX9_runWithoutFault 89 = .ok (.aload_n 0, 1) := by decide +kernel
theorem dX9_runWithoutFault_90 : decode cX9_runWithoutFault 90 = .ok (.getfield 9, 3) := by decide +kernel
theorem dX9_runWithoutFault_93 : decode cX9_runWithoutFault 93 = .ok (.aload_n 0, 1) := by decide +kernel
theorem dX9_runWithoutFault_94 : decode cX9_runWithoutFault 94 = .ok (.getfield 49, 3) := by decide +kernel
theorem dX9_runWithoutFault_97 : decode cX9_runWithoutFault 97 = .ok (.invokestatic 212, 3) := by decide +kernel
theorem dX9_runWithoutFault_100 : decode cX9_runWithoutFault 100 = .ok (.invokevirtual 218, 3) := by decide +kernel
theorem dX9_runWithoutFault_103 : decode cX9_runWithoutFault 103 = .ok (.aload_n 0, 1) := by decide +kernel
theorem dX9_runWithoutFault_104 : decode cX9_runWithoutFault 104 = .ok (.getfield 41, 3) := by decide +kernel
theorem dX9_runWithoutFault_107 : decode cX9_runWithoutFault 107 = .ok (.invokevirtual 222, 3) := by decide +kernel
theorem dX9_runWithoutFault_110 : decode cX9_runWithoutFault 110 = .ok (.aload_n 0, 1) := by decide +kernel
theorem dX9_runWithoutFault_111 : decode cX9_runWithoutFault 111 = .ok (.getfield 41, 3) := by decide +kernel
theorem dX9_runWithoutFault_114 : decode cX9_runWithoutFault 114 = .ok (.invokevirtual 225, 3) := by decide +kernel
theorem dX9_runWithoutFault_117 : decode cX9_runWithoutFault 117 = .ok (.invokevirtual 229, 3) := by decide +kernel
theorem dX9_runWithoutFault_120 : decode cX9_runWithoutFault 120 = .ok (.iload_n 1, 1) := by decide +kernel
theorem dX9_runWithoutFault_121 : decode cX9_runWithoutFault 121 = .ok (.ifCond .ne 13, 3) := by decide +kernel
theorem dX9_runWithoutFault_124 : decode cX9_runWithoutFault 124 = .ok (.aload_n 0, 1) := by decide +kernel
theorem dX9_runWithoutFault_125 : decode cX9_runWithoutFault 125 = .ok (.getfield 32, 3) := by decide +kernel
theorem dX9_runWithoutFault_128 : decode cX9_runWithoutFault 128 = .ok (.invokevirtual 173, 3) := by decide +kernel
theorem dX9_runWithoutFault_131 : decode cX9_runWithoutFault 131 = .ok (.goto 4, 3) := by decide +kernel
theorem dX9_runWithoutFault_134 : decode cX9_runWithoutFault 134 = .ok (.iconst 0, 1) := by decide +kernel
theorem dX9_runWithoutFault_135 : decode cX9_runWithoutFault 135 = .ok (.ireturn, 1) := by decide +kernel
theorem dX10_init_0 : decode cX10_init 0 = .ok (.aload_n 0, 1) := by decide +kernel
theorem dX10_init_1 : decode cX10_init 1 = .ok (.invokespecial 1, 3) := by decide +kernel
theorem dX10_init_4 : decode cX10_init 4 = .ok (.aload_n 0, 1) := by decide +kernel
theorem dX10_init_5 : decode cX10_init 5 = .ok (.bipush 120, 2) := by decide +kernel
theorem dX10_init_7 : decode cX10_init 7 = .ok (.newarray .int, 2) := by decide +kernel
theorem dX10_init_9 : decode cX10_init 9 = .ok (.putfield 7, 3) := by decide +kernel
theorem dX10_init_12 : decode cX10_init 12 = .ok (.aload_n 0, 1) := by decide +kernel
theorem dX10_init_13 : decode cX10_init 13 = .ok (.bipush 40, 2) := by decide +kernel
theorem dX10_init_15 : decode cX10_init 15 = .ok (.newarray .long, 2) := by decide +kernel
theorem dX10_init_17 : decode cX10_init 17 = .ok (.putfield 13, 3) := by decide +kernel
theorem dX10_init_20 : decode cX10_init 20 = .ok (.aload_n 0, 1) := by decide +kernel
theorem dX10_init_21 : decode cX10_init 21 = .ok (.bipush 40, 2) := by decide +kernel
theorem dX10_init_23 : decode cX10_init 23 = .ok (.newarray .int, 2) := by decide +kernel
theorem dX10_init_25 : decode cX10_init 25 = .ok (.putfield 17, 3) := by decide +kernel
theorem dX10_init_28 : decode cX10_init 28 = .ok (.aload_n 0, 1) := by decide +kernel
theorem dX10_init_29 : decode cX10_init 29 = .ok (.bipush 40, 2) := by decide +kernel
theorem dX10_init_31 : decode cX10_init 31 = .ok (.newarray .int, 2) := by decide +kernel
theorem dX10_init_33 : decode cX10_init 33 = .ok (.putfield 20, 3) := by decide +kernel
theorem dX10_init_36 : decode cX10_init 36 = .ok (.aload_n 0, 1) := by decide +kernel
theorem dX10_init_37 : decode cX10_init 37 = .ok (.bipush 40, 2) := by decide +kernel
theorem dX10_init_39 : decode cX10_init 39 = .ok (.newarray .int, 2) := by decide +kernel
theorem dX10_init_41 : decode cX10_init 41 = .ok (.putfield 23, 3) := by decide +kernel
theorem dX10_init_44 : decode cX10_init 44 = .ok (.aload_n 0, 1) := by decide +kernel
theorem dX10_init_45 : decode cX10_init 45 = .ok (.bipush 40, 2) := by decide +kernel
theorem dX10_init_47 : decode cX10_init 47 = .ok (.newarray .int, 2) := by decide +kernel
theorem dX10_init_49 : decode cX10_init 49 = .ok (.putfield 26, 3) := by decide +kernel
theorem dX10_init_52 : decode cX10_init 52 = .ok (.aload_n 0, 1) := by decide +kernel
theorem dX10_init_53 : decode cX10_init 53 = .ok (.bipush 40, 2) := by decide +kernel
theorem dX10_init_55 : decode cX10_init 55 = .ok (.newarray .long, 2) := by decide +kernel
theorem dX10_init_57 : decode cX10_init 57 = .ok (.putfield 29, 3) := by decide +kernel
theorem dX10_init_60 : decode cX10_init 60 = .ok (.aload_n 0, 1) := by decide +kernel
theorem dX10_init_61 : decode cX10_init 61 = .ok (.bipush 41, 2) := by decide +kernel
theorem dX10_init_63 : decode cX10_init 63 = .ok (.newarray .int, 2) := by decide +kernel
theorem dX10_init_65 : decode cX10_init 65 = .ok (.putfield 32, 3) := by decide +kernel
theorem dX10_init_68 : decode cX10_init 68 = .ok (.aload_n 0, 1) := by decide +kernel
theorem dX10_init_69 : decode cX10_init 69 = .ok (.bipush 41, 2) := by decide +kernel
theorem dX10_init_71 : decode cX10_init 71 = .ok (.newarray .int, 2) := by decide +kernel
theorem dX10_init_73 : decode cX10_init 73 = .ok (.putfield 35, 3) := by decide +kernel
theorem dX10_init_76 : decode cX10_init 76 = .ok (.aload_n 0, 1) := by decide +kernel
theorem dX10_init_77 : decode cX10_init 77 = .ok (.bipush 41, 2) := by decide +kernel
theorem dX10_init_79 : decode cX10_init 79 = .ok (.newarray .int, 2) := by decide +kernel
theorem dX10_init_81 : decode cX10_init 81 = .ok (.putfield 38, 3) := by decide +kernel
theorem dX10_init_84 : decode cX10_init 84 = .ok (.aload_n 0, 1) := by decide +kernel
theorem dX10_init_85 : decode cX10_init 85 = .ok (.bipush 123, 2) := by decide +kernel
theorem dX10_init_87 : decode cX10_init 87 = .ok (.newarray .int, 2) := by decide +kernel
theorem dX10_init_89 : decode cX10_init 89 = .ok (.putfield 41, 3) := by decide +kernel
theorem dX10_init_92 : decode cX10_init 92 = .ok (.aload_n 0, 1) := by decide +kernel
theorem dX10_init_93 : decode cX10_init 93 = .ok (.bipush 41, 2) := by decide +kernel
theorem dX10_init_95 : decode cX10_init 95 = .ok (.newarray .int, 2) := by decide +kernel
theorem dX10_init_97 : decode cX10_init 97 = .ok (.putfield 44, 3) := by decide +kernel
theorem dX10_init_100 : decode cX10_init 100 = .ok (.aload_n 0, 1) := by decide +kernel
theorem dX10_init_101 : decode cX10_init 101 = .ok (.bipush 41, 2) := by decide +kernel
theorem dX10_init_103 : decode cX10_init 103 = .ok (.newarray .int, 2) := by decide +kernel
theorem dX10_init_105 : decode cX10_init 105 = .ok (.putfield 47, 3) := by decide +kernel
theorem dX10_init_108 : decode cX10_init 108 = .ok (.aload_n 0, 1) := by decide +kernel
theorem dX10_init_109 : decode cX10_init 109 = .ok (.bipush 41, 2) := by decide +kernel
theorem dX10_init_111 : decode cX10_init 111 = .ok (.newarray .int, 2) := by decide +kernel
theorem dX10_init_113 : decode cX10_init 113 = .ok (.putfield 50, 3) := by decide +kernel
theorem dX10_init_116 : decode cX10_init 116 = .ok (.aload_n 0, 1) := by decide +kernel
theorem dX10_init_117 : decode cX10_init 117 = .ok (.sipush 4920, 3) := by decide +kernel
theorem dX10_init_120 : decode cX10_init 120 = .ok (.newarray .int, 2) := by decide +kernel
theorem dX10_init_122 : decode cX10_init 122 = .ok (.putfield 53, 3) := by decide +kernel
theorem dX10_init_125 : decode cX10_init 125 = .ok (.aload_n 0, 1) := by decide +kernel
theorem dX10_init_126 : decode cX10_init 126 = .ok (.sipush 2624, 3) := by decide +kernel
theorem dX10_init_129 : decode cX10_init 129 = .ok (.newarray .int, 2) := by decide +kernel
theorem dX10_init_131 : decode cX10_init 131 = .ok (.putfield 56, 3) := by decide +kernel
theorem dX10_init_134 : decode cX10_init 134 = .ok (.aload_n 0, 1) := by decide +kernel
theorem dX10_init_135 : decode cX10_init 135 = .ok (.sipush 2624, 3) := by decide +kernel
theorem dX10_init_138 : decode cX10_init 138 = .ok (.newarray .int, 2) := by decide +kernel
theorem dX10_init_140 : decode cX10_init 140 = .ok (.putfield 59, 3) := by decide +kernel
theorem dX10_init_143 : decode cX10_init 143 = .ok (.aload_n 0, 1) := by decide +kernel
theorem dX10_init_144 : decode cX10_init 144 = .ok (.sipush 2624, 3) := by decide +kernel
theorem dX10_init_147 : decode cX10_init 147 = .ok (.newarray .int, 2) := by decide +kernel
theorem dX10_init_149 : decode cX10_init 149 = .ok (.putfield 62, 3) := by decide +kernel
theorem dX10_init_152 : decode cX10_init 152 = .ok (.aload_n 0, 1) := by decide +kernel
theorem dX10_init_153 : decode cX10_init 153 = .ok (.sipush 2624, 3) := by decide +kernel
theorem dX10_init_156 : decode cX10_init 156 = .ok (.newarray .int, 2) := by decide +kernel
theorem dX10_init_158 : decode cX10_init 158 = .ok (.putfield 65, 3) := by decide +kernel
theorem dX10_init_161 : decode cX10_init 161 = .ok (.aload_n 0, 1) := by decide +kernel
theorem dX10_init_162 : decode cX10_init 162 = .ok (.sipush 2624, 3) := by decide +kernel
theorem dX10_init_165 : decode cX10_init 165 = .ok (.newarray .int, 2) := by decide +kernel
theorem dX10_init_167 : decode cX10_init 167 = .ok (.putfield 68, 3) := by decide +kernel
theorem dX10_init_170 : decode cX10_init 170 = .ok (.aload_n 0, 1) := by decide +kernel
theorem dX10_init_171 : decode cX10_init 171 = .ok (.sipush 2624, 3) := by decide +kernel
theorem dX10_init_174 : decode cX10_init 174 = .ok (.newarray .int, 2) := by decide +kernel
theorem dX10_init_176 : decode cX10_init 176 = .ok (.putfield 71, 3) := by decide +kernel
theorem dX10_init_179 : decode cX10_init 179 = .ok (.aload_n 0, 1) := by decide +kernel
theorem dX10_init_180 : decode cX10_init 180 = .ok (.sipush 2624, 3) := by decide +kernel
theorem dX10_init_183 : decode cX10_init 183 = .ok (.newarray .int, 2) := by decide +kernel
theorem dX10_init_185 : decode cX10_init 185 = .ok (.putfield 74, 3) := by decide +kernel
theorem dX10_init_188 : decode cX10_init 188 = .ok (.aload_n 0, 1) := by decide +kernel
theorem dX10_init_189 : decode cX10_init 189 = .ok (.sipush 2624, 3) := by decide +kernel
theorem dX10_init_192 : decode cX10_init 192 = .ok (.newarray .long, 2) := by decide +kernel
theorem dX10_init_194 : decode cX10_init 194 = .ok (.putfield 77, 3) := by decide +kernel
theorem dX10_init_197 : decode cX10_init 197 = .ok (.aload_n 0, 1) := by decide +kernel
theorem dX10_init_198 : decode cX10_init 198 = .ok (.bipush 41, 2) := by decide +kernel
theorem dX10_init_200 : decode cX10_init 200 = .ok (.newarray .int, 2) := by decide +kernel
theorem dX10_init_202 : decode cX10_init 202 = .ok (.putfield 80, 3) := by decide +kernel
theorem dX10_init_205 : decode cX10_init 205 = .ok (.aload_n 0, 1) := by decide +kernel
theorem dX10_init_206 : decode cX10_init 206 = .ok (.bipush 41, 2) := by decide +kernel
theorem dX10_init_208 : decode cX10_init 208 = .ok (.newarray .long, 2) := by decide +kernel
theorem dX10_init_210 : decode cX10_init 210 = .ok (.putfield 83, 3) := by decide +kernel
theorem dX10_init_213 : decode cX10_init 213 = .ok (.aload_n 0, 1) := by decide +kernel
theorem dX10_init_214 : decode cX10_init 214 = .ok (.sipush 16500, 3) := by decide +kernel
theorem dX10_init_217 : decode cX10_init 217 = .ok (.newarray .int, 2) := by decide +kernel
theorem dX10_init_219 : decode cX10_init 219 = .ok (.putfield 86, 3) := by decide +kernel
theorem dX10_init_222 : decode cX10_init 222 = .ok (.aload_n 0, 1) := by decide +kernel
theorem dX10_init_223 : decode cX10_init 223 = .ok (.ldc 89, 2) := by decide +kernel
theorem dX10_init_225 : decode cX10_init 225 = .ok (.newarray .int, 2) := by decide +kernel
theorem dX10_init_227 : decode cX10_init 227 = .ok (.putfield 90, 3) := by decide +kernel
theorem dX10_init_230 : decode cX10_init 230 = .ok (.aload_n 0, 1) := by decide +kernel
theorem dX10_init_231 : decode cX10_init 231 = .ok (.ldc 89, 2) := by decide +kernel
theorem dX10_init_233 : decode cX10_init 233 = .ok (.newarray .long, 2) := by decide +kernel
theorem dX10_init_235 : decode cX10_init 235 = .ok (.putfield 93, 3) := by decide +kernel
theorem dX10_init_238 : decode cX10_init 238 = .ok (.aload_n 0, 1) := by decide +kernel
theorem dX10_init_239 : decode cX10_init 239 = .ok (.iconst 5, 1) := by decide +kernel
theorem dX10_init_240 : decode cX10_init 240 = .ok (.newarray .int, 2) := by decide +kernel
theorem dX10_init_242 : decode cX10_init 242 = .ok (.putfield 96, 3) := by decide +kernel
theorem dX10_init_245 : decode cX10_init 245 = .ok (.aload_n 0, 1) := by decide +kernel
theorem dX10_init_246 : decode cX10_init 246 = .ok (.bipush 62, 2) := by decide +kernel
theorem dX10_init_248 : decode cX10_init 248 = .ok (.newarray .int, 2) := by decide +kernel
theorem dX10_init_250 : decode cX10_init 250 = .ok (.putfield 99, 3) := by decide +kernel
theorem dX10_init_253 : decode cX10_init 253 = .ok (.aload_n 0, 1) := by decide +kernel
theorem dX10_init_254 : decode cX10_init 254 = .ok (.bipush 62, 2) := by decide +kernel
theorem dX10_init_256 : decode cX10_init 256 = .ok (.newarray .int, 2) := by decide +kernel
theorem dX10_init_258 : decode cX10_init 258 = .ok (.putfield 102, 3) := by decide +kernel
theorem dX10_init_261 : decode cX10_init 261 = .ok (.aload_n 0, 1) := by decide +kernel
theorem dX10_init_262 : decode cX10_init 262 = .ok (.bipush 62, 2) := by decide +kernel
theorem dX10_init_264 : decode cX10_init 264 = .ok (.newarray .long, 2) := by decide +kernel
theorem dX10_init_266 : decode cX10_init 266 = .ok (.putfield 105, 3) := by decide +kernel
theorem dX10_init_269 : decode cX10_init 269 = .ok (.aload_n 0, 1) := by decide +kernel
theorem dX10_init_270 : decode cX10_init 270 = .ok (.sipush 400, 3) := by decide +kernel
theorem dX10_init_273 : decode cX10_init 273 = .ok (.newarray .int, 2) := by decide +kernel
theorem dX10_init_275 : decode cX10_init 275 = .ok (.putfield 108, 3) := by decide +kernel
theorem dX10_init_278 : decode cX10_init 278 = .ok (.aload_n 0, 1) := by decide +kernel
theorem dX10_init_279 : decode cX10_init 279 = .ok (.sipush 400, 3) := by decide +kernel
theorem dX10_init_282 : decode cX10_init 282 = .ok (.newarray .int, 2) := by decide +kernel
theorem dX10_init_284 : decode cX10_init 284 = .ok (.putfield 111, 3) := by decide +kernel
theorem dX10_init_287 : decode cX10_init 287 = .ok (.aload_n 0, 1) := by decide +kernel
theorem dX10_init_288 : decode cX10_init 288 = .ok (.sipush 400, 3) := by decide +kernel
theorem dX10_init_291 : decode cX10_init 291 = .ok (.newarray .int, 2) := by decide +kernel
theorem dX10_init_293 : decode cX10_init 293 = .ok (.putfield 114, 3) := by decide +kernel
theorem dX10_init_296 : decode cX10_init 296 = .ok (.aload_n 0, 1) := by decide +kernel
theorem dX10_init_297 : decode cX10_init 297 = .ok (.sipush 400, 3) := by decide +kernel
theorem dX10_init_300 : decode cX10_init 300 = .ok (.newarray .int, 2) := by decide +kernel
theorem dX10_init_302 : decode cX10_init 302 = .ok (.putfield 117, 3) := by decide +kernel
theorem dX10_init_305 : decode cX10_init 305 = .ok (.aload_n 0, 1) := by decide +kernel
theorem dX10_init_306 : decode cX10_init 306 = .ok (.sipush 400, 3) := by decide +kernel
theorem dX10_init_309 : decode cX10_init 309 = .ok (.newarray .int, 2) := by decide +kernel
theorem dX10_init_311 : decode cX10_init 311 = .ok (.putfield 120, 3) := by decide +kernel
theorem dX10_init_314 : decode cX10_init 314 = .ok (.aload_n 0, 1) := by decide +kernel
theorem dX10_init_315 : decode cX10_init 315 = .ok (.sipush 400, 3) := by decide +kernel
theorem dX10_init_318 : decode cX10_init 318 = .ok (.newarray .int, 2) := by decide +kernel
theorem dX10_init_320 : decode cX10_init 320 = .ok (.putfield 123, 3) := by decide +kernel
theorem dX10_init_323 : decode cX10_init 323 = .ok (.aload_n 0, 1) := by decide +kernel
theorem dX10_init_324 : decode cX10_init 324 = .ok (.iconst 3, 1) := by decide +kernel
theorem dX10_init_325 : decode cX10_init 325 = .ok (.newarray .int, 2) := by decide +kernel
theorem dX10_init_327 : decode cX10_init 327 = .ok (.putfield 126, 3) := by decide +kernel
theorem dX10_init_330 : decode cX10_init 330 = .ok (.aload_n 0, 1) := by decide +kernel
theorem dX10_init_331 : decode cX10_init 331 = .ok (.bipush 22, 2) := by decide +kernel
theorem dX10_init_333 : decode cX10_init 333 = .ok (.newarray .int, 2) := by decide +kernel
theorem dX10_init_335 : decode cX10_init 335 = .ok (.putfield 129, 3) := by decide +kernel
theorem dX10_init_338 : decode cX10_init 338 = .ok (.aload_n 0, 1) := by decide +kernel
theorem dX10_init_339 : decode cX10_init 339 = .ok (.bipush 66, 2) := by decide +kernel
theorem dX10_init_341 : decode cX10_init 341 = .ok (.newarray .int, 2) := by decide +kernel
theorem dX10_init_343 : decode cX10_init 343 = .ok (.putfield 132, 3) := by decide +kernel
theorem dX10_init_346 : decode cX10_init 346 = .ok (.aload_n 0, 1) := by decide +kernel
theorem dX10_init_347 : decode cX10_init 347 = .ok (.bipush 66, 2) := by decide +kernel
theorem dX10_init_349 : decode cX10_init 349 = .ok (.newarray .long, 2) := by decide +kernel
theorem dX10_init_351 : decode cX10_init 351 = .ok (.putfield 135, 3) := by decide +kernel
theorem dX10_init_354 : decode cX10_init 354 = .ok (.aload_n 0, 1) := by decide +kernel
theorem dX10_init_355 : decode cX10_init 355 = .ok (.sipush 900, 3) := by decide +kernel
theorem dX10_init_358 : decode cX10_init 358 = .ok (.newarray .int, 2) := by decide +kernel
theorem dX10_init_360 : decode cX10_init 360 = .ok (.putfield 138, 3) := by decide +kernel
theorem dX10_init_363 : decode cX10_init 363 = .ok (.aload_n 0, 1) := by decide +kernel
theorem dX10_init_364 : decode cX10_init 364 = .ok (.sipush 900, 3) := by decide +kernel
theorem dX10_init_367 : decode cX10_init 367 = .ok (.newarray .int, 2) := by decide +kernel
theorem dX10_init_369 : decode cX10_init 369 = .ok (.putfield 141, 3) := by decide +kernel
theorem dX10_init_372 : decode cX10_init 372 = .ok (.aload_n 0, 1) := by decide +kernel
theorem dX10_init_373 : decode cX10_init 373 = .ok (.sipush 900, 3) := by decide +kernel
theorem dX10_init_376 : decode cX10_init 376 = .ok (.newarray .int, 2) := by decide +kernel
theorem dX10_init_378 : decode cX10_init 378 = .ok (.putfield 144, 3) := by decide +kernel
theorem dX10_init_381 : decode cX10_init 381 = .ok (.aload_n 0, 1) := by decide +kernel
theorem dX10_init_382 : decode cX10_init 382 = .ok (.sipush 900, 3) := by decide +kernel
theorem dX10_init_385 : decode cX10_init 385 = .ok (.newarray .long, 2) := by decide +kernel
theorem dX10_init_387 : decode cX10_init 387 = .ok (.putfield 147, 3) := by decide +kernel
theorem dX10_init_390 : decode cX10_init 390 = .ok (.aload_n 0, 1) := by decide +kernel
theorem dX10_init_391 : decode cX10_init 391 = .ok (.bipush 64, 2) := by decide +kernel
theorem dX10_init_393 : decode cX10_init 393 = .ok (.newarray .boolean, 2) := by decide +kernel
theorem dX10_init_395 : decode cX10_init 395 = .ok (.putfield 150, 3) := by decide +kernel
theorem dX10_init_398 : decode cX10_init 398 = .ok (.return_, 1) := by decide +kernel
theorem dX10_thrown_0 : decode cX10_thrown 0 = .ok (.aload_n 0, 1) := by decide +kernel
theorem dX10_thrown_1 : decode cX10_thrown 1 = .ok (.getfield 154, 3) := by decide +kernel
theorem dX10_thrown_4 : decode cX10_thrown 4 = .ok (.ireturn, 1) := by decide +kernel
theorem dX10_in_0 : decode cX10_in 0 = .ok (.iload_n 0, 1) := by decide +kernel
theorem dX10_in_1 : decode cX10_in 1 = .ok (.iload_n 1, 1) := by decide +kernel
theorem dX10_in_2 : decode cX10_in 2 = .ok (.if_icmp .lt 12, 3) := by decide +kernel
theorem dX10_in_5 : decode cX10_in 5 = .ok (.iload_n 0, 1) := by decide +kernel
theorem dX10_in_6 : decode cX10_in 6 = .ok (.iload_n 2, 1) := by decide +kernel
theorem dX10_in_7 : decode cX10_in 7 = .ok (.if_icmp .gt 7, 3) := by decide +kernel
theorem dX10_in_10 : decode cX10_in 10 = .ok (.iconst 1, 1) := by decide +kernel
theorem dX10_in_11 : decode cX10_in 11 = .ok (.goto 4, 3) := by decide +kernel
theorem dX10_in_14 : decode cX10_in 14 = .ok (.iconst 0, 1) := by decide +kernel
theorem dX10_in_15 : decode cX10_in 15 = .ok (.ireturn, 1) := by decide +kernel
theorem dX10_signs_0 : decode cX10_signs 0 = .ok (.aload_n 0, 1) := by decide +kernel
theorem dX10_signs_1 : decode cX10_signs 1 = .ok (.iconst 0, 1) := by decide +kernel
theorem dX10_signs_2 : decode cX10_signs 2 = .ok (.putfield 154, 3) := by decide +kernel
theorem dX10_signs_5 : decode cX10_signs 5 = .ok (.iconst 0, 1) := by decide +kernel
theorem dX10_signs_6 : decode cX10_signs 6 = .ok (.istore_n 3, 1) := by decide +kernel
theorem dX10_signs_7 : decode cX10_signs 7 = .ok (.iconst 1, 1) := by decide +kernel
theorem dX10_signs_8 : decode cX10_signs 8 = .ok (.istore 4, 2) := by decide +kernel
theorem dX10_signs_10 : decode cX10_signs 10 = .ok (.bipush 56, 2) := by decide +kernel
theorem dX10_signs_12 : decode cX10_signs 12 = .ok (.istore 5, 2) := by decide +kernel
theorem dX10_signs_14 : decode cX10_signs 14 = .ok (.iload 5, 2) := by decide +kernel
theorem dX10_signs_16 : decode cX10_signs 16 = .ok (.ifCond .lt 62, 3) := by decide +kernel
theorem dX10_signs_19 : decode cX10_signs 19 = .ok (.lload_n 1, 1) := by decide +kernel
theorem dX10_signs_20 : decode cX10_signs 20 = .ok (.iload 5, 2) := by decide +kernel
theorem dX10_signs_22 : decode cX10_signs 22 = .ok (.lshr, 1) := by decide +kernel
theorem dX10_signs_23 : decode cX10_signs 23 = .ok (.ldc2_w 158, 3) := by decide +kernel
theorem dX10_signs_26 : decode cX10_signs 26 = .ok (.land, 1) := by decide +kernel
theorem dX10_signs_27 : decode cX10_signs 27 = .ok (.l2i, 1) := by decide +kernel
theorem dX10_signs_28 : decode cX10_signs 28 = .ok (.istore 6, 2) := by decide +kernel
theorem dX10_signs_30 : decode cX10_signs 30 = .ok (.iload_n 3, 1) := by decide +kernel
theorem dX10_signs_31 : decode cX10_signs 31 = .ok (.iload 6, 2) := by decide +kernel
theorem dX10_signs_33 : decode cX10_signs 33 = .ok (.ifCond .ne 7, 3) := by decide +kernel
theorem dX10_signs_36 : decode cX10_signs 36 = .ok (.iconst 0, 1) := by decide +kernel
theorem dX10_signs_37 : decode cX10_signs 37 = .ok (.goto 4, 3) := by decide +kernel
theorem dX10_signs_40 : decode cX10_signs 40 = .ok (.iconst 1, 1) := by decide +kernel
theorem dX10_signs_41 : decode cX10_signs 41 = .ok (.iadd, 1) := by decide +kernel
theorem dX10_signs_42 : decode cX10_signs 42 = .ok (.istore_n 3, 1) := by decide +kernel
theorem dX10_signs_43 : decode cX10_signs 43 = .ok (.iload 4, 2) := by decide +kernel
theorem dX10_signs_45 : decode cX10_signs 45 = .ok (.ifCond .eq 24, 3) := by decide +kernel
theorem dX10_signs_48 : decode cX10_signs 48 = .ok (.iload 6, 2) := by decide +kernel
theorem dX10_signs_50 : decode cX10_signs 50 = .ok (.ifCond .eq 15, 3) := by decide +kernel
theorem dX10_signs_53 : decode cX10_signs 53 = .ok (.iload 6, 2) := by decide +kernel
theorem dX10_signs_55 : decode cX10_signs 55 = .ok (.bipush 32, 2) := by decide +kernel
theorem dX10_signs_57 : decode cX10_signs 57 = .ok (.bipush 126, 2) := by decide +kernel
theorem dX10_signs_59 : decode cX10_signs 59 = .ok (.invokestatic 160, 3) := by decide +kernel
theorem dX10_signs_62 : decode cX10_signs 62 = .ok (.ifCond .eq 7, 3) := by decide +kernel
theorem dX10_signs_65 : decode cX10_signs 65 = .ok (.iconst 1, 1) := by decide +kernel
theorem dX10_signs_66 : decode cX10_signs 66 = .ok (.goto 4, 3) := by decide +kernel
theorem dX10_signs_69 : decode cX10_signs 69 = .ok (.iconst 0, 1) := by decide +kernel
theorem dX10_signs_70 : decode cX10_signs 70 = .ok (.istore 4, 2) := by decide +kernel
theorem dX10_signs_72 : decode cX10_signs 72 = .ok (.iinc 5 (-8), 3) := by decide +kernel
theorem dX10_signs_75 : decode cX10_signs 75 = .ok (.goto (-61), 3) := by decide +kernel
theorem dX10_signs_78 : decode cX10_signs 78 = .ok (.iload 4, 2) := by decide +kernel
theorem dX10_signs_80 : decode cX10_signs 80 = .ok (.ifCond .ne 6, 3) := by decide +kernel
theorem dX10_signs_83 : decode cX10_signs 83 = .ok (.bipush (-2), 2) := by decide +kernel
theorem dX10_signs_85 : decode cX10_signs 85 = .ok (.ireturn, 1) := by decide +kernel
theorem dX10_signs_86 : decode cX10_signs 86 = .ok (.aload_n 0, 1) := by decide +kernel
theorem dX10_signs_87 : decode cX10_signs 87 = .ok (.getfield 164, 3) := by decide +kernel
theorem dX10_signs_90 : decode cX10_signs 90 = .ok (.iload_n 3, 1) := by decide +kernel
theorem dX10_signs_91 : decode cX10_signs 91 = .ok (.iadd, 1) := by decide +kernel
theorem dX10_signs_92 : decode cX10_signs 92 = .ok (.bipush 120, 2) := by decide +kernel
theorem dX10_signs_94 : decode cX10_signs 94 = .ok (.if_icmp .le 6, 3) := by decide +kernel
theorem dX10_signs_97 : decode cX10_signs 97 = .ok (.bipush (-4), 2) := by decide +kernel
theorem dX10_signs_99 : decode cX10_signs 99 = .ok (.ireturn, 1) := by decide +kernel
theorem dX10_signs_100 : decode cX10_signs 100 = .ok (.bipush 56, 2) := by decide +kernel
theorem dX10_signs_102 : decode cX10_signs 102 = .ok (.istore 5, 2) := by decide +kernel
theorem dX10_signs_104 : decode cX10_signs 104 = .ok (.iload 5, 2) := by decide +kernel
theorem dX10_signs_106 : decode cX10_signs 106 = .ok (.ifCond .lt 46, 3) := by decide +kernel
theorem dX10_signs_109 : decode cX10_signs 109 = .ok (.lload_n 1, 1) := by decide +kernel
theorem dX10_signs_110 : decode cX10_signs 110 = .ok (.iload 5, 2) := by decide +kernel
theorem dX10_signs_112 : decode cX10_signs 112 = .ok (.lshr, 1) := by decide +kernel
theorem dX10_signs_113 : decode cX10_signs 113 = .ok (.ldc2_w 158, 3) := by decide +kernel
theorem dX10_signs_116 : decode cX10_signs 116 = .ok (.land, 1) := by decide +kernel
theorem dX10_signs_117 : decode cX10_signs 117 = .ok (.l2i, 1) := by decide +kernel
theorem dX10_signs_118 : decode cX10_signs 118 = .ok (.istore 6, 2) := by decide +kernel
theorem dX10_signs_120 : decode cX10_signs 120 = .ok (.iload 6, 2) := by decide +kernel
theorem dX10_signs_122 : decode cX10_signs 122 = .ok (.ifCond .eq 24, 3) := by decide +kernel
theorem dX10_signs_125 : decode cX10_signs 125 = .ok (.aload_n 0, 1) := by decide +kernel
theorem dX10_signs_126 : decode cX10_signs 126 = .ok (.getfield 7, 3) := by decide +kernel
theorem dX10_signs_129 : decode cX10_signs 129 = .ok (.aload_n 0, 1) := by decide +kernel
theorem dX10_signs_130 : decode cX10_signs 130 = .ok (.getfield 164, 3) := by decide +kernel
theorem dX10_signs_133 : decode cX10_signs 133 = .ok (.iload 6, 2) := by decide +kernel
theorem dX10_signs_135 : decode cX10_signs 135 = .ok (.iastore, 1) := by decide +kernel
theorem dX10_signs_136 : decode cX10_signs 136 = .ok (.aload_n 0, 1) := by decide +kernel
theorem dX10_signs_137 : decode cX10_signs 137 = .ok (.dup, 1) := by decide +kernel
theorem dX10_signs_138 : decode cX10_signs 138 = .ok (.getfield 164, 3) := by decide +kernel
theorem dX10_signs_141 : decode cX10_signs 141 = .ok (.iconst 1, 1) := by decide +kernel
theorem dX10_signs_142 : decode cX10_signs 142 = .ok (.iadd, 1) := by decide +kernel
theorem dX10_signs_143 : decode cX10_signs 143 = .ok (.putfield 164, 3) := by decide +kernel
theorem dX10_signs_146 : decode cX10_signs 146 = .ok (.iinc 5 (-8), 3) := by decide +kernel
theorem dX10_signs_149 : decode cX10_signs 149 = .ok (.goto (-45), 3) := by decide +kernel
theorem dX10_signs_152 : decode cX10_signs 152 = .ok (.aload_n 0, 1) := by decide +kernel
theorem dX10_signs_153 : decode cX10_signs 153 = .ok (.getfield 164, 3) := by decide +kernel
theorem dX10_signs_156 : decode cX10_signs 156 = .ok (.ireturn, 1) := by decide +kernel
theorem dX10_isLetter_0 : decode cX10_isLetter 0 = .ok (.iload_n 1, 1) := by decide +kernel
theorem dX10_isLetter_1 : decode cX10_isLetter 1 = .ok (.aload_n 0, 1) := by decide +kernel
theorem dX10_isLetter_2 : decode cX10_isLetter 2 = .ok (.getfield 164, 3) := by decide +kernel
theorem dX10_isLetter_5 : decode cX10_isLetter 5 = .ok (.if_icmp .ge 23, 3) := by decide +kernel
theorem dX10_isLetter_8 : decode cX10_isLetter 8 = .ok (.aload_n 0, 1) := by decide +kernel
theorem dX10_isLetter_9 : decode cX10_isLetter 9 = .ok (.getfield 7, 3) := by decide +kernel
theorem dX10_isLetter_12 : decode cX10_isLetter 12 = .ok (.iload_n 1, 1) := by decide +kernel
theorem dX10_isLetter_13 : decode cX10_isLetter 13 = .ok (.iaload, 1) := by decide +kernel
theorem dX10_isLetter_14 : decode cX10_isLetter 14 = .ok (.bipush 97, 2) := by decide +kernel
theorem dX10_isLetter_16 : decode cX10_isLetter 16 = .ok (.bipush 122, 2) := by decide +kernel
theorem dX10_isLetter_18 : decode cX10_isLetter 18 = .ok (.invokestatic 160, 3) := by decide +kernel
theorem dX10_isLetter_21 : decode cX10_isLetter 21 = .ok (.ifCond .eq 7, 3) := by decide +kernel
theorem dX10_isLetter_24 : decode cX10_isLetter 24 = .ok (.iconst 1, 1) := by decide +kernel
theorem dX10_isLetter_25 : decode cX10_isLetter 25 = .ok (.goto 4, 3) := by decide +kernel
theorem dX10_isLetter_28 : decode cX10_isLetter 28 = .ok (.iconst 0, 1) := by decide +kernel
theorem dX10_isLetter_29 : decode cX10_isLetter 29 = .ok (.ireturn, 1) := by decide +kernel
theorem dX10_isDigit_0 : decode cX10_isDigit 0 = .ok (.iload_n 1, 1) := by decide +kernel
theorem dX10_isDigit_1 : decode cX10_isDigit 1 = .ok (.aload_n 0, 1) := by decide +kernel
theorem dX10_isDigit_2 : decode cX10_isDigit 2 = .ok (.getfield 164, 3) := by decide +kernel
theorem dX10_isDigit_5 : decode cX10_isDigit 5 = .ok (.if_icmp .ge 23, 3) := by decide +kernel
theorem dX10_isDigit_8 : decode cX10_isDigit 8 = .ok (.aload_n 0, 1) := by decide +kernel
theorem dX10_isDigit_9 : decode cX10_isDigit 9 = .ok (.getfield 7, 3) := by decide +kernel
theorem dX10_isDigit_12 : decode cX10_isDigit 12 = .ok (.iload_n 1, 1) := by decide +kernel
theorem dX10_isDigit_13 : decode cX10_isDigit 13 = .ok (.iaload, 1) := by decide +kernel
theorem dX10_isDigit_14 : decode cX10_isDigit 14 = .ok (.bipush 48, 2) := by decide +kernel
theorem dX10_isDigit_16 : decode cX10_isDigit 16 = .ok (.bipush 57, 2) := by decide +kernel
theorem dX10_isDigit_18 : decode cX10_isDigit 18 = .ok (.invokestatic 160, 3) := by decide +kernel
theorem dX10_isDigit_21 : decode cX10_isDigit 21 = .ok (.ifCond .eq 7, 3) := by decide +kernel
theorem dX10_isDigit_24 : decode cX10_isDigit 24 = .ok (.iconst 1, 1) := by decide +kernel
theorem dX10_isDigit_25 : decode cX10_isDigit 25 = .ok (.goto 4, 3) := by decide +kernel
theorem dX10_isDigit_28 : decode cX10_isDigit 28 = .ok (.iconst 0, 1) := by decide +kernel
theorem dX10_isDigit_29 : decode cX10_isDigit 29 = .ok (.ireturn, 1) := by decide +kernel
theorem dX10_isSign_0 : decode cX10_isSign 0 = .ok (.iload_n 0, 1) := by decide +kernel
theorem dX10_isSign_1 : decode cX10_isSign 1 = .ok (.bipush 43, 2) := by decide +kernel
theorem dX10_isSign_3 : decode cX10_isSign 3 = .ok (.if_icmp .eq 75, 3) := by decide +kernel
theorem dX10_isSign_6 : decode cX10_isSign 6 = .ok (.iload_n 0, 1) := by decide +kernel
theorem dX10_isSign_7 : decode cX10_isSign 7 = .ok (.bipush 45, 2) := by decide +kernel
theorem dX10_isSign_9 : decode cX10_isSign 9 = .ok (.if_icmp .eq 69, 3) := by decide +kernel
theorem dX10_isSign_12 : decode cX10_isSign 12 = .ok (.iload_n 0, 1) := by decide +kernel
theorem dX10_isSign_13 : decode cX10_isSign 13 = .ok (.bipush 42, 2) := by decide +kernel
theorem dX10_isSign_15 : decode cX10_isSign 15 = .ok (.if_icmp .eq 63, 3) := by decide +kernel
theorem dX10_isSign_18 : decode cX10_isSign 18 = .ok (.iload_n 0, 1) := by decide +kernel
theorem dX10_isSign_19 : decode cX10_isSign 19 = .ok (.bipush 47, 2) := by decide +kernel
theorem dX10_isSign_21 : decode cX10_isSign 21 = .ok (.if_icmp .eq 57, 3) := by decide +kernel
theorem dX10_isSign_24 : decode cX10_isSign 24 = .ok (.iload_n 0, 1) := by decide +kernel
theorem dX10_isSign_25 : decode cX10_isSign 25 = .ok (.bipush 37, 2) := by decide +kernel
theorem dX10_isSign_27 : decode cX10_isSign 27 = .ok (.if_icmp .eq 51, 3) := by decide +kernel
theorem dX10_isSign_30 : decode cX10_isSign 30 = .ok (.iload_n 0, 1) := by decide +kernel
theorem dX10_isSign_31 : decode cX10_isSign 31 = .ok (.bipush 60, 2) := by decide +kernel
theorem dX10_isSign_33 : decode cX10_isSign 33 = .ok (.if_icmp .eq 45, 3) := by decide +kernel
theorem dX10_isSign_36 : decode cX10_isSign 36 = .ok (.iload_n 0, 1) := by decide +kernel
theorem dX10_isSign_37 : decode cX10_isSign 37 = .ok (.bipush 61, 2) := by decide +kernel
theorem dX10_isSign_39 : decode cX10_isSign 39 = .ok (.if_icmp .eq 39, 3) := by decide +kernel
theorem dX10_isSign_42 : decode cX10_isSign 42 = .ok (.iload_n 0, 1) := by decide +kernel
theorem dX10_isSign_43 : decode cX10_isSign 43 = .ok (.bipush 63, 2) := by decide +kernel
theorem dX10_isSign_45 : decode cX10_isSign 45 = .ok (.if_icmp .eq 33, 3) := by decide +kernel
theorem dX10_isSign_48 : decode cX10_isSign 48 = .ok (.iload_n 0, 1) := by decide +kernel
theorem dX10_isSign_49 : decode cX10_isSign 49 = .ok (.bipush 58, 2) := by decide +kernel
theorem dX10_isSign_51 : decode cX10_isSign 51 = .ok (.if_icmp .eq 27, 3) := by decide +kernel
theorem dX10_isSign_54 : decode cX10_isSign 54 = .ok (.iload_n 0, 1) := by decide +kernel
theorem dX10_isSign_55 : decode cX10_isSign 55 = .ok (.bipush 40, 2) := by decide +kernel
theorem dX10_isSign_57 : decode cX10_isSign 57 = .ok (.if_icmp .eq 21, 3) := by decide +kernel
theorem dX10_isSign_60 : decode cX10_isSign 60 = .ok (.iload_n 0, 1) := by decide +kernel
theorem dX10_isSign_61 : decode cX10_isSign 61 = .ok (.bipush 41, 2) := by decide +kernel
theorem dX10_isSign_63 : decode cX10_isSign 63 = .ok (.if_icmp .eq 15, 3) := by decide +kernel
theorem dX10_isSign_66 : decode cX10_isSign 66 = .ok (.iload_n 0, 1) := by decide +kernel
theorem dX10_isSign_67 : decode cX10_isSign 67 = .ok (.bipush 44, 2) := by decide +kernel
theorem dX10_isSign_69 : decode cX10_isSign 69 = .ok (.if_icmp .eq 9, 3) := by decide +kernel
theorem dX10_isSign_72 : decode cX10_isSign 72 = .ok (.iload_n 0, 1) := by decide +kernel
theorem dX10_isSign_73 : decode cX10_isSign 73 = .ok (.bipush 46, 2) := by decide +kernel
theorem dX10_isSign_75 : decode cX10_isSign 75 = .ok (.if_icmp .ne 7, 3) := by decide +kernel
theorem dX10_isSign_78 : decode cX10_isSign 78 = .ok (.iconst 1, 1) := by decide +kernel
theorem dX10_isSign_79 : decode cX10_isSign 79 = .ok (.goto 4, 3) := by decide +kernel
theorem dX10_isSign_82 : decode cX10_isSign 82 = .ok (.iconst 0, 1) := by decide +kernel
theorem dX10_isSign_83 : decode cX10_isSign 83 = .ok (.ireturn, 1) := by decide +kernel
theorem dX10_cut_0 : decode cX10_cut 0 = .ok (.aload_n 0, 1) := by decide +kernel
theorem dX10_cut_1 : decode cX10_cut 1 = .ok (.iconst 0, 1) := by decide +kernel
theorem dX10_cut_2 : decode cX10_cut 2 = .ok (.putfield 167, 3) := by decide +kernel
theorem dX10_cut_5 : decode cX10_cut 5 = .ok (.iconst 0, 1) := by decide +kernel
theorem dX10_cut_6 : decode cX10_cut 6 = .ok (.istore_n 1, 1) := by decide +kernel
theorem dX10_cut_7 : decode cX10_cut 7 = .ok (.iconst 1, 1) := by decide +kernel
theorem dX10_cut_8 : decode cX10_cut 8 = .ok (.istore_n 2, 1) := by decide +kernel
theorem dX10_cut_9 : decode cX10_cut 9 = .ok (.iload_n 2, 1) := by decide +kernel
theorem dX10_cut_10 : decode cX10_cut 10 = .ok (.ifCond .eq 439, 3) := by decide +kernel
theorem dX10_cut_13 : decode cX10_cut 13 = .ok (.iload_n 1, 1) := by decide +kernel
theorem dX10_cut_14 : decode cX10_cut 14 = .ok (.aload_n 0, 1) := by decide +kernel
theorem dX10_cut_15 : decode cX10_cut 15 = .ok (.getfield 164, 3) := by decide +kernel
theorem dX10_cut_18 : decode cX10_cut 18 = .ok (.if_icmp .ge 20, 3) := by decide +kernel
theorem dX10_cut_21 : decode cX10_cut 21 = .ok (.aload_n 0, 1) := by decide +kernel
theorem dX10_cut_22 : decode cX10_cut 22 = .ok (.getfield 7, 3) := by decide +kernel
theorem dX10_cut_25 : decode cX10_cut 25 = .ok (.iload_n 1, 1) := by decide +kernel
theorem dX10_cut_26 : decode cX10_cut 26 = .ok (.iaload, 1) := by decide +kernel
theorem dX10_cut_27 : decode cX10_cut 27 = .ok (.bipush 32, 2) := by decide +kernel
theorem dX10_cut_29 : decode cX10_cut 29 = .ok (.if_icmp .ne 9, 3) := by decide +kernel
theorem dX10_cut_32 : decode cX10_cut 32 = .ok (.iinc 1 1, 3) := by decide +kernel
theorem dX10_cut_35 : decode cX10_cut 35 = .ok (.goto (-22), 3) := by decide +kernel
theorem dX10_cut_38 : decode cX10_cut 38 = .ok (.aload_n 0, 1) := by decide +kernel
theorem dX10_cut_39 : decode cX10_cut 39 = .ok (.getfield 102, 3) := by decide +kernel
theorem dX10_cut_42 : decode cX10_cut 42 = .ok (.aload_n 0, 1) := by decide +kernel
theorem dX10_cut_43 : decode cX10_cut 43 = .ok (.getfield 167, 3) := by decide +kernel
theorem dX10_cut_46 : decode cX10_cut 46 = .ok (.iload_n 1, 1) := by decide +kernel
theorem dX10_cut_47 : decode cX10_cut 47 = .ok (.iastore, 1) := by decide +kernel
theorem dX10_cut_48 : decode cX10_cut 48 = .ok (.aload_n 0, 1) := by decide +kernel
theorem dX10_cut_49 : decode cX10_cut 49 = .ok (.getfield 105, 3) := by decide +kernel
theorem dX10_cut_52 : decode cX10_cut 52 = .ok (.aload_n 0, 1) := by decide +kernel
theorem dX10_cut_53 : decode cX10_cut 53 = .ok (.getfield 167, 3) := by decide +kernel
theorem dX10_cut_56 : decode cX10_cut 56 = .ok (.lconst 0, 1) := by decide +kernel
theorem dX10_cut_57 : decode cX10_cut 57 = .ok (.lastore, 1) := by decide +kernel
theorem dX10_cut_58 : decode cX10_cut 58 = .ok (.iload_n 1, 1) := by decide +kernel
theorem dX10_cut_59 : decode cX10_cut 59 = .ok (.istore_n 3, 1) := by decide +kernel
theorem dX10_cut_60 : decode cX10_cut 60 = .ok (.iload_n 1, 1) := by decide +kernel
theorem dX10_cut_61 : decode cX10_cut 61 = .ok (.aload_n 0, 1) := by decide +kernel
theorem dX10_cut_62 : decode cX10_cut 62 = .ok (.getfield 164, 3) := by decide +kernel
theorem dX10_cut_65 : decode cX10_cut 65 = .ok (.if_icmp .ne 16, 3) := by decide +kernel
theorem dX10_cut_68 : decode cX10_cut 68 = .ok (.aload_n 0, 1) := by decide +kernel
theorem dX10_cut_69 : decode cX10_cut 69 = .ok (.getfield 99, 3) := by decide +kernel
theorem dX10_cut_72 : decode cX10_cut 72 = .ok (.aload_n 0, 1) := by decide +kernel
theorem dX10_cut_73 : decode cX10_cut 73 = .ok (.getfield 167, 3) := by decide +kernel
theorem dX10_cut_76 : decode cX10_cut 76 = .ok (.iconst 0, 1) := by decide +kernel
theorem dX10_cut_77 : decode cX10_cut 77 = .ok (.iastore, 1) := by decide +kernel
theorem dX10_cut_78 : decode cX10_cut 78 = .ok (.goto 326, 3) := by decide +kernel
theorem dX10_cut_81 : decode cX10_cut 81 = .ok (.aload_n 0, 1) := by decide +kernel
theorem dX10_cut_82 : decode cX10_cut 82 = .ok (.getfield 167, 3) := by decide +kernel
theorem dX10_cut_85 : decode cX10_cut 85 = .ok (.bipush 60, 2) := by decide +kernel
theorem dX10_cut_87 : decode cX10_cut 87 = .ok (.if_icmp .ne 17, 3) := by decide +kernel
theorem dX10_cut_90 : decode cX10_cut 90 = .ok (.aload_n 0, 1) := by decide +kernel
theorem dX10_cut_91 : decode cX10_cut 91 = .ok (.getfield 99, 3) := by decide +kernel
theorem dX10_cut_94 : decode cX10_cut 94 = .ok (.aload_n 0, 1) := by decide +kernel
theorem dX10_cut_95 : decode cX10_cut 95 = .ok (.getfield 167, 3) := by decide +kernel
theorem dX10_cut_98 : decode cX10_cut 98 = .ok (.bipush 7, 2) := by decide +kernel
theorem dX10_cut_100 : decode cX10_cut 100 = .ok (.iastore, 1) := by decide +kernel
theorem dX10_cut_101 : decode cX10_cut 101 = .ok (.goto 303, 3) := by decide +kernel
theorem dX10_cut_104 : decode cX10_cut 104 = .ok (.aload_n 0, 1) := by decide +kernel
theorem dX10_cut_105 : decode cX10_cut 105 = .ok (.iload_n 1, 1) := by decide +kernel
theorem dX10_cut_106 : decode cX10_cut 106 = .ok (.invokevirtual 170, 3) := by decide +kernel
theorem dX10_cut_109 : decode cX10_cut 109 = .ok (.ifCond .eq 95, 3) := by decide +kernel
theorem dX10_cut_112 : decode cX10_cut 112 = .ok (.aload_n 0, 1) := by decide +kernel
theorem dX10_cut_113 : decode cX10_cut 113 = .ok (.iload_n 1, 1) := by decide +kernel
theorem dX10_cut_114 : decode cX10_cut 114 = .ok (.invokevirtual 170, 3) := by decide +kernel
theorem dX10_cut_117 : decode cX10_cut 117 = .ok (.ifCond .eq 50, 3) := by decide +kernel
theorem dX10_cut_120 : decode cX10_cut 120 = .ok (.aload_n 0, 1) := by decide +kernel
theorem dX10_cut_121 : decode cX10_cut 121 = .ok (.getfield 105, 3) := by decide +kernel
theorem dX10_cut_124 : decode cX10_cut 124 = .ok (.aload_n 0, 1) := by decide +kernel
theorem dX10_cut_125 : decode cX10_cut 125 = .ok (.getfield 167, 3) := by decide +kernel
theorem dX10_cut_128 : decode cX10_cut 128 = .ok (.iload_n 1, 1) := by decide +kernel
theorem dX10_cut_129 : decode cX10_cut 129 = .ok (.iload_n 3, 1) := by decide +kernel
theorem dX10_cut_130 : decode cX10_cut 130 = .ok (.isub, 1) := by decide +kernel
theorem dX10_cut_131 : decode cX10_cut 131 = .ok (.bipush 8, 2) := by decide +kernel
theorem dX10_cut_133 : decode cX10_cut 133 = .ok (.if_icmp .ge 26, 3) := by decide +kernel
theorem dX10_cut_136 : decode cX10_cut 136 = .ok (.aload_n 0, 1) := by decide +kernel
theorem dX10_cut_137 : decode cX10_cut 137 = .ok (.getfield 105, 3) := by decide +kernel
theorem dX10_cut_140 : decode cX10_cut 140 = .ok (.aload_n 0, 1) := by decide +kernel
theorem dX10_cut_141 : decode cX10_cut 141 = .ok (.getfield 167, 3) := by decide +kernel
theorem dX10_cut_144 : decode cX10_cut 144 = .ok (.laload, 1) := by decide +kernel
theorem dX10_cut_145 : decode cX10_cut 145 = .ok (.bipush 8, 2) := by decide +kernel
theorem dX10_cut_147 : decode cX10_cut 147 = .ok (.lshl, 1) := by decide +kernel
theorem dX10_cut_148 : decode cX10_cut 148 = .ok (.aload_n 0, 1) := by decide +kernel
theorem dX10_cut_149 : decode cX10_cut 149 = .ok (.getfield 7, 3) := by decide +kernel
theorem dX10_cut_152 : decode cX10_cut 152 = .ok (.iload_n 1, 1) := by decide +kernel
theorem dX10_cut_153 : decode cX10_cut 153 = .ok (.iaload, 1) := by decide +kernel
theorem dX10_cut_154 : decode cX10_cut 154 = .ok (.i2l, 1) := by decide +kernel
theorem dX10_cut_155 : decode cX10_cut 155 = .ok (.lor, 1) := by decide +kernel
theorem dX10_cut_156 : decode cX10_cut 156 = .ok (.goto 4, 3) := by decide +kernel
theorem dX10_cut_159 : decode cX10_cut 159 = .ok (.lconst 0, 1) := by decide +kernel
theorem dX10_cut_160 : decode cX10_cut 160 = .ok (.lastore, 1) := by decide +kernel
theorem dX10_cut_161 : decode cX10_cut 161 = .ok (.iinc 1 1, 3) := by decide +kernel
theorem dX10_cut_164 : decode cX10_cut 164 = .ok (.goto (-52), 3) := by decide +kernel
theorem dX10_cut_167 : decode cX10_cut 167 = .ok (.aload_n 0, 1) := by decide +kernel
theorem dX10_cut_168 : decode cX10_cut 168 = .ok (.getfield 99, 3) := by decide +kernel
theorem dX10_cut_171 : decode cX10_cut 171 = .ok (.aload_n 0, 1) := by decide +kernel
theorem dX10_cut_172 : decode cX10_cut 172 = .ok (.getfield 167, 3) := by decide +kernel
theorem dX10_cut_175 : decode cX10_cut 175 = .ok (.iload_n 1, 1) := by decide +kernel
theorem dX10_cut_176 : decode cX10_cut 176 = .ok (.iload_n 3, 1) := by decide +kernel
theorem dX10_cut_177 : decode cX10_cut 177 = .ok (.isub, 1) := by decide +kernel
theorem dX10_cut_178 : decode cX10_cut 178 = .ok (.bipush 8, 2) := by decide +kernel
theorem dX10_cut_180 : decode cX10_cut 180 = .ok (.if_icmp .le 8, 3) := by decide +kernel
theorem dX10_cut_183 : decode cX10_cut 183 = .ok (.bipush 7, 2) := by decide +kernel
theorem dX10_cut_185 : decode cX10_cut 185 = .ok (.goto 15, 3) := by decide +kernel
theorem dX10_cut_188 : decode cX10_cut 188 = .ok (.aload_n 0, 1) := by decide +kernel
theorem dX10_cut_189 : decode cX10_cut 189 = .ok (.getfield 105, 3) := by decide +kernel
theorem dX10_cut_192 : decode cX10_cut 192 = .ok (.aload_n 0, 1) := by decide +kernel
theorem dX10_cut_193 : decode cX10_cut 193 = .ok (.getfield 167, 3) := by decide +kernel
theorem dX10_cut_196 : decode cX10_cut 196 = .ok (.laload, 1) := by decide +kernel
theorem dX10_cut_197 : decode cX10_cut 197 = .ok (.invokestatic 174, 3) := by decide +kernel
theorem dX10_cut_200 : decode cX10_cut 200 = .ok (.iastore, 1) := by decide +kernel
theorem dX10_cut_201 : decode cX10_cut 201 = .ok (.goto 203, 3) := by decide +kernel
theorem dX10_cut_204 : decode cX10_cut 204 = .ok (.aload_n 0, 1) := by decide +kernel
theorem dX10_cut_205 : decode cX10_cut 205 = .ok (.iload_n 1, 1) := by decide +kernel
theorem dX10_cut_206 : decode cX10_cut 206 = .ok (.invokevirtual 178, 3) := by decide +kernel
theorem dX10_cut_209 : decode cX10_cut 209 = .ok (.ifCond .ne 14, 3) := by decide +kernel
theorem dX10_cut_212 : decode cX10_cut 212 = .ok (.aload_n 0, 1) := by decide +kernel
theorem dX10_cut_213 : decode cX10_cut 213 = .ok (.getfield 7, 3) := by decide +kernel
theorem dX10_cut_216 : decode cX10_cut 216 = .ok (.iload_n 1, 1) := by decide +kernel
theorem dX10_cut_217 : decode cX10_cut 217 = .ok (.iaload, 1) := by decide +kernel
theorem dX10_cut_218 : decode cX10_cut 218 = .ok (.bipush 36, 2) := by decide +kernel
theorem dX10_cut_220 : decode cX10_cut 220 = .ok (.if_icmp .ne 149, 3) := by decide +kernel
theorem dX10_cut_223 : decode cX10_cut 223 = .ok (.aload_n 0, 1) := by decide +kernel
theorem dX10_cut_224 : decode cX10_cut 224 = .ok (.getfield 7, 3) := by decide +kernel
theorem dX10_cut_227 : decode cX10_cut 227 = .ok (.iload_n 1, 1) := by decide +kernel
theorem dX10_cut_228 : decode cX10_cut 228 = .ok (.iaload, 1) := by decide +kernel
theorem dX10_cut_229 : decode cX10_cut 229 = .ok (.bipush 36, 2) := by decide +kernel
theorem dX10_cut_231 : decode cX10_cut 231 = .ok (.if_icmp .ne 7, 3) := by decide +kernel
theorem dX10_cut_234 : decode cX10_cut 234 = .ok (.iconst 1, 1) := by decide +kernel
theorem dX10_cut_235 : decode cX10_cut 235 = .ok (.goto 4, 3) := by decide +kernel
theorem dX10_cut_238 : decode cX10_cut 238 = .ok (.iconst 0, 1) := by decide +kernel
theorem dX10_cut_239 : decode cX10_cut 239 = .ok (.istore 4, 2) := by decide +kernel
theorem dX10_cut_241 : decode cX10_cut 241 = .ok (.iload_n 1, 1) := by decide +kernel
theorem dX10_cut_242 : decode cX10_cut 242 = .ok (.iload 4, 2) := by decide +kernel
theorem dX10_cut_244 : decode cX10_cut 244 = .ok (.ifCond .eq 7, 3) := by decide +kernel
theorem dX10_cut_247 : decode cX10_cut 247 = .ok (.iconst 1, 1) := by decide +kernel
theorem dX10_cut_248 : decode cX10_cut 248 = .ok (.goto 4, 3) := by decide +kernel
theorem dX10_cut_251 : decode cX10_cut 251 = .ok (.iconst 0, 1) := by decide +kernel
theorem dX10_cut_252 : decode cX10_cut 252 = .ok (.iadd, 1) := by decide +kernel
theorem dX10_cut_253 : decode cX10_cut 253 = .ok (.istore_n 1, 1) := by decide +kernel
theorem dX10_cut_254 : decode cX10_cut 254 = .ok (.iload_n 1, 1) := by decide +kernel
theorem dX10_cut_255 : decode cX10_cut 255 = .ok (.istore 5, 2) := by decide +kernel
theorem dX10_cut_257 : decode cX10_cut 257 = .ok (.aload_n 0, 1) := by decide +kernel
theorem dX10_cut_258 : decode cX10_cut 258 = .ok (.iload_n 1, 1) := by decide +kernel
theorem dX10_cut_259 : decode cX10_cut 259 = .ok (.invokevirtual 178, 3) := by decide +kernel
theorem dX10_cut_262 : decode cX10_cut 262 = .ok (.ifCond .eq 56, 3) := by decide +kernel
theorem dX10_cut_265 : decode cX10_cut 265 = .ok (.aload_n 0, 1) := by decide +kernel
theorem dX10_cut_266 : decode cX10_cut 266 = .ok (.getfield 105, 3) := by decide +kernel
theorem dX10_cut_269 : decode cX10_cut 269 = .ok (.aload_n 0, 1) := by decide +kernel
theorem dX10_cut_270 : decode cX10_cut 270 = .ok (.getfield 167, 3) := by decide +kernel
theorem dX10_cut_273 : decode cX10_cut 273 = .ok (.iload_n 1, 1) := by decide +kernel
theorem dX10_cut_274 : decode cX10_cut 274 = .ok (.iload 5, 2) := by decide +kernel
theorem dX10_cut_276 : decode cX10_cut 276 = .ok (.isub, 1) := by decide +kernel
theorem dX10_cut_277 : decode cX10_cut 277 = .ok (.bipush 18, 2) := by decide +kernel
theorem dX10_cut_279 : decode cX10_cut 279 = .ok (.if_icmp .ge 31, 3) := by decide +kernel
theorem dX10_cut_282 : decode cX10_cut 282 = .ok (.ldc2_w 181, 3) := by decide +kernel
theorem dX10_cut_285 : decode cX10_cut 285 = .ok (.aload_n 0, 1) := by decide +kernel
theorem dX10_cut_286 : decode cX10_cut 286 = .ok (.getfield 105, 3) := by decide +kernel
theorem dX10_cut_289 : decode cX10_cut 289 = .ok (.aload_n 0, 1) := by decide +kernel
theorem dX10_cut_290 : decode cX10_cut 290 = .ok (.getfield 167, 3) := by decide +kernel
theorem dX10_cut_293 : decode cX10_cut 293 = .ok (.laload, 1) := by decide +kernel
theorem dX10_cut_294 : decode cX10_cut 294 = .ok (.lmul, 1) := by decide +kernel
theorem dX10_cut_295 : decode cX10_cut 295 = .ok (.aload_n 0, 1) := by decide +kernel
theorem dX10_cut_296 : decode cX10_cut 296 = .ok (.getfield 7, 3) := by decide +kernel
theorem dX10_cut_299 : decode cX10_cut 299 = .ok (.iload_n 1, 1) := by decide +kernel
theorem dX10_cut_300 : decode cX10_cut 300 = .ok (.iaload, 1) := by decide +kernel
theorem dX10_cut_301 : decode cX10_cut 301 = .ok (.i2l, 1) := by decide +kernel
theorem dX10_cut_302 : decode cX10_cut 302 = .ok (.ladd, 1) := by decide +kernel
theorem dX10_cut_303 : decode cX10_cut 303 = .ok (.ldc2_w 183, 3) := by decide +kernel
theorem dX10_cut_306 : decode cX10_cut 306 = .ok (.lsub, 1) := by decide +kernel
theorem dX10_cut_307 : decode cX10_cut 307 = .ok (.goto 4, 3) := by decide +kernel
theorem dX10_cut_310 : decode cX10_cut 310 = .ok (.lconst 0, 1) := by decide +kernel
theorem dX10_cut_311 : decode cX10_cut 311 = .ok (.lastore, 1) := by decide +kernel
theorem dX10_cut_312 : decode cX10_cut 312 = .ok (.iinc 1 1, 3) := by decide +kernel
theorem dX10_cut_315 : decode cX10_cut 315 = .ok (.goto (-58), 3) := by decide +kernel
theorem dX10_cut_318 : decode cX10_cut 318 = .ok (.aload_n 0, 1) := by decide +kernel
theorem dX10_cut_319 : decode cX10_cut 319 = .ok (.getfield 99, 3) := by decide +kernel
theorem dX10_cut_322 : decode cX10_cut 322 = .ok (.aload_n 0, 1) := by decide +kernel
theorem dX10_cut_323 : decode cX10_cut 323 = .ok (.getfield 167, 3) := by decide +kernel
theorem dX10_cut_326 : decode cX10_cut 326 = .ok (.iload_n 1, 1) := by decide +kernel
theorem dX10_cut_327 : decode cX10_cut 327 = .ok (.iload 5, 2) := by decide +kernel
theorem dX10_cut_329 : decode cX10_cut 329 = .ok (.if_icmp .eq 21, 3) := by decide +kernel
theorem dX10_cut_332 : decode cX10_cut 332 = .ok (.iload_n 1, 1) := by decide +kernel
theorem dX10_cut_333 : decode cX10_cut 333 = .ok (.iload 5, 2) := by decide +kernel
theorem dX10_cut_335 : decode cX10_cut 335 = .ok (.isub, 1) := by decide +kernel
theorem dX10_cut_336 : decode cX10_cut 336 = .ok (.iload 4, 2) := by decide +kernel
theorem dX10_cut_338 : decode cX10_cut 338 = .ok (.ifCond .eq 7, 3) := by decide +kernel
theorem dX10_cut_341 : decode cX10_cut 341 = .ok (.iconst 3, 1) := by decide +kernel
theorem dX10_cut_342 : decode cX10_cut 342 = .ok (.goto 5, 3) := by decide +kernel
theorem dX10_cut_345 : decode cX10_cut 345 = .ok (.bipush 18, 2) := by decide +kernel
theorem dX10_cut_347 : decode cX10_cut 347 = .ok (.if_icmp .le 8, 3) := by decide +kernel
theorem dX10_cut_350 : decode cX10_cut 350 = .ok (.bipush 7, 2) := by decide +kernel
theorem dX10_cut_352 : decode cX10_cut 352 = .ok (.goto 13, 3) := by decide +kernel
theorem dX10_cut_355 : decode cX10_cut 355 = .ok (.iload 4, 2) := by decide +kernel
theorem dX10_cut_357 : decode cX10_cut 357 = .ok (.ifCond .eq 7, 3) := by decide +kernel
theorem dX10_cut_360 : decode cX10_cut 360 = .ok (.iconst 3, 1) := by decide +kernel
theorem dX10_cut_361 : decode cX10_cut 361 = .ok (.goto 4, 3) := by decide +kernel
theorem dX10_cut_364 : decode cX10_cut 364 = .ok (.iconst 2, 1) := by decide +kernel
theorem dX10_cut_365 : decode cX10_cut 365 = .ok (.iastore, 1) := by decide +kernel
theorem dX10_cut_366 : decode cX10_cut 366 = .ok (.goto 38, 3) := by decide +kernel
theorem dX10_cut_369 : decode cX10_cut 369 = .ok (.aload_n 0, 1) := by decide +kernel
theorem dX10_cut_370 : decode cX10_cut 370 = .ok (.getfield 99, 3) := by decide +kernel
theorem dX10_cut_373 : decode cX10_cut 373 = .ok (.aload_n 0, 1) := by decide +kernel
theorem dX10_cut_374 : decode cX10_cut 374 = .ok (.getfield 167, 3) := by decide +kernel
theorem dX10_cut_377 : decode cX10_cut 377 = .ok (.aload_n 0, 1) := by decide +kernel
theorem dX10_cut_378 : decode cX10_cut 378 = .ok (.getfield 7, 3) := by decide +kernel
theorem dX10_cut_381 : decode cX10_cut 381 = .ok (.iload_n 1, 1) := by decide +kernel
theorem dX10_cut_382 : decode cX10_cut 382 = .ok (.iaload, 1) := by decide +kernel
theorem dX10_cut_383 : decode cX10_cut 383 = .ok (.invokestatic 185, 3) := by decide +kernel
theorem dX10_cut_386 : decode cX10_cut 386 = .ok (.ifCond .eq 12, 3) := by decide +kernel
theorem dX10_cut_389 : decode cX10_cut 389 = .ok (.aload_n 0, 1) := by decide +kernel
theorem dX10_cut_390 : decode cX10_cut 390 = .ok (.getfield 7, 3) := by decide +kernel
theorem dX10_cut_393 : decode cX10_cut 393 = .ok (.iload_n 1, 1) := by decide +kernel
theorem dX10_cut_394 : decode cX10_cut 394 = .ok (.iaload, 1) := by decide +kernel
theorem dX10_cut_395 : decode cX10_cut 395 = .ok (.goto 5, 3) := by decide +kernel
theorem dX10_cut_398 : decode cX10_cut 398 = .ok (.bipush 7, 2) := by decide +kernel
theorem dX10_cut_400 : decode cX10_cut 400 = .ok (.iastore, 1) := by decide +kernel
theorem dX10_cut_401 : decode cX10_cut 401 = .ok (.iinc 1 1, 3) := by decide +kernel
theorem dX10_cut_404 : decode cX10_cut 404 = .ok (.aload_n 0, 1) := by decide +kernel
theorem dX10_cut_405 : decode cX10_cut 405 = .ok (.getfield 99, 3) := by decide +kernel
theorem dX10_cut_408 : decode cX10_cut 408 = .ok (.aload_n 0, 1) := by decide +kernel
theorem dX10_cut_409 : decode cX10_cut 409 = .ok (.getfield 167, 3) := by decide +kernel
theorem dX10_cut_412 : decode cX10_cut 412 = .ok (.iaload, 1) := by decide +kernel
theorem dX10_cut_413 : decode cX10_cut 413 = .ok (.ifCond .eq 21, 3) := by decide +kernel
theorem dX10_cut_416 : decode cX10_cut 416 = .ok (.aload_n 0, 1) := by decide +kernel
theorem dX10_cut_417 : decode cX10_cut 417 = .ok (.getfield 99, 3) := by decide +kernel
theorem dX10_cut_420 : decode cX10_cut 420 = .ok (.aload_n 0, 1) := by decide +kernel
theorem dX10_cut_421 : decode cX10_cut 421 = .ok (.getfield 167, 3) := by decide +kernel
theorem dX10_cut_424 : decode cX10_cut 424 = .ok (.iaload, 1) := by decide +kernel
theorem dX10_cut_425 : decode cX10_cut 425 = .ok (.bipush 7, 2) := by decide +kernel
theorem dX10_cut_427 : decode cX10_cut 427 = .ok (.if_icmp .eq 7, 3) := by decide +kernel
theorem dX10_cut_430 : decode cX10_cut 430 = .ok (.iconst 1, 1) := by decide +kernel
theorem dX10_cut_431 : decode cX10_cut 431 = .ok (.goto 4, 3) := by decide +kernel
theorem dX10_cut_434 : decode cX10_cut 434 = .ok (.iconst 0, 1) := by decide +kernel
theorem dX10_cut_435 : decode cX10_cut 435 = .ok (.istore_n 2, 1) := by decide +kernel
theorem dX10_cut_436 : decode cX10_cut 436 = .ok (.aload_n 0, 1) := by decide +kernel
theorem dX10_cut_437 : decode cX10_cut 437 = .ok (.dup, 1) := by decide +kernel
theorem dX10_cut_438 : decode cX10_cut 438 = .ok (.getfield 167, 3) := by decide +kernel
theorem dX10_cut_441 : decode cX10_cut 441 = .ok (.iconst 1, 1) := by decide +kernel
theorem dX10_cut_442 : decode cX10_cut 442 = .ok (.iadd, 1) := by decide +kernel
theorem dX10_cut_443 : decode cX10_cut 443 = .ok (.putfield 167, 3) := by decide +kernel
theorem dX10_cut_446 : decode cX10_cut 446 = .ok (.goto (-437), 3) := by decide +kernel
theorem dX10_cut_449 : decode cX10_cut 449 = .ok (.return_, 1) := by decide +kernel
theorem dX10_word_0 : decode cX10_word 0 = .ok (.lload_n 0, 1) := by decide +kernel
theorem dX10_word_1 : decode cX10_word 1 = .ok (.ldc2_w 188, 3) := by decide +kernel
theorem dX10_word_4 : decode cX10_word 4 = .ok (.lcmp, 1) := by decide +kernel
theorem dX10_word_5 : decode cX10_word 5 = .ok (.ifCond .ne 7, 3) := by decide +kernel
theorem dX10_word_8 : decode cX10_word 8 = .ok (.iconst 4, 1) := by decide +kernel
theorem dX10_word_9 : decode cX10_word 9 = .ok (.goto 29, 3) := by decide +kernel
theorem dX10_word_12 : decode cX10_word 12 = .ok (.lload_n 0, 1) := by decide +kernel
theorem dX10_word_13 : decode cX10_word 13 = .ok (.ldc2_w 190, 3) := by decide +kernel
theorem dX10_word_16 : decode cX10_word 16 = .ok (.lcmp, 1) := by decide +kernel
theorem dX10_word_17 : decode cX10_word 17 = .ok (.ifCond .ne 7, 3) := by decide +kernel
theorem dX10_word_20 : decode cX10_word 20 = .ok (.iconst 5, 1) := by decide +kernel
theorem dX10_word_21 : decode cX10_word 21 = .ok (.goto 17, 3) := by decide +kernel
theorem dX10_word_24 : decode cX10_word 24 = .ok (.lload_n 0, 1) := by decide +kernel
theorem dX10_word_25 : decode cX10_word 25 = .ok (.ldc2_w 192, 3) := by decide +kernel
theorem dX10_word_28 : decode cX10_word 28 = .ok (.lcmp, 1) := by decide +kernel
theorem dX10_word_29 : decode cX10_word 29 = .ok (.ifCond .ne 8, 3) := by decide +kernel
theorem dX10_word_32 : decode cX10_word 32 = .ok (.bipush 6, 2) := by decide +kernel
theorem dX10_word_34 : decode cX10_word 34 = .ok (.goto 4, 3) := by decide +kernel
theorem dX10_word_37 : decode cX10_word 37 = .ok (.iconst 1, 1) := by decide +kernel
theorem dX10_word_38 : decode cX10_word 38 = .ok (.ireturn, 1) := by decide +kernel
theorem dX10_tok_0 : decode cX10_tok 0 = .ok (.aload_n 0, 1) := by decide +kernel
theorem dX10_tok_1 : decode cX10_tok 1 = .ok (.getfield 99, 3) := by decide +kernel
theorem dX10_tok_4 : decode cX10_tok 4 = .ok (.aload_n 0, 1) := by decide +kernel
theorem dX10_tok_5 : decode cX10_tok 5 = .ok (.getfield 194, 3) := by decide +kernel
theorem dX10_tok_8 : decode cX10_tok 8 = .ok (.iaload, 1) := by decide +kernel
theorem dX10_tok_9 : decode cX10_tok 9 = .ok (.ireturn, 1) := by decide +kernel
theorem dX10_wrong_0 : decode cX10_wrong 0 = .ok (.aload_n 0, 1) := by decide +kernel
theorem dX10_wrong_1 : decode cX10_wrong 1 = .ok (.aload_n 0, 1) := by decide +kernel
theorem dX10_wrong_2 : decode cX10_wrong 2 = .ok (.getfield 197, 3) := by decide +kernel
theorem dX10_wrong_5 : decode cX10_wrong 5 = .ok (.ifCond .ge 15, 3) := by decide +kernel
theorem dX10_wrong_8 : decode cX10_wrong 8 = .ok (.aload_n 0, 1) := by decide +kernel
theorem dX10_wrong_9 : decode cX10_wrong 9 = .ok (.getfield 102, 3) := by decide +kernel
theorem dX10_wrong_12 : decode cX10_wrong 12 = .ok (.aload_n 0, 1) := by decide +kernel
theorem dX10_wrong_13 : decode cX10_wrong 13 = .ok (.getfield 194, 3) := by decide +kernel
theorem dX10_wrong_16 : decode cX10_wrong 16 = .ok (.iaload, 1) := by decide +kernel
theorem dX10_wrong_17 : decode cX10_wrong 17 = .ok (.goto 7, 3) := by decide +kernel
theorem dX10_wrong_20 : decode cX10_wrong 20 = .ok (.aload_n 0, 1) := by decide +kernel
theorem dX10_wrong_21 : decode cX10_wrong 21 = .ok (.getfield 197, 3) := by decide +kernel
theorem dX10_wrong_24 : decode cX10_wrong 24 = .ok (.putfield 197, 3) := by decide +kernel
theorem dX10_wrong_27 : decode cX10_wrong 27 = .ok (.return_, 1) := by decide +kernel
theorem dX10_next_0 : decode cX10_next 0 = .ok (.aload_n 0, 1) := by decide +kernel
theorem dX10_next_1 : decode cX10_next 1 = .ok (.dup, 1) := by decide +kernel
theorem dX10_next_2 : decode cX10_next 2 = .ok (.getfield 194, 3) := by decide +kernel
theorem dX10_next_5 : decode cX10_next 5 = .ok (.iconst 1, 1) := by decide +kernel
theorem dX10_next_6 : decode cX10_next 6 = .ok (.iadd, 1) := by decide +kernel
theorem dX10_next_7 : decode cX10_next 7 = .ok (.putfield 194, 3) := by decide +kernel
theorem dX10_next_10 : decode cX10_next 10 = .ok (.return_, 1) := by decide +kernel
theorem dX10_need_0 : decode cX10_need 0 = .ok (.aload_n 0, 1) := by decide +kernel
theorem dX10_need_1 : decode cX10_need 1 = .ok (.getfield 197, 3) := by decide +kernel
theorem dX10_need_4 : decode cX10_need 4 = .ok (.ifCond .ge 11, 3) := by decide +kernel
theorem dX10_need_7 : decode cX10_need 7 = .ok (.aload_n 0, 1) := by decide +kernel
theorem dX10_need_8 : decode cX10_need 8 = .ok (.invokevirtual 200, 3) := by decide +kernel
theorem dX10_need_11 : decode cX10_need 11 = .ok (.iload_n 1, 1) := by decide +kernel
theorem dX10_need_12 : decode cX10_need 12 = .ok (.if_icmp .eq 9, 3) := by decide +kernel
theorem dX10_need_15 : decode cX10_need 15 = .ok (.aload_n 0, 1) := by decide +kernel
theorem dX10_need_16 : decode cX10_need 16 = .ok (.invokevirtual 204, 3) := by decide +kernel
theorem dX10_need_19 : decode cX10_need 19 = .ok (.iconst 0, 1) := by decide +kernel
theorem dX10_need_20 : decode cX10_need 20 = .ok (.ireturn, 1) := by decide +kernel
theorem dX10_need_21 : decode cX10_need 21 = .ok (.aload_n 0, 1) := by decide +kernel
theorem dX10_need_22 : decode cX10_need 22 = .ok (.invokevirtual 207, 3) := by decide +kernel
theorem dX10_need_25 : decode cX10_need 25 = .ok (.iconst 1, 1) := by decide +kernel
theorem dX10_need_26 : decode cX10_need 26 = .ok (.ireturn, 1) := by decide +kernel
theorem dX10_opens_0 : decode cX10_opens 0 = .ok (.aload_n 0, 1) := by decide +kernel
theorem dX10_opens_1 : decode cX10_opens 1 = .ok (.getfield 210, 3) := by decide +kernel
theorem dX10_opens_4 : decode cX10_opens 4 = .ok (.bipush 12, 2) := by decide +kernel
theorem dX10_opens_6 : decode cX10_opens 6 = .ok (.if_icmp .ne 9, 3) := by decide +kernel
theorem dX10_opens_9 : decode cX10_opens 9 = .ok (.aload_n 0, 1) := by decide +kernel
theorem dX10_opens_10 : decode cX10_opens 10 = .ok (.invokevirtual 204, 3) := by decide +kernel
theorem dX10_opens_13 : decode cX10_opens 13 = .ok (.iconst 0, 1) := by decide +kernel
theorem dX10_opens_14 : decode cX10_opens 14 = .ok (.ireturn, 1) := by decide +kernel
theorem dX10_opens_15 : decode cX10_opens 15 = .ok (.aload_n 0, 1) := by decide +kernel
theorem dX10_opens_16 : decode cX10_opens 16 = .ok (.dup, 1) := by decide +kernel
theorem dX10_opens_17 : decode cX10_opens 17 = .ok (.getfield 210, 3) := by decide +kernel
theorem dX10_opens_20 : decode cX10_opens 20 = .ok (.iconst 1, 1) := by decide +kernel
theorem dX10_opens_21 : decode cX10_opens 21 = .ok (.iadd, 1) := by decide +kernel
theorem dX10_opens_22 : decode cX10_opens 22 = .ok (.putfield 210, 3) := by decide +kernel
theorem dX10_opens_25 : decode cX10_opens 25 = .ok (.aload_n 0, 1) := by decide +kernel
theorem dX10_opens_26 : decode cX10_opens 26 = .ok (.invokevirtual 207, 3) := by decide +kernel
theorem dX10_opens_29 : decode cX10_opens 29 = .ok (.iconst 1, 1) := by decide +kernel
theorem dX10_opens_30 : decode cX10_opens 30 = .ok (.ireturn, 1) := by decide +kernel
theorem dX10_push_0 : decode cX10_push 0 = .ok (.aload_n 0, 1) := by decide +kernel
theorem dX10_push_1 : decode cX10_push 1 = .ok (.getfield 108, 3) := by decide +kernel
theorem dX10_push_4 : decode cX10_push 4 = .ok (.aload_n 0, 1) := by decide +kernel
theorem dX10_push_5 : decode cX10_push 5 = .ok (.getfield 213, 3) := by decide +kernel
theorem dX10_push_8 : decode cX10_push 8 = .ok (.iload_n 1, 1) := by decide +kernel
theorem dX10_push_9 : decode cX10_push 9 = .ok (.iastore, 1) := by decide +kernel
theorem dX10_push_10 : decode cX10_push 10 = .ok (.aload_n 0, 1) := by decide +kernel
theorem dX10_push_11 : decode cX10_push 11 = .ok (.getfield 111, 3) := by decide +kernel
theorem dX10_push_14 : decode cX10_push 14 = .ok (.aload_n 0, 1) := by decide +kernel
theorem dX10_push_15 : decode cX10_push 15 = .ok (.getfield 213, 3) := by decide +kernel
theorem dX10_push_18 : decode cX10_push 18 = .ok (.iconst 0, 1) := by decide +kernel
theorem dX10_push_19 : decode cX10_push 19 = .ok (.iastore, 1) := by decide +kernel
theorem dX10_push_20 : decode cX10_push 20 = .ok (.aload_n 0, 1) := by decide +kernel
theorem dX10_push_21 : decode cX10_push 21 = .ok (.dup, 1) := by decide +kernel
theorem dX10_push_22 : decode cX10_push 22 = .ok (.getfield 213, 3) := by decide +kernel
theorem dX10_push_25 : decode cX10_push 25 = .ok (.iconst 1, 1) := by decide +kernel
theorem dX10_push_26 : decode cX10_push 26 = .ok (.iadd, 1) := by decide +kernel
theorem dX10_push_27 : decode cX10_push 27 = .ok (.putfield 213, 3) := by decide +kernel
theorem dX10_push_30 : decode cX10_push 30 = .ok (.return_, 1) := by decide +kernel
theorem dX10_then_0 : decode cX10_then 0 = .ok (.aload_n 0, 1) := by decide +kernel
theorem dX10_then_1 : decode cX10_then 1 = .ok (.getfield 111, 3) := by decide +kernel
theorem dX10_then_4 : decode cX10_then 4 = .ok (.aload_n 0, 1) := by decide +kernel
theorem dX10_then_5 : decode cX10_then 5 = .ok (.getfield 213, 3) := by decide +kernel
theorem dX10_then_8 : decode cX10_then 8 = .ok (.iconst 1, 1) := by decide +kernel
theorem dX10_then_9 : decode cX10_then 9 = .ok (.isub, 1) := by decide +kernel
theorem dX10_then_10 : decode cX10_then 10 = .ok (.iload_n 1, 1) := by decide +kernel
theorem dX10_then_11 : decode cX10_then 11 = .ok (.iastore, 1) := by decide +kernel
theorem dX10_then_12 : decode cX10_then 12 = .ok (.aload_n 0, 1) := by decide +kernel
theorem dX10_then_13 : decode cX10_then 13 = .ok (.iload_n 2, 1) := by decide +kernel
theorem dX10_then_14 : decode cX10_then 14 = .ok (.invokevirtual 216, 3) := by decide +kernel
theorem dX10_then_17 : decode cX10_then 17 = .ok (.return_, 1) := by decide +kernel
theorem dX10_node_0 : decode cX10_node 0 = .ok (.bipush 64, 2) := by decide +kernel
theorem dX10_node_2 : decode cX10_node 2 = .ok (.aload_n 0, 1) := by decide +kernel
theorem dX10_node_3 : decode cX10_node 3 = .ok (.getfield 220, 3) := by decide +kernel
theorem dX10_node_6 : decode cX10_node 6 = .ok (.imul, 1) := by decide +kernel
theorem dX10_node_7 : decode cX10_node 7 = .ok (.aload_n 0, 1) := by decide +kernel
theorem dX10_node_8 : decode cX10_node 8 = .ok (.getfield 223, 3) := by decide +kernel
theorem dX10_node_11 : decode cX10_node 11 = .ok (.iadd, 1) := by decide +kernel
theorem dX10_node_12 : decode cX10_node 12 = .ok (.istore 6, 2) := by decide +kernel
theorem dX10_node_14 : decode cX10_node 14 = .ok (.aload_n 0, 1) := by decide +kernel
theorem dX10_node_15 : decode cX10_node 15 = .ok (.dup, 1) := by decide +kernel
theorem dX10_node_16 : decode cX10_node 16 = .ok (.getfield 223, 3) := by decide +kernel
theorem dX10_node_19 : decode cX10_node 19 = .ok (.iconst 1, 1) := by decide +kernel
theorem dX10_node_20 : decode cX10_node 20 = .ok (.iadd, 1) := by decide +kernel
theorem dX10_node_21 : decode cX10_node 21 = .ok (.putfield 223, 3) := by decide +kernel
theorem dX10_node_24 : decode cX10_node 24 = .ok (.aload_n 0, 1) := by decide +kernel
theorem dX10_node_25 : decode cX10_node 25 = .ok (.getfield 56, 3) := by decide +kernel
theorem dX10_node_28 : decode cX10_node 28 = .ok (.iload 6, 2) := by decide +kernel
theorem dX10_node_30 : decode cX10_node 30 = .ok (.iload_n 1, 1) := by decide +kernel
theorem dX10_node_31 : decode cX10_node 31 = .ok (.iastore, 1) := by decide +kernel
theorem dX10_node_32 : decode cX10_node 32 = .ok (.aload_n 0, 1) := by decide +kernel
theorem dX10_node_33 : decode cX10_node 33 = .ok (.getfield 71, 3) := by decide +kernel
theorem dX10_node_36 : decode cX10_node 36 = .ok (.iload 6, 2) := by decide +kernel
theorem dX10_node_38 : decode cX10_node 38 = .ok (.iload_n 2, 1) := by decide +kernel
theorem dX10_node_39 : decode cX10_node 39 = .ok (.iastore, 1) := by decide +kernel
theorem dX10_node_40 : decode cX10_node 40 = .ok (.aload_n 0, 1) := by decide +kernel
theorem dX10_node_41 : decode cX10_node 41 = .ok (.getfield 68, 3) := by decide +kernel
theorem dX10_node_44 : decode cX10_node 44 = .ok (.iload 6, 2) := by decide +kernel
theorem dX10_node_46 : decode cX10_node 46 = .ok (.aload_n 0, 1) := by decide +kernel
theorem dX10_node_47 : decode cX10_node 47 = .ok (.getfield 102, 3) := by decide +kernel
theorem dX10_node_50 : decode cX10_node 50 = .ok (.iload_n 2, 1) := by decide +kernel
theorem dX10_node_51 : decode cX10_node 51 = .ok (.iaload, 1) := by decide +kernel
theorem dX10_node_52 : decode cX10_node 52 = .ok (.iastore, 1) := by decide +kernel
theorem dX10_node_53 : decode cX10_node 53 = .ok (.aload_n 0, 1) := by decide +kernel
theorem dX10_node_54 : decode cX10_node 54 = .ok (.getfield 59, 3) := by decide +kernel
theorem dX10_node_57 : decode cX10_node 57 = .ok (.iload 6, 2) := by decide +kernel
theorem dX10_node_59 : decode cX10_node 59 = .ok (.iload_n 3, 1) := by decide +kernel
theorem dX10_node_60 : decode cX10_node 60 = .ok (.iastore, 1) := by decide +kernel
theorem dX10_node_61 : decode cX10_node 61 = .ok (.aload_n 0, 1) := by decide +kernel
theorem dX10_node_62 : decode cX10_node 62 = .ok (.getfield 62, 3) := by decide +kernel
theorem dX10_node_65 : decode cX10_node 65 = .ok (.iload 6, 2) := by decide +kernel
theorem dX10_node_67 : decode cX10_node 67 = .ok (.iload 4, 2) := by decide +kernel
theorem dX10_node_69 : decode cX10_node 69 = .ok (.iastore, 1) := by decide +kernel
theorem dX10_node_70 : decode cX10_node 70 = .ok (.aload_n 0, 1) := by decide +kernel
theorem dX10_node_71 : decode cX10_node 71 = .ok (.getfield 65, 3) := by decide +kernel
theorem dX10_node_74 : decode cX10_node 74 = .ok (.iload 6, 2) := by decide +kernel
theorem dX10_node_76 : decode cX10_node 76 = .ok (.iload 5, 2) := by decide +kernel
theorem dX10_node_78 : decode cX10_node 78 = .ok (.iastore, 1) := by decide +kernel
theorem dX10_node_79 : decode cX10_node 79 = .ok (.aload_n 0, 1) := by decide +kernel
theorem dX10_node_80 : decode cX10_node 80 = .ok (.getfield 74, 3) := by decide +kernel
theorem dX10_node_83 : decode cX10_node 83 = .ok (.iload 6, 2) := by decide +kernel
theorem dX10_node_85 : decode cX10_node 85 = .ok (.iconst 0, 1) := by decide +kernel
theorem dX10_node_86 : decode cX10_node 86 = .ok (.iastore, 1) := by decide +kernel
theorem dX10_node_87 : decode cX10_node 87 = .ok (.aload_n 0, 1) := by decide +kernel
theorem dX10_node_88 : decode cX10_node 88 = .ok (.getfield 77, 3) := by decide +kernel
theorem dX10_node_91 : decode cX10_node 91 = .ok (.iload 6, 2) := by decide +kernel
theorem dX10_node_93 : decode cX10_node 93 = .ok (.aload_n 0, 1) := by decide +kernel
theorem dX10_node_94 : decode cX10_node 94 = .ok (.getfield 105, 3) := by decide +kernel
theorem dX10_node_97 : decode cX10_node 97 = .ok (.iload_n 2, 1) := by decide +kernel
theorem dX10_node_98 : decode cX10_node 98 = .ok (.laload, 1) := by decide +kernel
theorem dX10_node_99 : decode cX10_node 99 = .ok (.lastore, 1) := by decide +kernel
theorem dX10_node_100 : decode cX10_node 100 = .ok (.iload 6, 2) := by decide +kernel
theorem dX10_node_102 : decode cX10_node 102 = .ok (.ireturn, 1) := by decide +kernel
theorem dX10_expr_0 : decode cX10_expr 0 = .ok (.aload_n 0, 1) := by decide +kernel
theorem dX10_expr_1 : decode cX10_expr 1 = .ok (.getfield 111, 3) := by decide +kernel
theorem dX10_expr_4 : decode cX10_expr 4 = .ok (.iload_n 1, 1) := by decide +kernel
theorem dX10_expr_5 : decode cX10_expr 5 = .ok (.iaload, 1) := by decide +kernel
theorem dX10_expr_6 : decode cX10_expr 6 = .ok (.tableswitch 121 0 2 #[26, 35, 93], 26) := by decide +kernel
theorem dX10_expr_32 : decode cX10_expr 32 = .ok (.aload_n 0, 1) := by decide +kernel
theorem dX10_expr_33 : decode cX10_expr 33 = .ok (.iconst 1, 1) := by decide +kernel
theorem dX10_expr_34 : decode cX10_expr 34 = .ok (.iconst 1, 1) := by decide +kernel
theorem dX10_expr_35 : decode cX10_expr 35 = .ok (.invokevirtual 226, 3) := by decide +kernel
theorem dX10_expr_38 : decode cX10_expr 38 = .ok (.goto 141, 3) := by decide +kernel
theorem dX10_expr_41 : decode cX10_expr 41 = .ok (.aload_n 0, 1) := by decide +kernel
theorem dX10_expr_42 : decode cX10_expr 42 = .ok (.invokevirtual 200, 3) := by decide +kernel
theorem dX10_expr_45 : decode cX10_expr 45 = .ok (.bipush 63, 2) := by decide +kernel
theorem dX10_expr_47 : decode cX10_expr 47 = .ok (.if_icmp .eq 16, 3) := by decide +kernel
theorem dX10_expr_50 : decode cX10_expr 50 = .ok (.aload_n 0, 1) := by decide +kernel
theorem dX10_expr_51 : decode cX10_expr 51 = .ok (.dup, 1) := by decide +kernel
theorem dX10_expr_52 : decode cX10_expr 52 = .ok (.getfield 213, 3) := by decide +kernel
theorem dX10_expr_55 : decode cX10_expr 55 = .ok (.iconst 1, 1) := by decide +kernel
theorem dX10_expr_56 : decode cX10_expr 56 = .ok (.isub, 1) := by decide +kernel
theorem dX10_expr_57 : decode cX10_expr 57 = .ok (.putfield 213, 3) := by decide +kernel
theorem dX10_expr_60 : decode cX10_expr 60 = .ok (.goto 119, 3) := by decide +kernel
theorem dX10_expr_63 : decode cX10_expr 63 = .ok (.aload_n 0, 1) := by decide +kernel
theorem dX10_expr_64 : decode cX10_expr 64 = .ok (.getfield 114, 3) := by decide +kernel
theorem dX10_expr_67 : decode cX10_expr 67 = .ok (.iload_n 1, 1) := by decide +kernel
theorem dX10_expr_68 : decode cX10_expr 68 = .ok (.aload_n 0, 1) := by decide +kernel
theorem dX10_expr_69 : decode cX10_expr 69 = .ok (.getfield 230, 3) := by decide +kernel
theorem dX10_expr_72 : decode cX10_expr 72 = .ok (.iastore, 1) := by decide +kernel
theorem dX10_expr_73 : decode cX10_expr 73 = .ok (.aload_n 0, 1) := by decide +kernel
theorem dX10_expr_74 : decode cX10_expr 74 = .ok (.getfield 117, 3) := by decide +kernel
theorem dX10_expr_77 : decode cX10_expr 77 = .ok (.iload_n 1, 1) := by decide +kernel
theorem dX10_expr_78 : decode cX10_expr 78 = .ok (.aload_n 0, 1) := by decide +kernel
theorem dX10_expr_79 : decode cX10_expr 79 = .ok (.getfield 194, 3) := by decide +kernel
theorem dX10_expr_82 : decode cX10_expr 82 = .ok (.iastore, 1) := by decide +kernel
theorem dX10_expr_83 : decode cX10_expr 83 = .ok (.aload_n 0, 1) := by decide +kernel
theorem dX10_expr_84 : decode cX10_expr 84 = .ok (.invokevirtual 233, 3) := by decide +kernel
theorem dX10_expr_87 : decode cX10_expr 87 = .ok (.ifCond .eq 92, 3) := by decide +kernel
theorem dX10_expr_90 : decode cX10_expr 90 = .ok (.aload_n 0, 1) := by decide +kernel
theorem dX10_expr_91 : decode cX10_expr 91 = .ok (.iconst 2, 1) := by decide +kernel
theorem dX10_expr_92 : decode cX10_expr 92 = .ok (.iconst 0, 1) := by decide +kernel
theorem dX10_expr_93 : decode cX10_expr 93 = .ok (.invokevirtual 226, 3) := by decide +kernel
theorem dX10_expr_96 : decode cX10_expr 96 = .ok (.goto 83, 3) := by decide +kernel
theorem dX10_expr_99 : decode cX10_expr 99 = .ok (.aload_n 0, 1) := by decide +kernel
theorem dX10_expr_100 : decode cX10_expr 100 = .ok (.getfield 120, 3) := by decide +kernel
theorem dX10_expr_103 : decode cX10_expr 103 = .ok (.iload_n 1, 1) := by decide +kernel
theorem dX10_expr_104 : decode cX10_expr 104 = .ok (.aload_n 0, 1) := by decide +kernel
theorem dX10_expr_105 : decode cX10_expr 105 = .ok (.getfield 230, 3) := by decide +kernel
theorem dX10_expr_108 : decode cX10_expr 108 = .ok (.iastore, 1) := by decide +kernel
theorem dX10_expr_109 : decode cX10_expr 109 = .ok (.aload_n 0, 1) := by decide +kernel
theorem dX10_expr_110 : decode cX10_expr 110 = .ok (.bipush 58, 2) := by decide +kernel
theorem dX10_expr_112 : decode cX10_expr 112 = .ok (.invokevirtual 237, 3) := by decide +kernel
theorem dX10_expr_115 : decode cX10_expr 115 = .ok (.ifCond .eq 64, 3) := by decide +kernel
theorem dX10_expr_118 : decode cX10_expr 118 = .ok (.aload_n 0, 1) := by decide +kernel
theorem dX10_expr_119 : decode cX10_expr 119 = .ok (.iconst 3, 1) := by decide +kernel
theorem dX10_expr_120 : decode cX10_expr 120 = .ok (.iconst 0, 1) := by decide +kernel
theorem dX10_expr_121 : decode cX10_expr 121 = .ok (.invokevirtual 226, 3) := by decide +kernel
theorem dX10_expr_124 : decode cX10_expr 124 = .ok (.goto 55, 3) := by decide +kernel
theorem dX10_expr_127 : decode cX10_expr 127 = .ok (.aload_n 0, 1) := by decide +kernel
theorem dX10_expr_128 : decode cX10_expr 128 = .ok (.aload_n 0, 1) := by decide +kernel
theorem dX10_expr_129 : decode cX10_expr 129 = .ok (.bipush 7, 2) := by decide +kernel
theorem dX10_expr_131 : decode cX10_expr 131 = .ok (.aload_n 0, 1) := by decide +kernel
theorem dX10_expr_132 : decode cX10_expr 132 = .ok (.getfield 117, 3) := by decide +kernel
theorem dX10_expr_135 : decode cX10_expr 135 = .ok (.iload_n 1, 1) := by decide +kernel
theorem dX10_expr_136 : decode cX10_expr 136 = .ok (.iaload, 1) := by decide +kernel
theorem dX10_expr_137 : decode cX10_expr 137 = .ok (.aload_n 0, 1) := by decide +kernel
theorem dX10_expr_138 : decode cX10_expr 138 = .ok (.getfield 114, 3) := by decide +kernel
theorem dX10_expr_141 : decode cX10_expr 141 = .ok (.iload_n 1, 1) := by decide +kernel
theorem dX10_expr_142 : decode cX10_expr 142 = .ok (.iaload, 1) := by decide +kernel
theorem dX10_expr_143 : decode cX10_expr 143 = .ok (.aload_n 0, 1) := by decide +kernel
theorem dX10_expr_144 : decode cX10_expr 144 = .ok (.getfield 120, 3) := by decide +kernel
theorem dX10_expr_147 : decode cX10_expr 147 = .ok (.iload_n 1, 1) := by decide +kernel
theorem dX10_expr_148 : decode cX10_expr 148 = .ok (.iaload, 1) := by decide +kernel
theorem dX10_expr_149 : decode cX10_expr 149 = .ok (.aload_n 0, 1) := by decide +kernel
theorem dX10_expr_150 : decode cX10_expr 150 = .ok (.getfield 230, 3) := by decide +kernel
theorem dX10_expr_153 : decode cX10_expr 153 = .ok (.invokevirtual 240, 3) := by decide +kernel
theorem dX10_expr_156 : decode cX10_expr 156 = .ok (.putfield 230, 3) := by decide +kernel
theorem dX10_expr_159 : decode cX10_expr 159 = .ok (.aload_n 0, 1) := by decide +kernel
theorem dX10_expr_160 : decode cX10_expr 160 = .ok (.dup, 1) := by decide +kernel
theorem dX10_expr_161 : decode cX10_expr 161 = .ok (.getfield 210, 3) := by decide +kernel
theorem dX10_expr_164 : decode cX10_expr 164 = .ok (.iconst 1, 1) := by decide +kernel
theorem dX10_expr_165 : decode cX10_expr 165 = .ok (.isub, 1) := by decide +kernel
theorem dX10_expr_166 : decode cX10_expr 166 = .ok (.putfield 210, 3) := by decide +kernel
theorem dX10_expr_169 : decode cX10_expr 169 = .ok (.aload_n 0, 1) := by decide +kernel
theorem dX10_expr_170 : decode cX10_expr 170 = .ok (.dup, 1) := by decide +kernel
theorem dX10_expr_171 : decode cX10_expr 171 = .ok (.getfield 213, 3) := by decide +kernel
theorem dX10_expr_174 : decode cX10_expr 174 = .ok (.iconst 1, 1) := by decide +kernel
theorem dX10_expr_175 : decode cX10_expr 175 = .ok (.isub, 1) := by decide +kernel
theorem dX10_expr_176 : decode cX10_expr 176 = .ok (.putfield 213, 3) := by decide +kernel
theorem dX10_expr_179 : decode cX10_expr 179 = .ok (.return_, 1) := by decide +kernel
theorem dX10_row_0 : decode cX10_row 0 = .ok (.aload_n 0, 1) := by decide +kernel
theorem dX10_row_1 : decode cX10_row 1 = .ok (.getfield 111, 3) := by decide +kernel
theorem dX10_row_4 : decode cX10_row 4 = .ok (.iload_n 1, 1) := by decide +kernel
theorem dX10_row_5 : decode cX10_row 5 = .ok (.iaload, 1) := by decide +kernel
theorem dX10_row_6 : decode cX10_row 6 = .ok (.ifCond .ne 10, 3) := by decide +kernel
theorem dX10_row_9 : decode cX10_row 9 = .ok (.aload_n 0, 1) := by decide +kernel
theorem dX10_row_10 : decode cX10_row 10 = .ok (.iconst 1, 1) := by decide +kernel
theorem dX10_row_11 : decode cX10_row 11 = .ok (.iload_n 2, 1) := by decide +kernel
theorem dX10_row_12 : decode cX10_row 12 = .ok (.invokevirtual 226, 3) := by decide +kernel
theorem dX10_row_15 : decode cX10_row 15 = .ok (.return_, 1) := by decide +kernel
theorem dX10_row_16 : decode cX10_row 16 = .ok (.aload_n 0, 1) := by decide +kernel
theorem dX10_row_17 : decode cX10_row 17 = .ok (.getfield 111, 3) := by decide +kernel
theorem dX10_row_20 : decode cX10_row 20 = .ok (.iload_n 1, 1) := by decide +kernel
theorem dX10_row_21 : decode cX10_row 21 = .ok (.iaload, 1) := by decide +kernel
theorem dX10_row_22 : decode cX10_row 22 = .ok (.iconst 2, 1) := by decide +kernel
theorem dX10_row_23 : decode cX10_row 23 = .ok (.if_icmp .ne 52, 3) := by decide +kernel
theorem dX10_row_26 : decode cX10_row 26 = .ok (.aload_n 0, 1) := by decide +kernel
theorem dX10_row_27 : decode cX10_row 27 = .ok (.aload_n 0, 1) := by decide +kernel
theorem dX10_row_28 : decode cX10_row 28 = .ok (.bipush 6, 2) := by decide +kernel
theorem dX10_row_30 : decode cX10_row 30 = .ok (.aload_n 0, 1) := by decide +kernel
theorem dX10_row_31 : decode cX10_row 31 = .ok (.getfield 117, 3) := by decide +kernel
theorem dX10_row_34 : decode cX10_row 34 = .ok (.iload_n 1, 1) := by decide +kernel
theorem dX10_row_35 : decode cX10_row 35 = .ok (.iaload, 1) := by decide +kernel
theorem dX10_row_36 : decode cX10_row 36 = .ok (.aload_n 0, 1) := by decide +kernel
theorem dX10_row_37 : decode cX10_row 37 = .ok (.getfield 114, 3) := by decide +kernel
theorem dX10_row_40 : decode cX10_row 40 = .ok (.iload_n 1, 1) := by decide +kernel
theorem dX10_row_41 : decode cX10_row 41 = .ok (.iaload, 1) := by decide +kernel
theorem dX10_row_42 : decode cX10_row 42 = .ok (.aload_n 0, 1) := by decide +kernel
theorem dX10_row_43 : decode cX10_row 43 = .ok (.getfield 230, 3) := by decide +kernel
theorem dX10_row_46 : decode cX10_row 46 = .ok (.bipush (-5), 2) := by decide +kernel
theorem dX10_row_48 : decode cX10_row 48 = .ok (.invokevirtual 240, 3) := by decide +kernel
theorem dX10_row_51 : decode cX10_row 51 = .ok (.putfield 230, 3) := by decide +kernel
theorem dX10_row_54 : decode cX10_row 54 = .ok (.aload_n 0, 1) := by decide +kernel
theorem dX10_row_55 : decode cX10_row 55 = .ok (.getfield 77, 3) := by decide +kernel
theorem dX10_row_58 : decode cX10_row 58 = .ok (.aload_n 0, 1) := by decide +kernel
theorem dX10_row_59 : decode cX10_row 59 = .ok (.getfield 230, 3) := by decide +kernel
theorem dX10_row_62 : decode cX10_row 62 = .ok (.aload_n 0, 1) := by decide +kernel
theorem dX10_row_63 : decode cX10_row 63 = .ok (.getfield 99, 3) := by decide +kernel
theorem dX10_row_66 : decode cX10_row 66 = .ok (.aload_n 0, 1) := by decide +kernel
theorem dX10_row_67 : decode cX10_row 67 = .ok (.getfield 117, 3) := by decide +kernel
theorem dX10_row_70 : decode cX10_row 70 = .ok (.iload_n 1, 1) := by decide +kernel
theorem dX10_row_71 : decode cX10_row 71 = .ok (.iaload, 1) := by decide +kernel
theorem dX10_row_72 : decode cX10_row 72 = .ok (.iaload, 1) := by decide +kernel
theorem dX10_row_73 : decode cX10_row 73 = .ok (.i2l, 1) := by decide +kernel
theorem dX10_row_74 : decode cX10_row 74 = .ok (.lastore, 1) := by decide +kernel
theorem dX10_row_75 : decode cX10_row 75 = .ok (.iload_n 3, 1) := by decide +kernel
theorem dX10_row_76 : decode cX10_row 76 = .ok (.ifCond .eq 51, 3) := by decide +kernel
theorem dX10_row_79 : decode cX10_row 79 = .ok (.iload 4, 2) := by decide +kernel
theorem dX10_row_81 : decode cX10_row 81 = .ok (.ifCond .eq 13, 3) := by decide +kernel
theorem dX10_row_84 : decode cX10_row 84 = .ok (.aload_n 0, 1) := by decide +kernel
theorem dX10_row_85 : decode cX10_row 85 = .ok (.getfield 111, 3) := by decide +kernel
theorem dX10_row_88 : decode cX10_row 88 = .ok (.iload_n 1, 1) := by decide +kernel
theorem dX10_row_89 : decode cX10_row 89 = .ok (.iaload, 1) := by decide +kernel
theorem dX10_row_90 : decode cX10_row 90 = .ok (.iconst 2, 1) := by decide +kernel
theorem dX10_row_91 : decode cX10_row 91 = .ok (.if_icmp .eq 36, 3) := by decide +kernel
theorem dX10_row_94 : decode cX10_row 94 = .ok (.aload_n 0, 1) := by decide +kernel
theorem dX10_row_95 : decode cX10_row 95 = .ok (.getfield 114, 3) := by decide +kernel
theorem dX10_row_98 : decode cX10_row 98 = .ok (.iload_n 1, 1) := by decide +kernel
theorem dX10_row_99 : decode cX10_row 99 = .ok (.aload_n 0, 1) := by decide +kernel
theorem dX10_row_100 : decode cX10_row 100 = .ok (.getfield 230, 3) := by decide +kernel
theorem dX10_row_103 : decode cX10_row 103 = .ok (.iastore, 1) := by decide +kernel
theorem dX10_row_104 : decode cX10_row 104 = .ok (.aload_n 0, 1) := by decide +kernel
theorem dX10_row_105 : decode cX10_row 105 = .ok (.getfield 117, 3) := by decide +kernel
theorem dX10_row_108 : decode cX10_row 108 = .ok (.iload_n 1, 1) := by decide +kernel
theorem dX10_row_109 : decode cX10_row 109 = .ok (.aload_n 0, 1) := by decide +kernel
theorem dX10_row_110 : decode cX10_row 110 = .ok (.getfield 194, 3) := by decide +kernel
theorem dX10_row_113 : decode cX10_row 113 = .ok (.iastore, 1) := by decide +kernel
theorem dX10_row_114 : decode cX10_row 114 = .ok (.aload_n 0, 1) := by decide +kernel
theorem dX10_row_115 : decode cX10_row 115 = .ok (.invokevirtual 207, 3) := by decide +kernel
theorem dX10_row_118 : decode cX10_row 118 = .ok (.aload_n 0, 1) := by decide +kernel
theorem dX10_row_119 : decode cX10_row 119 = .ok (.iconst 2, 1) := by decide +kernel
theorem dX10_row_120 : decode cX10_row 120 = .ok (.iload_n 2, 1) := by decide +kernel
theorem dX10_row_121 : decode cX10_row 121 = .ok (.invokevirtual 226, 3) := by decide +kernel
theorem dX10_row_124 : decode cX10_row 124 = .ok (.goto 13, 3) := by decide +kernel
theorem dX10_row_127 : decode cX10_row 127 = .ok (.aload_n 0, 1) := by decide +kernel
theorem dX10_row_128 : decode cX10_row 128 = .ok (.dup, 1) := by decide +kernel
theorem dX10_row_129 : decode cX10_row 129 = .ok (.getfield 213, 3) := by decide +kernel
theorem dX10_row_132 : decode cX10_row 132 = .ok (.iconst 1, 1) := by decide +kernel
theorem dX10_row_133 : decode cX10_row 133 = .ok (.isub, 1) := by decide +kernel
theorem dX10_row_134 : decode cX10_row 134 = .ok (.putfield 213, 3) := by decide +kernel
theorem dX10_row_137 : decode cX10_row 137 = .ok (.return_, 1) := by decide +kernel
theorem dX10_fact_0 : decode cX10_fact 0 = .ok (.aload_n 0, 1) := by decide +kernel
theorem dX10_fact_1 : decode cX10_fact 1 = .ok (.getfield 111, 3) := by decide +kernel
theorem dX10_fact_4 : decode cX10_fact 4 = .ok (.iload_n 1, 1) := by decide +kernel
theorem dX10_fact_5 : decode cX10_fact 5 = .ok (.iaload, 1) := by decide +kernel
theorem dX10_fact_6 : decode cX10_fact 6 = .ok (.lookupswitch 116 #[(0, 26), (1, 70)], 26) := by decide +kernel
theorem dX10_fact_32 : decode cX10_fact 32 = .ok (.aload_n 0, 1) := by decide +kernel
theorem dX10_fact_33 : decode cX10_fact 33 = .ok (.invokevirtual 200, 3) := by decide +kernel
theorem dX10_fact_36 : decode cX10_fact 36 = .ok (.bipush 45, 2) := by decide +kernel
theorem dX10_fact_38 : decode cX10_fact 38 = .ok (.if_icmp .ne 29, 3) := by decide +kernel
theorem dX10_fact_41 : decode cX10_fact 41 = .ok (.aload_n 0, 1) := by decide +kernel
theorem dX10_fact_42 : decode cX10_fact 42 = .ok (.getfield 117, 3) := by decide +kernel
theorem dX10_fact_45 : decode cX10_fact 45 = .ok (.iload_n 1, 1) := by decide +kernel
theorem dX10_fact_46 : decode cX10_fact 46 = .ok (.aload_n 0, 1) := by decide +kernel
theorem dX10_fact_47 : decode cX10_fact 47 = .ok (.getfield 194, 3) := by decide +kernel
theorem dX10_fact_50 : decode cX10_fact 50 = .ok (.iastore, 1) := by decide +kernel
theorem dX10_fact_51 : decode cX10_fact 51 = .ok (.aload_n 0, 1) := by decide +kernel
theorem dX10_fact_52 : decode cX10_fact 52 = .ok (.invokevirtual 233, 3) := by decide +kernel
theorem dX10_fact_55 : decode cX10_fact 55 = .ok (.ifCond .eq 137, 3) := by decide +kernel
theorem dX10_fact_58 : decode cX10_fact 58 = .ok (.aload_n 0, 1) := by decide +kernel
theorem dX10_fact_59 : decode cX10_fact 59 = .ok (.iconst 1, 1) := by decide +kernel
theorem dX10_fact_60 : decode cX10_fact 60 = .ok (.iconst 4, 1) := by decide +kernel
theorem dX10_fact_61 : decode cX10_fact 61 = .ok (.invokevirtual 226, 3) := by decide +kernel
theorem dX10_fact_64 : decode cX10_fact 64 = .ok (.goto 128, 3) := by decide +kernel
theorem dX10_fact_67 : decode cX10_fact 67 = .ok (.aload_n 0, 1) := by decide +kernel
theorem dX10_fact_68 : decode cX10_fact 68 = .ok (.iconst 2, 1) := by decide +kernel
theorem dX10_fact_69 : decode cX10_fact 69 = .ok (.iconst 5, 1) := by decide +kernel
theorem dX10_fact_70 : decode cX10_fact 70 = .ok (.invokevirtual 226, 3) := by decide +kernel
theorem dX10_fact_73 : decode cX10_fact 73 = .ok (.goto 119, 3) := by decide +kernel
theorem dX10_fact_76 : decode cX10_fact 76 = .ok (.aload_n 0, 1) := by decide +kernel
theorem dX10_fact_77 : decode cX10_fact 77 = .ok (.aload_n 0, 1) := by decide +kernel
theorem dX10_fact_78 : decode cX10_fact 78 = .ok (.iconst 4, 1) := by decide +kernel
theorem dX10_fact_79 : decode cX10_fact 79 = .ok (.aload_n 0, 1) := by decide +kernel
theorem dX10_fact_80 : decode cX10_fact 80 = .ok (.getfield 117, 3) := by decide +kernel
theorem dX10_fact_83 : decode cX10_fact 83 = .ok (.iload_n 1, 1) := by decide +kernel
theorem dX10_fact_84 : decode cX10_fact 84 = .ok (.iaload, 1) := by decide +kernel
theorem dX10_fact_85 : decode cX10_fact 85 = .ok (.aload_n 0, 1) := by decide +kernel
theorem dX10_fact_86 : decode cX10_fact 86 = .ok (.getfield 230, 3) := by decide +kernel
theorem dX10_fact_89 : decode cX10_fact 89 = .ok (.bipush (-5), 2) := by decide +kernel
theorem dX10_fact_91 : decode cX10_fact 91 = .ok (.bipush (-5), 2) := by decide +kernel
theorem dX10_fact_93 : decode cX10_fact 93 = .ok (.invokevirtual 240, 3) := by decide +kernel
theorem dX10_fact_96 : decode cX10_fact 96 = .ok (.putfield 230, 3) := by decide +kernel
theorem dX10_fact_99 : decode cX10_fact 99 = .ok (.aload_n 0, 1) := by decide +kernel
theorem dX10_fact_100 : decode cX10_fact 100 = .ok (.dup, 1) := by decide +kernel
theorem dX10_fact_101 : decode cX10_fact 101 = .ok (.getfield 210, 3) := by decide +kernel
theorem dX10_fact_104 : decode cX10_fact 104 = .ok (.iconst 1, 1) := by decide +kernel
theorem dX10_fact_105 : decode cX10_fact 105 = .ok (.isub, 1) := by decide +kernel
theorem dX10_fact_106 : decode cX10_fact 106 = .ok (.putfield 210, 3) := by decide +kernel
theorem dX10_fact_109 : decode cX10_fact 109 = .ok (.aload_n 0, 1) := by decide +kernel
theorem dX10_fact_110 : decode cX10_fact 110 = .ok (.dup, 1) := by decide +kernel
theorem dX10_fact_111 : decode cX10_fact 111 = .ok (.getfield 213, 3) := by decide +kernel
theorem dX10_fact_114 : decode cX10_fact 114 = .ok (.iconst 1, 1) := by decide +kernel
theorem dX10_fact_115 : decode cX10_fact 115 = .ok (.isub, 1) := by decide +kernel
theorem dX10_fact_116 : decode cX10_fact 116 = .ok (.putfield 213, 3) := by decide +kernel
theorem dX10_fact_119 : decode cX10_fact 119 = .ok (.goto 73, 3) := by decide +kernel
theorem dX10_fact_122 : decode cX10_fact 122 = .ok (.aload_n 0, 1) := by decide +kernel
theorem dX10_fact_123 : decode cX10_fact 123 = .ok (.invokevirtual 200, 3) := by decide +kernel
theorem dX10_fact_126 : decode cX10_fact 126 = .ok (.bipush 46, 2) := by decide +kernel
theorem dX10_fact_128 : decode cX10_fact 128 = .ok (.if_icmp .eq 14, 3) := by decide +kernel
theorem dX10_fact_131 : decode cX10_fact 131 = .ok (.aload_n 0, 1) := by decide +kernel
theorem dX10_fact_132 : decode cX10_fact 132 = .ok (.dup, 1) := by decide +kernel
theorem dX10_fact_133 : decode cX10_fact 133 = .ok (.getfield 213, 3) := by decide +kernel
theorem dX10_fact_136 : decode cX10_fact 136 = .ok (.iconst 1, 1) := by decide +kernel
theorem dX10_fact_137 : decode cX10_fact 137 = .ok (.isub, 1) := by decide +kernel
theorem dX10_fact_138 : decode cX10_fact 138 = .ok (.putfield 213, 3) := by decide +kernel
theorem dX10_fact_141 : decode cX10_fact 141 = .ok (.return_, 1) := by decide +kernel
theorem dX10_fact_142 : decode cX10_fact 142 = .ok (.aload_n 0, 1) := by decide +kernel
theorem dX10_fact_143 : decode cX10_fact 143 = .ok (.getfield 194, 3) := by decide +kernel
theorem dX10_fact_146 : decode cX10_fact 146 = .ok (.istore_n 2, 1) := by decide +kernel
theorem dX10_fact_147 : decode cX10_fact 147 = .ok (.aload_n 0, 1) := by decide +kernel
theorem dX10_fact_148 : decode cX10_fact 148 = .ok (.invokevirtual 207, 3) := by decide +kernel
theorem dX10_fact_151 : decode cX10_fact 151 = .ok (.aload_n 0, 1) := by decide +kernel
theorem dX10_fact_152 : decode cX10_fact 152 = .ok (.getfield 194, 3) := by decide +kernel
theorem dX10_fact_155 : decode cX10_fact 155 = .ok (.istore_n 3, 1) := by decide +kernel
theorem dX10_fact_156 : decode cX10_fact 156 = .ok (.aload_n 0, 1) := by decide +kernel
theorem dX10_fact_157 : decode cX10_fact 157 = .ok (.iconst 1, 1) := by decide +kernel
theorem dX10_fact_158 : decode cX10_fact 158 = .ok (.invokevirtual 237, 3) := by decide +kernel
theorem dX10_fact_161 : decode cX10_fact 161 = .ok (.ifCond .eq 31, 3) := by decide +kernel
theorem dX10_fact_164 : decode cX10_fact 164 = .ok (.aload_n 0, 1) := by decide +kernel
theorem dX10_fact_165 : decode cX10_fact 165 = .ok (.aload_n 0, 1) := by decide +kernel
theorem dX10_fact_166 : decode cX10_fact 166 = .ok (.iconst 5, 1) := by decide +kernel
theorem dX10_fact_167 : decode cX10_fact 167 = .ok (.iload_n 2, 1) := by decide +kernel
theorem dX10_fact_168 : decode cX10_fact 168 = .ok (.aload_n 0, 1) := by decide +kernel
theorem dX10_fact_169 : decode cX10_fact 169 = .ok (.getfield 230, 3) := by decide +kernel
theorem dX10_fact_172 : decode cX10_fact 172 = .ok (.bipush (-5), 2) := by decide +kernel
theorem dX10_fact_174 : decode cX10_fact 174 = .ok (.bipush (-5), 2) := by decide +kernel
theorem dX10_fact_176 : decode cX10_fact 176 = .ok (.invokevirtual 240, 3) := by decide +kernel
theorem dX10_fact_179 : decode cX10_fact 179 = .ok (.putfield 230, 3) := by decide +kernel
theorem dX10_fact_182 : decode cX10_fact 182 = .ok (.aload_n 0, 1) := by decide +kernel
theorem dX10_fact_183 : decode cX10_fact 183 = .ok (.getfield 71, 3) := by decide +kernel
theorem dX10_fact_186 : decode cX10_fact 186 = .ok (.aload_n 0, 1) := by decide +kernel
theorem dX10_fact_187 : decode cX10_fact 187 = .ok (.getfield 230, 3) := by decide +kernel
theorem dX10_fact_190 : decode cX10_fact 190 = .ok (.iload_n 3, 1) := by decide +kernel
theorem dX10_fact_191 : decode cX10_fact 191 = .ok (.iastore, 1) := by decide +kernel
theorem dX10_fact_192 : decode cX10_fact 192 = .ok (.return_, 1) := by decide +kernel
theorem dX10_atom_0 : decode cX10_atom 0 = .ok (.aload_n 0, 1) := by decide +kernel
theorem dX10_atom_1 : decode cX10_atom 1 = .ok (.getfield 111, 3) := by decide +kernel
theorem dX10_atom_4 : decode cX10_atom 4 = .ok (.iload_n 1, 1) := by decide +kernel
theorem dX10_atom_5 : decode cX10_atom 5 = .ok (.iaload, 1) := by decide +kernel
theorem dX10_atom_6 : decode cX10_atom 6 = .ok (.lookupswitch 64 #[(0, 26), (1, 34)], 26) := by decide +kernel
theorem dX10_atom_32 : decode cX10_atom 32 = .ok (.aload_n 0, 1) := by decide +kernel
theorem dX10_atom_33 : decode cX10_atom 33 = .ok (.iload_n 1, 1) := by decide +kernel
theorem dX10_atom_34 : decode cX10_atom 34 = .ok (.invokevirtual 244, 3) := by decide +kernel
theorem dX10_atom_37 : decode cX10_atom 37 = .ok (.goto 38, 3) := by decide +kernel
theorem dX10_atom_40 : decode cX10_atom 40 = .ok (.aload_n 0, 1) := by decide +kernel
theorem dX10_atom_41 : decode cX10_atom 41 = .ok (.dup, 1) := by decide +kernel
theorem dX10_atom_42 : decode cX10_atom 42 = .ok (.getfield 210, 3) := by decide +kernel
theorem dX10_atom_45 : decode cX10_atom 45 = .ok (.iconst 1, 1) := by decide +kernel
theorem dX10_atom_46 : decode cX10_atom 46 = .ok (.isub, 1) := by decide +kernel
theorem dX10_atom_47 : decode cX10_atom 47 = .ok (.putfield 210, 3) := by decide +kernel
theorem dX10_atom_50 : decode cX10_atom 50 = .ok (.aload_n 0, 1) := by decide +kernel
theorem dX10_atom_51 : decode cX10_atom 51 = .ok (.bipush 41, 2) := by decide +kernel
theorem dX10_atom_53 : decode cX10_atom 53 = .ok (.invokevirtual 237, 3) := by decide +kernel
theorem dX10_atom_56 : decode cX10_atom 56 = .ok (.pop, 1) := by decide +kernel
theorem dX10_atom_57 : decode cX10_atom 57 = .ok (.aload_n 0, 1) := by decide +kernel
theorem dX10_atom_58 : decode cX10_atom 58 = .ok (.dup, 1) := by decide +kernel
theorem dX10_atom_59 : decode cX10_atom 59 = .ok (.getfield 213, 3) := by decide +kernel
theorem dX10_atom_62 : decode cX10_atom 62 = .ok (.iconst 1, 1) := by decide +kernel
theorem dX10_atom_63 : decode cX10_atom 63 = .ok (.isub, 1) := by decide +kernel
theorem dX10_atom_64 : decode cX10_atom 64 = .ok (.putfield 213, 3) := by decide +kernel
theorem dX10_atom_67 : decode cX10_atom 67 = .ok (.goto 8, 3) := by decide +kernel
theorem dX10_atom_70 : decode cX10_atom 70 = .ok (.aload_n 0, 1) := by decide +kernel
theorem dX10_atom_71 : decode cX10_atom 71 = .ok (.iload_n 1, 1) := by decide +kernel
theorem dX10_atom_72 : decode cX10_atom 72 = .ok (.invokevirtual 247, 3) := by decide +kernel
theorem dX10_atom_75 : decode cX10_atom 75 = .ok (.return_, 1) := by decide +kernel
theorem dX10_begin_0 : decode cX10_begin 0 = .ok (.aload_n 0, 1) := by decide +kernel
theorem dX10_begin_1 : decode cX10_begin 1 = .ok (.invokevirtual 200, 3) := by decide +kernel
theorem dX10_begin_4 : decode cX10_begin 4 = .ok (.istore_n 2, 1) := by decide +kernel
theorem dX10_begin_5 : decode cX10_begin 5 = .ok (.iload_n 2, 1) := by decide +kernel
theorem dX10_begin_6 : decode cX10_begin 6 = .ok (.iconst 2, 1) := by decide +kernel
theorem dX10_begin_7 : decode cX10_begin 7 = .ok (.if_icmp .eq 8, 3) := by decide +kernel
theorem dX10_begin_10 : decode cX10_begin 10 = .ok (.iload_n 2, 1) := by decide +kernel
theorem dX10_begin_11 : decode cX10_begin 11 = .ok (.iconst 3, 1) := by decide +kernel
theorem dX10_begin_12 : decode cX10_begin 12 = .ok (.if_icmp .ne 48, 3) := by decide +kernel
theorem dX10_begin_15 : decode cX10_begin 15 = .ok (.aload_n 0, 1) := by decide +kernel
theorem dX10_begin_16 : decode cX10_begin 16 = .ok (.aload_n 0, 1) := by decide +kernel
theorem dX10_begin_17 : decode cX10_begin 17 = .ok (.iload_n 2, 1) := by decide +kernel
theorem dX10_begin_18 : decode cX10_begin 18 = .ok (.iconst 2, 1) := by decide +kernel
theorem dX10_begin_19 : decode cX10_begin 19 = .ok (.if_icmp .ne 7, 3) := by decide +kernel
theorem dX10_begin_22 : decode cX10_begin 22 = .ok (.iconst 0, 1) := by decide +kernel
theorem dX10_begin_23 : decode cX10_begin 23 = .ok (.goto 4, 3) := by decide +kernel
theorem dX10_begin_26 : decode cX10_begin 26 = .ok (.iconst 1, 1) := by decide +kernel
theorem dX10_begin_27 : decode cX10_begin 27 = .ok (.aload_n 0, 1) := by decide +kernel
theorem dX10_begin_28 : decode cX10_begin 28 = .ok (.getfield 194, 3) := by decide +kernel
theorem dX10_begin_31 : decode cX10_begin 31 = .ok (.bipush (-5), 2) := by decide +kernel
theorem dX10_begin_33 : decode cX10_begin 33 = .ok (.bipush (-5), 2) := by decide +kernel
theorem dX10_begin_35 : decode cX10_begin 35 = .ok (.bipush (-5), 2) := by decide +kernel
theorem dX10_begin_37 : decode cX10_begin 37 = .ok (.invokevirtual 240, 3) := by decide +kernel
theorem dX10_begin_40 : decode cX10_begin 40 = .ok (.putfield 230, 3) := by decide +kernel
theorem dX10_begin_43 : decode cX10_begin 43 = .ok (.aload_n 0, 1) := by decide +kernel
theorem dX10_begin_44 : decode cX10_begin 44 = .ok (.invokevirtual 207, 3) := by decide +kernel
theorem dX10_begin_47 : decode cX10_begin 47 = .ok (.aload_n 0, 1) := by decide +kernel
theorem dX10_begin_48 : decode cX10_begin 48 = .ok (.dup, 1) := by decide +kernel
theorem dX10_begin_49 : decode cX10_begin 49 = .ok (.getfield 213, 3) := by decide +kernel
theorem dX10_begin_52 : decode cX10_begin 52 = .ok (.iconst 1, 1) := by decide +kernel
theorem dX10_begin_53 : decode cX10_begin 53 = .ok (.isub, 1) := by decide +kernel
theorem dX10_begin_54 : decode cX10_begin 54 = .ok (.putfield 213, 3) := by decide +kernel
theorem dX10_begin_57 : decode cX10_begin 57 = .ok (.goto 160, 3) := by decide +kernel
theorem dX10_begin_60 : decode cX10_begin 60 = .ok (.iload_n 2, 1) := by decide +kernel
theorem dX10_begin_61 : decode cX10_begin 61 = .ok (.bipush 40, 2) := by decide +kernel
theorem dX10_begin_63 : decode cX10_begin 63 = .ok (.if_icmp .ne 19, 3) := by decide +kernel
theorem dX10_begin_66 : decode cX10_begin 66 = .ok (.aload_n 0, 1) := by decide +kernel
theorem dX10_begin_67 : decode cX10_begin 67 = .ok (.invokevirtual 233, 3) := by decide +kernel
theorem dX10_begin_70 : decode cX10_begin 70 = .ok (.ifCond .eq 147, 3) := by decide +kernel
theorem dX10_begin_73 : decode cX10_begin 73 = .ok (.aload_n 0, 1) := by decide +kernel
theorem dX10_begin_74 : decode cX10_begin 74 = .ok (.iconst 1, 1) := by decide +kernel
theorem dX10_begin_75 : decode cX10_begin 75 = .ok (.iconst 0, 1) := by decide +kernel
theorem dX10_begin_76 : decode cX10_begin 76 = .ok (.invokevirtual 226, 3) := by decide +kernel
theorem dX10_begin_79 : decode cX10_begin 79 = .ok (.goto 138, 3) := by decide +kernel
theorem dX10_begin_82 : decode cX10_begin 82 = .ok (.iload_n 2, 1) := by decide +kernel
theorem dX10_begin_83 : decode cX10_begin 83 = .ok (.iconst 1, 1) := by decide +kernel
theorem dX10_begin_84 : decode cX10_begin 84 = .ok (.if_icmp .ne 129, 3) := by decide +kernel
theorem dX10_begin_87 : decode cX10_begin 87 = .ok (.aload_n 0, 1) := by decide +kernel
theorem dX10_begin_88 : decode cX10_begin 88 = .ok (.aload_n 0, 1) := by decide +kernel
theorem dX10_begin_89 : decode cX10_begin 89 = .ok (.getfield 99, 3) := by decide +kernel
theorem dX10_begin_92 : decode cX10_begin 92 = .ok (.aload_n 0, 1) := by decide +kernel
theorem dX10_begin_93 : decode cX10_begin 93 = .ok (.getfield 194, 3) := by decide +kernel
theorem dX10_begin_96 : decode cX10_begin 96 = .ok (.iconst 1, 1) := by decide +kernel
theorem dX10_begin_97 : decode cX10_begin 97 = .ok (.iadd, 1) := by decide +kernel
theorem dX10_begin_98 : decode cX10_begin 98 = .ok (.iaload, 1) := by decide +kernel
theorem dX10_begin_99 : decode cX10_begin 99 = .ok (.bipush 40, 2) := by decide +kernel
theorem dX10_begin_101 : decode cX10_begin 101 = .ok (.if_icmp .ne 7, 3) := by decide +kernel
theorem dX10_begin_104 : decode cX10_begin 104 = .ok (.iconst 3, 1) := by decide +kernel
theorem dX10_begin_105 : decode cX10_begin 105 = .ok (.goto 4, 3) := by decide +kernel
theorem dX10_begin_108 : decode cX10_begin 108 = .ok (.iconst 2, 1) := by decide +kernel
theorem dX10_begin_109 : decode cX10_begin 109 = .ok (.aload_n 0, 1) := by decide +kernel
theorem dX10_begin_110 : decode cX10_begin 110 = .ok (.getfield 194, 3) := by decide +kernel
theorem dX10_begin_113 : decode cX10_begin 113 = .ok (.bipush (-5), 2) := by decide +kernel
theorem dX10_begin_115 : decode cX10_begin 115 = .ok (.bipush (-5), 2) := by decide +kernel
theorem dX10_begin_117 : decode cX10_begin 117 = .ok (.bipush (-5), 2) := by decide +kernel
theorem dX10_begin_119 : decode cX10_begin 119 = .ok (.invokevirtual 240, 3) := by decide +kernel
theorem dX10_begin_122 : decode cX10_begin 122 = .ok (.istore_n 3, 1) := by decide +kernel
theorem dX10_begin_123 : decode cX10_begin 123 = .ok (.aload_n 0, 1) := by decide +kernel
theorem dX10_begin_124 : decode cX10_begin 124 = .ok (.invokevirtual 207, 3) := by decide +kernel
theorem dX10_begin_127 : decode cX10_begin 127 = .ok (.aload_n 0, 1) := by decide +kernel
theorem dX10_begin_128 : decode cX10_begin 128 = .ok (.iload_n 3, 1) := by decide +kernel
theorem dX10_begin_129 : decode cX10_begin 129 = .ok (.putfield 230, 3) := by decide +kernel
theorem dX10_begin_132 : decode cX10_begin 132 = .ok (.aload_n 0, 1) := by decide +kernel
theorem dX10_begin_133 : decode cX10_begin 133 = .ok (.invokevirtual 200, 3) := by decide +kernel
theorem dX10_begin_136 : decode cX10_begin 136 = .ok (.bipush 40, 2) := by decide +kernel
theorem dX10_begin_138 : decode cX10_begin 138 = .ok (.if_icmp .eq 16, 3) := by decide +kernel
theorem dX10_begin_141 : decode cX10_begin 141 = .ok (.aload_n 0, 1) := by decide +kernel
theorem dX10_begin_142 : decode cX10_begin 142 = .ok (.dup, 1) := by decide +kernel
theorem dX10_begin_143 : decode cX10_begin 143 = .ok (.getfield 213, 3) := by decide +kernel
theorem dX10_begin_146 : decode cX10_begin 146 = .ok (.iconst 1, 1) := by decide +kernel
theorem dX10_begin_147 : decode cX10_begin 147 = .ok (.isub, 1) := by decide +kernel
theorem dX10_begin_148 : decode cX10_begin 148 = .ok (.putfield 213, 3) := by decide +kernel
theorem dX10_begin_151 : decode cX10_begin 151 = .ok (.goto 59, 3) := by decide +kernel
theorem dX10_begin_154 : decode cX10_begin 154 = .ok (.aload_n 0, 1) := by decide +kernel
theorem dX10_begin_155 : decode cX10_begin 155 = .ok (.invokevirtual 233, 3) := by decide +kernel
theorem dX10_begin_158 : decode cX10_begin 158 = .ok (.ifCond .eq 52, 3) := by decide +kernel
theorem dX10_begin_161 : decode cX10_begin 161 = .ok (.aload_n 0, 1) := by decide +kernel
theorem dX10_begin_162 : decode cX10_begin 162 = .ok (.getfield 114, 3) := by decide +kernel
theorem dX10_begin_165 : decode cX10_begin 165 = .ok (.iload_n 1, 1) := by decide +kernel
theorem dX10_begin_166 : decode cX10_begin 166 = .ok (.iload_n 3, 1) := by decide +kernel
theorem dX10_begin_167 : decode cX10_begin 167 = .ok (.iastore, 1) := by decide +kernel
theorem dX10_begin_168 : decode cX10_begin 168 = .ok (.aload_n 0, 1) := by decide +kernel
theorem dX10_begin_169 : decode cX10_begin 169 = .ok (.invokevirtual 200, 3) := by decide +kernel
theorem dX10_begin_172 : decode cX10_begin 172 = .ok (.bipush 41, 2) := by decide +kernel
theorem dX10_begin_174 : decode cX10_begin 174 = .ok (.if_icmp .ne 30, 3) := by decide +kernel
theorem dX10_begin_177 : decode cX10_begin 177 = .ok (.aload_n 0, 1) := by decide +kernel
theorem dX10_begin_178 : decode cX10_begin 178 = .ok (.dup, 1) := by decide +kernel
theorem dX10_begin_179 : decode cX10_begin 179 = .ok (.getfield 210, 3) := by decide +kernel
theorem dX10_begin_182 : decode cX10_begin 182 = .ok (.iconst 1, 1) := by decide +kernel
theorem dX10_begin_183 : decode cX10_begin 183 = .ok (.isub, 1) := by decide +kernel
theorem dX10_begin_184 : decode cX10_begin 184 = .ok (.putfield 210, 3) := by decide +kernel
theorem dX10_begin_187 : decode cX10_begin 187 = .ok (.aload_n 0, 1) := by decide +kernel
theorem dX10_begin_188 : decode cX10_begin 188 = .ok (.invokevirtual 207, 3) := by decide +kernel
theorem dX10_begin_191 : decode cX10_begin 191 = .ok (.aload_n 0, 1) := by decide +kernel
theorem dX10_begin_192 : decode cX10_begin 192 = .ok (.dup, 1) := by decide +kernel
theorem dX10_begin_193 : decode cX10_begin 193 = .ok (.getfield 213, 3) := by decide +kernel
theorem dX10_begin_196 : decode cX10_begin 196 = .ok (.iconst 1, 1) := by decide +kernel
theorem dX10_begin_197 : decode cX10_begin 197 = .ok (.isub, 1) := by decide +kernel
theorem dX10_begin_198 : decode cX10_begin 198 = .ok (.putfield 213, 3) := by decide +kernel
theorem dX10_begin_201 : decode cX10_begin 201 = .ok (.goto 9, 3) := by decide +kernel
theorem dX10_begin_204 : decode cX10_begin 204 = .ok (.aload_n 0, 1) := by decide +kernel
theorem dX10_begin_205 : decode cX10_begin 205 = .ok (.iconst 2, 1) := by decide +kernel
theorem dX10_begin_206 : decode cX10_begin 206 = .ok (.iconst 0, 1) := by decide +kernel
theorem dX10_begin_207 : decode cX10_begin 207 = .ok (.invokevirtual 226, 3) := by decide +kernel
theorem dX10_begin_210 : decode cX10_begin 210 = .ok (.goto 7, 3) := by decide +kernel
theorem dX10_begin_213 : decode cX10_begin 213 = .ok (.aload_n 0, 1) := by decide +kernel
theorem dX10_begin_214 : decode cX10_begin 214 = .ok (.invokevirtual 204, 3) := by decide +kernel
theorem dX10_begin_217 : decode cX10_begin 217 = .ok (.return_, 1) := by decide +kernel
theorem dX10_argument_0 : decode cX10_argument 0 = .ok (.aload_n 0, 1) := by decide +kernel
theorem dX10_argument_1 : decode cX10_argument 1 = .ok (.getfield 114, 3) := by decide +kernel
theorem dX10_argument_4 : decode cX10_argument 4 = .ok (.iload_n 1, 1) := by decide +kernel
theorem dX10_argument_5 : decode cX10_argument 5 = .ok (.iaload, 1) := by decide +kernel
theorem dX10_argument_6 : decode cX10_argument 6 = .ok (.istore_n 2, 1) := by decide +kernel
theorem dX10_argument_7 : decode cX10_argument 7 = .ok (.aload_n 0, 1) := by decide +kernel
theorem dX10_argument_8 : decode cX10_argument 8 = .ok (.getfield 59, 3) := by decide +kernel
theorem dX10_argument_11 : decode cX10_argument 11 = .ok (.iload_n 2, 1) := by decide +kernel
theorem dX10_argument_12 : decode cX10_argument 12 = .ok (.aload_n 0, 1) := by decide +kernel
theorem dX10_argument_13 : decode cX10_argument 13 = .ok (.getfield 74, 3) := by decide +kernel
theorem dX10_argument_16 : decode cX10_argument 16 = .ok (.iload_n 2, 1) := by decide +kernel
theorem dX10_argument_17 : decode cX10_argument 17 = .ok (.iaload, 1) := by decide +kernel
theorem dX10_argument_18 : decode cX10_argument 18 = .ok (.ifCond .ne 10, 3) := by decide +kernel
theorem dX10_argument_21 : decode cX10_argument 21 = .ok (.aload_n 0, 1) := by decide +kernel
theorem dX10_argument_22 : decode cX10_argument 22 = .ok (.getfield 230, 3) := by decide +kernel
theorem dX10_argument_25 : decode cX10_argument 25 = .ok (.goto 9, 3) := by decide +kernel
theorem dX10_argument_28 : decode cX10_argument 28 = .ok (.aload_n 0, 1) := by decide +kernel
theorem dX10_argument_29 : decode cX10_argument 29 = .ok (.getfield 59, 3) := by decide +kernel
theorem dX10_argument_32 : decode cX10_argument 32 = .ok (.iload_n 2, 1) := by decide +kernel
theorem dX10_argument_33 : decode cX10_argument 33 = .ok (.iaload, 1) := by decide +kernel
theorem dX10_argument_34 : decode cX10_argument 34 = .ok (.iastore, 1) := by decide +kernel
theorem dX10_argument_35 : decode cX10_argument 35 = .ok (.aload_n 0, 1) := by decide +kernel
theorem dX10_argument_36 : decode cX10_argument 36 = .ok (.getfield 62, 3) := by decide +kernel
theorem dX10_argument_39 : decode cX10_argument 39 = .ok (.iload_n 2, 1) := by decide +kernel
theorem dX10_argument_40 : decode cX10_argument 40 = .ok (.aload_n 0, 1) := by decide +kernel
theorem dX10_argument_41 : decode cX10_argument 41 = .ok (.getfield 74, 3) := by decide +kernel
theorem dX10_argument_44 : decode cX10_argument 44 = .ok (.iload_n 2, 1) := by decide +kernel
theorem dX10_argument_45 : decode cX10_argument 45 = .ok (.iaload, 1) := by decide +kernel
theorem dX10_argument_46 : decode cX10_argument 46 = .ok (.iconst 1, 1) := by decide +kernel
theorem dX10_argument_47 : decode cX10_argument 47 = .ok (.if_icmp .ne 10, 3) := by decide +kernel
theorem dX10_argument_50 : decode cX10_argument 50 = .ok (.aload_n 0, 1) := by decide +kernel
theorem dX10_argument_51 : decode cX10_argument 51 = .ok (.getfield 230, 3) := by decide +kernel
theorem dX10_argument_54 : decode cX10_argument 54 = .ok (.goto 9, 3) := by decide +kernel
theorem dX10_argument_57 : decode cX10_argument 57 = .ok (.aload_n 0, 1) := by decide +kernel
theorem dX10_argument_58 : decode cX10_argument 58 = .ok (.getfield 62, 3) := by decide +kernel
theorem dX10_argument_61 : decode cX10_argument 61 = .ok (.iload_n 2, 1) := by decide +kernel
theorem dX10_argument_62 : decode cX10_argument 62 = .ok (.iaload, 1) := by decide +kernel
theorem dX10_argument_63 : decode cX10_argument 63 = .ok (.iastore, 1) := by decide +kernel
theorem dX10_argument_64 : decode cX10_argument 64 = .ok (.aload_n 0, 1) := by decide +kernel
theorem dX10_argument_65 : decode cX10_argument 65 = .ok (.getfield 65, 3) := by decide +kernel
theorem dX10_argument_68 : decode cX10_argument 68 = .ok (.iload_n 2, 1) := by decide +kernel
theorem dX10_argument_69 : decode cX10_argument 69 = .ok (.aload_n 0, 1) := by decide +kernel
theorem dX10_argument_70 : decode cX10_argument 70 = .ok (.getfield 74, 3) := by decide +kernel
theorem dX10_argument_73 : decode cX10_argument 73 = .ok (.iload_n 2, 1) := by decide +kernel
theorem dX10_argument_74 : decode cX10_argument 74 = .ok (.iaload, 1) := by decide +kernel
theorem dX10_argument_75 : decode cX10_argument 75 = .ok (.iconst 2, 1) := by decide +kernel
theorem dX10_argument_76 : decode cX10_argument 76 = .ok (.if_icmp .ne 10, 3) := by decide +kernel
theorem dX10_argument_79 : decode cX10_argument 79 = .ok (.aload_n 0, 1) := by decide +kernel
theorem dX10_argument_80 : decode cX10_argument 80 = .ok (.getfield 230, 3) := by decide +kernel
theorem dX10_argument_83 : decode cX10_argument 83 = .ok (.goto 9, 3) := by decide +kernel
theorem dX10_argument_86 : decode cX10_argument 86 = .ok (.aload_n 0, 1) := by decide +kernel
theorem dX10_argument_87 : decode cX10_argument 87 = .ok (.getfield 65, 3) := by decide +kernel
theorem dX10_argument_90 : decode cX10_argument 90 = .ok (.iload_n 2, 1) := by decide +kernel
theorem dX10_argument_91 : decode cX10_argument 91 = .ok (.iaload, 1) := by decide +kernel
theorem dX10_argument_92 : decode cX10_argument 92 = .ok (.iastore, 1) := by decide +kernel
theorem dX10_argument_93 : decode cX10_argument 93 = .ok (.aload_n 0, 1) := by decide +kernel
theorem dX10_argument_94 : decode cX10_argument 94 = .ok (.getfield 74, 3) := by decide +kernel
theorem dX10_argument_97 : decode cX10_argument 97 = .ok (.iload_n 2, 1) := by decide +kernel
theorem dX10_argument_98 : decode cX10_argument 98 = .ok (.dup2, 1) := by decide +kernel
theorem dX10_argument_99 : decode cX10_argument 99 = .ok (.iaload, 1) := by decide +kernel
theorem dX10_argument_100 : decode cX10_argument 100 = .ok (.iconst 1, 1) := by decide +kernel
theorem dX10_argument_101 : decode cX10_argument 101 = .ok (.iadd, 1) := by decide +kernel
theorem dX10_argument_102 : decode cX10_argument 102 = .ok (.iastore, 1) := by decide +kernel
theorem dX10_argument_103 : decode cX10_argument 103 = .ok (.aload_n 0, 1) := by decide +kernel
theorem dX10_argument_104 : decode cX10_argument 104 = .ok (.invokevirtual 200, 3) := by decide +kernel
theorem dX10_argument_107 : decode cX10_argument 107 = .ok (.bipush 44, 2) := by decide +kernel
theorem dX10_argument_109 : decode cX10_argument 109 = .ok (.if_icmp .ne 26, 3) := by decide +kernel
theorem dX10_argument_112 : decode cX10_argument 112 = .ok (.aload_n 0, 1) := by decide +kernel
theorem dX10_argument_113 : decode cX10_argument 113 = .ok (.getfield 74, 3) := by decide +kernel
theorem dX10_argument_116 : decode cX10_argument 116 = .ok (.iload_n 2, 1) := by decide +kernel
theorem dX10_argument_117 : decode cX10_argument 117 = .ok (.iaload, 1) := by decide +kernel
theorem dX10_argument_118 : decode cX10_argument 118 = .ok (.iconst 3, 1) := by decide +kernel
theorem dX10_argument_119 : decode cX10_argument 119 = .ok (.if_icmp .ge 16, 3) := by decide +kernel
theorem dX10_argument_122 : decode cX10_argument 122 = .ok (.aload_n 0, 1) := by decide +kernel
theorem dX10_argument_123 : decode cX10_argument 123 = .ok (.invokevirtual 207, 3) := by decide +kernel
theorem dX10_argument_126 : decode cX10_argument 126 = .ok (.aload_n 0, 1) := by decide +kernel
theorem dX10_argument_127 : decode cX10_argument 127 = .ok (.iconst 2, 1) := by decide +kernel
theorem dX10_argument_128 : decode cX10_argument 128 = .ok (.iconst 0, 1) := by decide +kernel
theorem dX10_argument_129 : decode cX10_argument 129 = .ok (.invokevirtual 226, 3) := by decide +kernel
theorem dX10_argument_132 : decode cX10_argument 132 = .ok (.goto 35, 3) := by decide +kernel
theorem dX10_argument_135 : decode cX10_argument 135 = .ok (.aload_n 0, 1) := by decide +kernel
theorem dX10_argument_136 : decode cX10_argument 136 = .ok (.dup, 1) := by decide +kernel
theorem dX10_argument_137 : decode cX10_argument 137 = .ok (.getfield 210, 3) := by decide +kernel
theorem dX10_argument_140 : decode cX10_argument 140 = .ok (.iconst 1, 1) := by decide +kernel
theorem dX10_argument_141 : decode cX10_argument 141 = .ok (.isub, 1) := by decide +kernel
theorem dX10_argument_142 : decode cX10_argument 142 = .ok (.putfield 210, 3) := by decide +kernel
theorem dX10_argument_145 : decode cX10_argument 145 = .ok (.aload_n 0, 1) := by decide +kernel
theorem dX10_argument_146 : decode cX10_argument 146 = .ok (.iload_n 2, 1) := by decide +kernel
theorem dX10_argument_147 : decode cX10_argument 147 = .ok (.putfield 230, 3) := by decide +kernel
theorem dX10_argument_150 : decode cX10_argument 150 = .ok (.aload_n 0, 1) := by decide +kernel
theorem dX10_argument_151 : decode cX10_argument 151 = .ok (.bipush 41, 2) := by decide +kernel
theorem dX10_argument_153 : decode cX10_argument 153 = .ok (.invokevirtual 237, 3) := by decide +kernel
theorem dX10_argument_156 : decode cX10_argument 156 = .ok (.pop, 1) := by decide +kernel
theorem dX10_argument_157 : decode cX10_argument 157 = .ok (.aload_n 0, 1) := by decide +kernel
theorem dX10_argument_158 : decode cX10_argument 158 = .ok (.dup, 1) := by decide +kernel
theorem dX10_argument_159 : decode cX10_argument 159 = .ok (.getfield 213, 3) := by decide +kernel
theorem dX10_argument_162 : decode cX10_argument 162 = .ok (.iconst 1, 1) := by decide +kernel
theorem dX10_argument_163 : decode cX10_argument 163 = .ok (.isub, 1) := by decide +kernel
theorem dX10_argument_164 : decode cX10_argument 164 = .ok (.putfield 213, 3) := by decide +kernel
theorem dX10_argument_167 : decode cX10_argument 167 = .ok (.return_, 1) := by decide +kernel
theorem dX10_readExpr_0 : decode cX10_readExpr 0 = .ok (.aload_n 0, 1) := by decide +kernel
theorem dX10_readExpr_1 : decode cX10_readExpr 1 = .ok (.iconst 0, 1) := by decide +kernel
theorem dX10_readExpr_2 : decode cX10_readExpr 2 = .ok (.putfield 213, 3) := by decide +kernel
theorem dX10_readExpr_5 : decode cX10_readExpr 5 = .ok (.aload_n 0, 1) := by decide +kernel
theorem dX10_readExpr_6 : decode cX10_readExpr 6 = .ok (.iconst 0, 1) := by decide +kernel
theorem dX10_readExpr_7 : decode cX10_readExpr 7 = .ok (.invokevirtual 216, 3) := by decide +kernel
theorem dX10_readExpr_10 : decode cX10_readExpr 10 = .ok (.aload_n 0, 1) := by decide +kernel
theorem dX10_readExpr_11 : decode cX10_readExpr 11 = .ok (.getfield 213, 3) := by decide +kernel
theorem dX10_readExpr_14 : decode cX10_readExpr 14 = .ok (.ifCond .le 190, 3) := by decide +kernel
theorem dX10_readExpr_17 : decode cX10_readExpr 17 = .ok (.aload_n 0, 1) := by decide +kernel
theorem dX10_readExpr_18 : decode cX10_readExpr 18 = .ok (.getfield 197, 3) := by decide +kernel
theorem dX10_readExpr_21 : decode cX10_readExpr 21 = .ok (.ifCond .ge 183, 3) := by decide +kernel
theorem dX10_readExpr_24 : decode cX10_readExpr 24 = .ok (.aload_n 0, 1) := by decide +kernel
theorem dX10_readExpr_25 : decode cX10_readExpr 25 = .ok (.getfield 213, 3) := by decide +kernel
theorem dX10_readExpr_28 : decode cX10_readExpr 28 = .ok (.iconst 1, 1) := by decide +kernel
theorem dX10_readExpr_29 : decode cX10_readExpr 29 = .ok (.isub, 1) := by decide +kernel
theorem dX10_readExpr_30 : decode cX10_readExpr 30 = .ok (.istore_n 1, 1) := by decide +kernel
theorem dX10_readExpr_31 : decode cX10_readExpr 31 = .ok (.aload_n 0, 1) := by decide +kernel
theorem dX10_readExpr_32 : decode cX10_readExpr 32 = .ok (.getfield 108, 3) := by decide +kernel
theorem dX10_readExpr_35 : decode cX10_readExpr 35 = .ok (.iload_n 1, 1) := by decide +kernel
theorem dX10_readExpr_36 : decode cX10_readExpr 36 = .ok (.iaload, 1) := by decide +kernel
theorem dX10_readExpr_37 : decode cX10_readExpr 37 = .ok (.tableswitch 159 0 4 #[35, 43, 76, 109, 151], 35) := by decide +kernel
theorem dX10_readExpr_72 : decode cX10_readExpr 72 = .ok (.aload_n 0, 1) := by decide +kernel
theorem dX10_readExpr_73 : decode cX10_readExpr 73 = .ok (.iload_n 1, 1) := by decide +kernel
theorem dX10_readExpr_74 : decode cX10_readExpr 74 = .ok (.invokevirtual 250, 3) := by decide +kernel
theorem dX10_readExpr_77 : decode cX10_readExpr 77 = .ok (.goto 124, 3) := by decide +kernel
theorem dX10_readExpr_80 : decode cX10_readExpr 80 = .ok (.aload_n 0, 1) := by decide +kernel
theorem dX10_readExpr_81 : decode cX10_readExpr 81 = .ok (.iload_n 1, 1) := by decide +kernel
theorem dX10_readExpr_82 : decode cX10_readExpr 82 = .ok (.iconst 2, 1) := by decide +kernel
theorem dX10_readExpr_83 : decode cX10_readExpr 83 = .ok (.aload_n 0, 1) := by decide +kernel
theorem dX10_readExpr_84 : decode cX10_readExpr 84 = .ok (.invokevirtual 200, 3) := by decide +kernel
theorem dX10_readExpr_87 : decode cX10_readExpr 87 = .ok (.bipush 60, 2) := by decide +kernel
theorem dX10_readExpr_89 : decode cX10_readExpr 89 = .ok (.if_icmp .eq 12, 3) := by decide +kernel
theorem dX10_readExpr_92 : decode cX10_readExpr 92 = .ok (.aload_n 0, 1) := by decide +kernel
theorem dX10_readExpr_93 : decode cX10_readExpr 93 = .ok (.invokevirtual 200, 3) := by decide +kernel
theorem dX10_readExpr_96 : decode cX10_readExpr 96 = .ok (.bipush 61, 2) := by decide +kernel
theorem dX10_readExpr_98 : decode cX10_readExpr 98 = .ok (.if_icmp .ne 7, 3) := by decide +kernel
theorem dX10_readExpr_101 : decode cX10_readExpr 101 = .ok (.iconst 1, 1) := by decide +kernel
theorem dX10_readExpr_102 : decode cX10_readExpr 102 = .ok (.goto 4, 3) := by decide +kernel
theorem dX10_readExpr_105 : decode cX10_readExpr 105 = .ok (.iconst 0, 1) := by decide +kernel
theorem dX10_readExpr_106 : decode cX10_readExpr 106 = .ok (.iconst 1, 1) := by decide +kernel
theorem dX10_readExpr_107 : decode cX10_readExpr 107 = .ok (.invokevirtual 253, 3) := by decide +kernel
theorem dX10_readExpr_110 : decode cX10_readExpr 110 = .ok (.goto 91, 3) := by decide +kernel
theorem dX10_readExpr_113 : decode cX10_readExpr 113 = .ok (.aload_n 0, 1) := by decide +kernel
theorem dX10_readExpr_114 : decode cX10_readExpr 114 = .ok (.iload_n 1, 1) := by decide +kernel
theorem dX10_readExpr_115 : decode cX10_readExpr 115 = .ok (.iconst 3, 1) := by decide +kernel
theorem dX10_readExpr_116 : decode cX10_readExpr 116 = .ok (.aload_n 0, 1) := by decide +kernel
theorem dX10_readExpr_117 : decode cX10_readExpr 117 = .ok (.invokevirtual 200, 3) := by decide +kernel
theorem dX10_readExpr_120 : decode cX10_readExpr 120 = .ok (.bipush 43, 2) := by decide +kernel
theorem dX10_readExpr_122 : decode cX10_readExpr 122 = .ok (.if_icmp .eq 12, 3) := by decide +kernel
theorem dX10_readExpr_125 : decode cX10_readExpr 125 = .ok (.aload_n 0, 1) := by decide +kernel
theorem dX10_readExpr_126 : decode cX10_readExpr 126 = .ok (.invokevirtual 200, 3) := by decide +kernel
theorem dX10_readExpr_129 : decode cX10_readExpr 129 = .ok (.bipush 45, 2) := by decide +kernel
theorem dX10_readExpr_131 : decode cX10_readExpr 131 = .ok (.if_icmp .ne 7, 3) := by decide +kernel
theorem dX10_readExpr_134 : decode cX10_readExpr 134 = .ok (.iconst 1, 1) := by decide +kernel
theorem dX10_readExpr_135 : decode cX10_readExpr 135 = .ok (.goto 4, 3) := by decide +kernel
theorem dX10_readExpr_138 : decode cX10_readExpr 138 = .ok (.iconst 0, 1) := by decide +kernel
theorem dX10_readExpr_139 : decode cX10_readExpr 139 = .ok (.iconst 0, 1) := by decide +kernel
theorem dX10_readExpr_140 : decode cX10_readExpr 140 = .ok (.invokevirtual 253, 3) := by decide +kernel
theorem dX10_readExpr_143 : decode cX10_readExpr 143 = .ok (.goto 58, 3) := by decide +kernel
theorem dX10_readExpr_146 : decode cX10_readExpr 146 = .ok (.aload_n 0, 1) := by decide +kernel
theorem dX10_readExpr_147 : decode cX10_readExpr 147 = .ok (.iload_n 1, 1) := by decide +kernel
theorem dX10_readExpr_148 : decode cX10_readExpr 148 = .ok (.iconst 4, 1) := by decide +kernel
theorem dX10_readExpr_149 : decode cX10_readExpr 149 = .ok (.aload_n 0, 1) := by decide +kernel
theorem dX10_readExpr_150 : decode cX10_readExpr 150 = .ok (.invokevirtual 200, 3) := by decide +kernel
theorem dX10_readExpr_153 : decode cX10_readExpr 153 = .ok (.bipush 42, 2) := by decide +kernel
theorem dX10_readExpr_155 : decode cX10_readExpr 155 = .ok (.if_icmp .eq 21, 3) := by decide +kernel
theorem dX10_readExpr_158 : decode cX10_readExpr 158 = .ok (.aload_n 0, 1) := by decide +kernel
theorem dX10_readExpr_159 : decode cX10_readExpr 159 = .ok (.invokevirtual 200, 3) := by decide +kernel
theorem dX10_readExpr_162 : decode cX10_readExpr 162 = .ok (.bipush 47, 2) := by decide +kernel
theorem dX10_readExpr_164 : decode cX10_readExpr 164 = .ok (.if_icmp .eq 12, 3) := by decide +kernel
theorem dX10_readExpr_167 : decode cX10_readExpr 167 = .ok (.aload_n 0, 1) := by decide +kernel
theorem dX10_readExpr_168 : decode cX10_readExpr 168 = .ok (.invokevirtual 200, 3) := by decide +kernel
theorem dX10_readExpr_171 : decode cX10_readExpr 171 = .ok (.bipush 37, 2) := by decide +kernel
theorem dX10_readExpr_173 : decode cX10_readExpr 173 = .ok (.if_icmp .ne 7, 3) := by decide +kernel
theorem dX10_readExpr_176 : decode cX10_readExpr 176 = .ok (.iconst 1, 1) := by decide +kernel
theorem dX10_readExpr_177 : decode cX10_readExpr 177 = .ok (.goto 4, 3) := by decide +kernel
theorem dX10_readExpr_180 : decode cX10_readExpr 180 = .ok (.iconst 0, 1) := by decide +kernel
theorem dX10_readExpr_181 : decode cX10_readExpr 181 = .ok (.iconst 0, 1) := by decide +kernel
theorem dX10_readExpr_182 : decode cX10_readExpr 182 = .ok (.invokevirtual 253, 3) := by decide +kernel
theorem dX10_readExpr_185 : decode cX10_readExpr 185 = .ok (.goto 16, 3) := by decide +kernel
theorem dX10_readExpr_188 : decode cX10_readExpr 188 = .ok (.aload_n 0, 1) := by decide +kernel
theorem dX10_readExpr_189 : decode cX10_readExpr 189 = .ok (.iload_n 1, 1) := by decide +kernel
theorem dX10_readExpr_190 : decode cX10_readExpr 190 = .ok (.invokevirtual 257, 3) := by decide +kernel
theorem dX10_readExpr_193 : decode cX10_readExpr 193 = .ok (.goto 8, 3) := by decide +kernel
theorem dX10_readExpr_196 : decode cX10_readExpr 196 = .ok (.aload_n 0, 1) := by decide +kernel
theorem dX10_readExpr_197 : decode cX10_readExpr 197 = .ok (.iload_n 1, 1) := by decide +kernel
theorem dX10_readExpr_198 : decode cX10_readExpr 198 = .ok (.invokevirtual 260, 3) := by decide +kernel
theorem dX10_readExpr_201 : decode cX10_readExpr 201 = .ok (.goto (-191), 3) := by decide +kernel
theorem dX10_readExpr_204 : decode cX10_readExpr 204 = .ok (.aload_n 0, 1) := by decide +kernel
theorem dX10_readExpr_205 : decode cX10_readExpr 205 = .ok (.getfield 47, 3) := by decide +kernel
theorem dX10_readExpr_208 : decode cX10_readExpr 208 = .ok (.aload_n 0, 1) := by decide +kernel
theorem dX10_readExpr_209 : decode cX10_readExpr 209 = .ok (.getfield 220, 3) := by decide +kernel
theorem dX10_readExpr_212 : decode cX10_readExpr 212 = .ok (.aload_n 0, 1) := by decide +kernel
theorem dX10_readExpr_213 : decode cX10_readExpr 213 = .ok (.getfield 230, 3) := by decide +kernel
theorem dX10_readExpr_216 : decode cX10_readExpr 216 = .ok (.iastore, 1) := by decide +kernel
theorem dX10_readExpr_217 : decode cX10_readExpr 217 = .ok (.return_, 1) := by decide +kernel
theorem dX10_readParams_0 : decode cX10_readParams 0 = .ok (.aload_n 0, 1) := by decide +kernel
theorem dX10_readParams_1 : decode cX10_readParams 1 = .ok (.getfield 197, 3) := by decide +kernel
theorem dX10_readParams_4 : decode cX10_readParams 4 = .ok (.ifCond .ge 12, 3) := by decide +kernel
theorem dX10_readParams_7 : decode cX10_readParams 7 = .ok (.aload_n 0, 1) := by decide +kernel
theorem dX10_readParams_8 : decode cX10_readParams 8 = .ok (.invokevirtual 200, 3) := by decide +kernel
theorem dX10_readParams_11 : decode cX10_readParams 11 = .ok (.bipush 40, 2) := by decide +kernel
theorem dX10_readParams_13 : decode cX10_readParams 13 = .ok (.if_icmp .eq 8, 3) := by decide +kernel
theorem dX10_readParams_16 : decode cX10_readParams 16 = .ok (.aload_n 0, 1) := by decide +kernel
theorem dX10_readParams_17 : decode cX10_readParams 17 = .ok (.invokevirtual 204, 3) := by decide +kernel
theorem dX10_readParams_20 : decode cX10_readParams 20 = .ok (.return_, 1) := by decide +kernel
theorem dX10_readParams_21 : decode cX10_readParams 21 = .ok (.aload_n 0, 1) := by decide +kernel
theorem dX10_readParams_22 : decode cX10_readParams 22 = .ok (.invokevirtual 233, 3) := by decide +kernel
theorem dX10_readParams_25 : decode cX10_readParams 25 = .ok (.pop, 1) := by decide +kernel
theorem dX10_readParams_26 : decode cX10_readParams 26 = .ok (.iconst 0, 1) := by decide +kernel
theorem dX10_readParams_27 : decode cX10_readParams 27 = .ok (.istore_n 2, 1) := by decide +kernel
theorem dX10_readParams_28 : decode cX10_readParams 28 = .ok (.iload_n 1, 1) := by decide +kernel
theorem dX10_readParams_29 : decode cX10_readParams 29 = .ok (.ifCond .ne 12, 3) := by decide +kernel
theorem dX10_readParams_32 : decode cX10_readParams 32 = .ok (.aload_n 0, 1) := by decide +kernel
theorem dX10_readParams_33 : decode cX10_readParams 33 = .ok (.invokevirtual 200, 3) := by decide +kernel
theorem dX10_readParams_36 : decode cX10_readParams 36 = .ok (.bipush 41, 2) := by decide +kernel
theorem dX10_readParams_38 : decode cX10_readParams 38 = .ok (.if_icmp .eq 7, 3) := by decide +kernel
theorem dX10_readParams_41 : decode cX10_readParams 41 = .ok (.iconst 1, 1) := by decide +kernel
theorem dX10_readParams_42 : decode cX10_readParams 42 = .ok (.goto 4, 3) := by decide +kernel
theorem dX10_readParams_45 : decode cX10_readParams 45 = .ok (.iconst 0, 1) := by decide +kernel
theorem dX10_readParams_46 : decode cX10_readParams 46 = .ok (.istore_n 3, 1) := by decide +kernel
theorem dX10_readParams_47 : decode cX10_readParams 47 = .ok (.iload_n 3, 1) := by decide +kernel
theorem dX10_readParams_48 : decode cX10_readParams 48 = .ok (.ifCond .eq 128, 3) := by decide +kernel
theorem dX10_readParams_51 : decode cX10_readParams 51 = .ok (.aload_n 0, 1) := by decide +kernel
theorem dX10_readParams_52 : decode cX10_readParams 52 = .ok (.getfield 197, 3) := by decide +kernel
theorem dX10_readParams_55 : decode cX10_readParams 55 = .ok (.ifCond .ge 121, 3) := by decide +kernel
theorem dX10_readParams_58 : decode cX10_readParams 58 = .ok (.aload_n 0, 1) := by decide +kernel
theorem dX10_readParams_59 : decode cX10_readParams 59 = .ok (.invokevirtual 200, 3) := by decide +kernel
theorem dX10_readParams_62 : decode cX10_readParams 62 = .ok (.iconst 1, 1) := by decide +kernel
theorem dX10_readParams_63 : decode cX10_readParams 63 = .ok (.if_icmp .eq 7, 3) := by decide +kernel
theorem dX10_readParams_66 : decode cX10_readParams 66 = .ok (.aload_n 0, 1) := by decide +kernel
theorem dX10_readParams_67 : decode cX10_readParams 67 = .ok (.invokevirtual 204, 3) := by decide +kernel
theorem dX10_readParams_70 : decode cX10_readParams 70 = .ok (.iconst 0, 1) := by decide +kernel
theorem dX10_readParams_71 : decode cX10_readParams 71 = .ok (.istore 4, 2) := by decide +kernel
theorem dX10_readParams_73 : decode cX10_readParams 73 = .ok (.iload 4, 2) := by decide +kernel
theorem dX10_readParams_75 : decode cX10_readParams 75 = .ok (.iload_n 2, 1) := by decide +kernel
theorem dX10_readParams_76 : decode cX10_readParams 76 = .ok (.if_icmp .ge 45, 3) := by decide +kernel
theorem dX10_readParams_79 : decode cX10_readParams 79 = .ok (.aload_n 0, 1) := by decide +kernel
theorem dX10_readParams_80 : decode cX10_readParams 80 = .ok (.getfield 197, 3) := by decide +kernel
theorem dX10_readParams_83 : decode cX10_readParams 83 = .ok (.ifCond .ge 38, 3) := by decide +kernel
theorem dX10_readParams_86 : decode cX10_readParams 86 = .ok (.aload_n 0, 1) := by decide +kernel
theorem dX10_readParams_87 : decode cX10_readParams 87 = .ok (.getfield 105, 3) := by decide +kernel
theorem dX10_readParams_90 : decode cX10_readParams 90 = .ok (.aload_n 0, 1) := by decide +kernel
theorem dX10_readParams_91 : decode cX10_readParams 91 = .ok (.getfield 126, 3) := by decide +kernel
theorem dX10_readParams_94 : decode cX10_readParams 94 = .ok (.iload 4, 2) := by decide +kernel
theorem dX10_readParams_96 : decode cX10_readParams 96 = .ok (.iaload, 1) := by decide +kernel
theorem dX10_readParams_97 : decode cX10_readParams 97 = .ok (.laload, 1) := by decide +kernel
theorem dX10_readParams_98 : decode cX10_readParams 98 = .ok (.aload_n 0, 1) := by decide +kernel
theorem dX10_readParams_99 : decode cX10_readParams 99 = .ok (.getfield 105, 3) := by decide +kernel
theorem dX10_readParams_102 : decode cX10_readParams 102 = .ok (.aload_n 0, 1) := by decide +kernel
theorem dX10_readParams_103 : decode cX10_readParams 103 = .ok (.getfield 194, 3) := by decide +kernel
theorem dX10_readParams_106 : decode cX10_readParams 106 = .ok (.laload, 1) := by decide +kernel
theorem dX10_readParams_107 : decode cX10_readParams 107 = .ok (.lcmp, 1) := by decide +kernel
theorem dX10_readParams_108 : decode cX10_readParams 108 = .ok (.ifCond .ne 7, 3) := by decide +kernel
theorem dX10_readParams_111 : decode cX10_readParams 111 = .ok (.aload_n 0, 1) := by decide +kernel
theorem dX10_readParams_112 : decode cX10_readParams 112 = .ok (.invokevirtual 204, 3) := by decide +kernel
theorem dX10_readParams_115 : decode cX10_readParams 115 = .ok (.iinc 4 1, 3) := by decide +kernel
theorem dX10_readParams_118 : decode cX10_readParams 118 = .ok (.goto (-45), 3) := by decide +kernel
theorem dX10_readParams_121 : decode cX10_readParams 121 = .ok (.aload_n 0, 1) := by decide +kernel
theorem dX10_readParams_122 : decode cX10_readParams 122 = .ok (.getfield 197, 3) := by decide +kernel
theorem dX10_readParams_125 : decode cX10_readParams 125 = .ok (.ifCond .ge (-78), 3) := by decide +kernel
theorem dX10_readParams_128 : decode cX10_readParams 128 = .ok (.aload_n 0, 1) := by decide +kernel
theorem dX10_readParams_129 : decode cX10_readParams 129 = .ok (.getfield 126, 3) := by decide +kernel
theorem dX10_readParams_132 : decode cX10_readParams 132 = .ok (.iload_n 2, 1) := by decide +kernel
theorem dX10_readParams_133 : decode cX10_readParams 133 = .ok (.aload_n 0, 1) := by decide +kernel
theorem dX10_readParams_134 : decode cX10_readParams 134 = .ok (.getfield 194, 3) := by decide +kernel
theorem dX10_readParams_137 : decode cX10_readParams 137 = .ok (.iastore, 1) := by decide +kernel
theorem dX10_readParams_138 : decode cX10_readParams 138 = .ok (.iinc 2 1, 3) := by decide +kernel
theorem dX10_readParams_141 : decode cX10_readParams 141 = .ok (.aload_n 0, 1) := by decide +kernel
theorem dX10_readParams_142 : decode cX10_readParams 142 = .ok (.invokevirtual 207, 3) := by decide +kernel
theorem dX10_readParams_145 : decode cX10_readParams 145 = .ok (.aload_n 0, 1) := by decide +kernel
theorem dX10_readParams_146 : decode cX10_readParams 146 = .ok (.invokevirtual 200, 3) := by decide +kernel
theorem dX10_readParams_149 : decode cX10_readParams 149 = .ok (.bipush 44, 2) := by decide +kernel
theorem dX10_readParams_151 : decode cX10_readParams 151 = .ok (.if_icmp .ne 12, 3) := by decide +kernel
theorem dX10_readParams_154 : decode cX10_readParams 154 = .ok (.iload_n 2, 1) := by decide +kernel
theorem dX10_readParams_155 : decode cX10_readParams 155 = .ok (.iconst 3, 1) := by decide +kernel
theorem dX10_readParams_156 : decode cX10_readParams 156 = .ok (.if_icmp .ge 7, 3) := by decide +kernel
theorem dX10_readParams_159 : decode cX10_readParams 159 = .ok (.iconst 1, 1) := by decide +kernel
theorem dX10_readParams_160 : decode cX10_readParams 160 = .ok (.goto 4, 3) := by decide +kernel
theorem dX10_readParams_163 : decode cX10_readParams 163 = .ok (.iconst 0, 1) := by decide +kernel
theorem dX10_readParams_164 : decode cX10_readParams 164 = .ok (.istore_n 3, 1) := by decide +kernel
theorem dX10_readParams_165 : decode cX10_readParams 165 = .ok (.iload_n 3, 1) := by decide +kernel
theorem dX10_readParams_166 : decode cX10_readParams 166 = .ok (.ifCond .eq (-119), 3) := by decide +kernel
theorem dX10_readParams_169 : decode cX10_readParams 169 = .ok (.aload_n 0, 1) := by decide +kernel
theorem dX10_readParams_170 : decode cX10_readParams 170 = .ok (.invokevirtual 207, 3) := by decide +kernel
theorem dX10_readParams_173 : decode cX10_readParams 173 = .ok (.goto (-126), 3) := by decide +kernel
theorem dX10_readParams_176 : decode cX10_readParams 176 = .ok (.aload_n 0, 1) := by decide +kernel
theorem dX10_readParams_177 : decode cX10_readParams 177 = .ok (.getfield 38, 3) := by decide +kernel
theorem dX10_readParams_180 : decode cX10_readParams 180 = .ok (.aload_n 0, 1) := by decide +kernel
theorem dX10_readParams_181 : decode cX10_readParams 181 = .ok (.getfield 220, 3) := by decide +kernel
theorem dX10_readParams_184 : decode cX10_readParams 184 = .ok (.iload_n 2, 1) := by decide +kernel
theorem dX10_readParams_185 : decode cX10_readParams 185 = .ok (.iastore, 1) := by decide +kernel
theorem dX10_readParams_186 : decode cX10_readParams 186 = .ok (.aload_n 0, 1) := by decide +kernel
theorem dX10_readParams_187 : decode cX10_readParams 187 = .ok (.dup, 1) := by decide +kernel
theorem dX10_readParams_188 : decode cX10_readParams 188 = .ok (.getfield 210, 3) := by decide +kernel
theorem dX10_readParams_191 : decode cX10_readParams 191 = .ok (.iconst 1, 1) := by decide +kernel
theorem dX10_readParams_192 : decode cX10_readParams 192 = .ok (.isub, 1) := by decide +kernel
theorem dX10_readParams_193 : decode cX10_readParams 193 = .ok (.putfield 210, 3) := by decide +kernel
theorem dX10_readParams_196 : decode cX10_readParams 196 = .ok (.aload_n 0, 1) := by decide +kernel
theorem dX10_readParams_197 : decode cX10_readParams 197 = .ok (.bipush 41, 2) := by decide +kernel
theorem dX10_readParams_199 : decode cX10_readParams 199 = .ok (.invokevirtual 237, 3) := by decide +kernel
theorem dX10_readParams_202 : decode cX10_readParams 202 = .ok (.pop, 1) := by decide +kernel
theorem dX10_readParams_203 : decode cX10_readParams 203 = .ok (.return_, 1) := by decide +kernel
theorem dX10_read_0 : decode cX10_read 0 = .ok (.aload_n 0, 1) := by decide +kernel
theorem dX10_read_1 : decode cX10_read 1 = .ok (.invokevirtual 263, 3) := by decide +kernel
theorem dX10_read_4 : decode cX10_read 4 = .ok (.aload_n 0, 1) := by decide +kernel
theorem dX10_read_5 : decode cX10_read 5 = .ok (.iconst 0, 1) := by decide +kernel
theorem dX10_read_6 : decode cX10_read 6 = .ok (.putfield 194, 3) := by decide +kernel
theorem dX10_read_9 : decode cX10_read 9 = .ok (.aload_n 0, 1) := by decide +kernel
theorem dX10_read_10 : decode cX10_read 10 = .ok (.iconst (-1), 1) := by decide +kernel
theorem dX10_read_11 : decode cX10_read 11 = .ok (.putfield 197, 3) := by decide +kernel
theorem dX10_read_14 : decode cX10_read 14 = .ok (.aload_n 0, 1) := by decide +kernel
theorem dX10_read_15 : decode cX10_read 15 = .ok (.iconst 0, 1) := by decide +kernel
theorem dX10_read_16 : decode cX10_read 16 = .ok (.putfield 210, 3) := by decide +kernel
theorem dX10_read_19 : decode cX10_read 19 = .ok (.aload_n 0, 1) := by decide +kernel
theorem dX10_read_20 : decode cX10_read 20 = .ok (.iconst 0, 1) := by decide +kernel
theorem dX10_read_21 : decode cX10_read 21 = .ok (.putfield 223, 3) := by decide +kernel
theorem dX10_read_24 : decode cX10_read 24 = .ok (.aload_n 0, 1) := by decide +kernel
theorem dX10_read_25 : decode cX10_read 25 = .ok (.getfield 38, 3) := by decide +kernel
theorem dX10_read_28 : decode cX10_read 28 = .ok (.aload_n 0, 1) := by decide +kernel
theorem dX10_read_29 : decode cX10_read 29 = .ok (.getfield 220, 3) := by decide +kernel
theorem dX10_read_32 : decode cX10_read 32 = .ok (.iconst 0, 1) := by decide +kernel
theorem dX10_read_33 : decode cX10_read 33 = .ok (.iastore, 1) := by decide +kernel
theorem dX10_read_34 : decode cX10_read 34 = .ok (.aload_n 0, 1) := by decide +kernel
theorem dX10_read_35 : decode cX10_read 35 = .ok (.getfield 47, 3) := by decide +kernel
theorem dX10_read_38 : decode cX10_read 38 = .ok (.aload_n 0, 1) := by decide +kernel
theorem dX10_read_39 : decode cX10_read 39 = .ok (.getfield 220, 3) := by decide +kernel
theorem dX10_read_42 : decode cX10_read 42 = .ok (.bipush (-5), 2) := by decide +kernel
theorem dX10_read_44 : decode cX10_read 44 = .ok (.iastore, 1) := by decide +kernel
theorem dX10_read_45 : decode cX10_read 45 = .ok (.aload_n 0, 1) := by decide +kernel
theorem dX10_read_46 : decode cX10_read 46 = .ok (.invokevirtual 200, 3) := by decide +kernel
theorem dX10_read_49 : decode cX10_read 49 = .ok (.istore_n 1, 1) := by decide +kernel
theorem dX10_read_50 : decode cX10_read 50 = .ok (.aload_n 0, 1) := by decide +kernel
theorem dX10_read_51 : decode cX10_read 51 = .ok (.getfield 32, 3) := by decide +kernel
theorem dX10_read_54 : decode cX10_read 54 = .ok (.aload_n 0, 1) := by decide +kernel
theorem dX10_read_55 : decode cX10_read 55 = .ok (.getfield 220, 3) := by decide +kernel
theorem dX10_read_58 : decode cX10_read 58 = .ok (.iload_n 1, 1) := by decide +kernel
theorem dX10_read_59 : decode cX10_read 59 = .ok (.iconst 4, 1) := by decide +kernel
theorem dX10_read_60 : decode cX10_read 60 = .ok (.if_icmp .ne 7, 3) := by decide +kernel
theorem dX10_read_63 : decode cX10_read 63 = .ok (.iconst 1, 1) := by decide +kernel
theorem dX10_read_64 : decode cX10_read 64 = .ok (.goto 23, 3) := by decide +kernel
theorem dX10_read_67 : decode cX10_read 67 = .ok (.iload_n 1, 1) := by decide +kernel
theorem dX10_read_68 : decode cX10_read 68 = .ok (.iconst 5, 1) := by decide +kernel
theorem dX10_read_69 : decode cX10_read 69 = .ok (.if_icmp .ne 7, 3) := by decide +kernel
theorem dX10_read_72 : decode cX10_read 72 = .ok (.iconst 2, 1) := by decide +kernel
theorem dX10_read_73 : decode cX10_read 73 = .ok (.goto 14, 3) := by decide +kernel
theorem dX10_read_76 : decode cX10_read 76 = .ok (.iload_n 1, 1) := by decide +kernel
theorem dX10_read_77 : decode cX10_read 77 = .ok (.bipush 6, 2) := by decide +kernel
theorem dX10_read_79 : decode cX10_read 79 = .ok (.if_icmp .ne 7, 3) := by decide +kernel
theorem dX10_read_82 : decode cX10_read 82 = .ok (.iconst 3, 1) := by decide +kernel
theorem dX10_read_83 : decode cX10_read 83 = .ok (.goto 4, 3) := by decide +kernel
theorem dX10_read_86 : decode cX10_read 86 = .ok (.iconst 0, 1) := by decide +kernel
theorem dX10_read_87 : decode cX10_read 87 = .ok (.iastore, 1) := by decide +kernel
theorem dX10_read_88 : decode cX10_read 88 = .ok (.aload_n 0, 1) := by decide +kernel
theorem dX10_read_89 : decode cX10_read 89 = .ok (.getfield 32, 3) := by decide +kernel
theorem dX10_read_92 : decode cX10_read 92 = .ok (.aload_n 0, 1) := by decide +kernel
theorem dX10_read_93 : decode cX10_read 93 = .ok (.getfield 220, 3) := by decide +kernel
theorem dX10_read_96 : decode cX10_read 96 = .ok (.iaload, 1) := by decide +kernel
theorem dX10_read_97 : decode cX10_read 97 = .ok (.ifCond .ne 10, 3) := by decide +kernel
theorem dX10_read_100 : decode cX10_read 100 = .ok (.aload_n 0, 1) := by decide +kernel
theorem dX10_read_101 : decode cX10_read 101 = .ok (.invokevirtual 266, 3) := by decide +kernel
theorem dX10_read_104 : decode cX10_read 104 = .ok (.goto 152, 3) := by decide +kernel
theorem dX10_read_107 : decode cX10_read 107 = .ok (.aload_n 0, 1) := by decide +kernel
theorem dX10_read_108 : decode cX10_read 108 = .ok (.invokevirtual 207, 3) := by decide +kernel
theorem dX10_read_111 : decode cX10_read 111 = .ok (.aload_n 0, 1) := by decide +kernel
theorem dX10_read_112 : decode cX10_read 112 = .ok (.iconst 1, 1) := by decide +kernel
theorem dX10_read_113 : decode cX10_read 113 = .ok (.invokevirtual 237, 3) := by decide +kernel
theorem dX10_read_116 : decode cX10_read 116 = .ok (.pop, 1) := by decide +kernel
theorem dX10_read_117 : decode cX10_read 117 = .ok (.aload_n 0, 1) := by decide +kernel
theorem dX10_read_118 : decode cX10_read 118 = .ok (.getfield 32, 3) := by decide +kernel
theorem dX10_read_121 : decode cX10_read 121 = .ok (.aload_n 0, 1) := by decide +kernel
theorem dX10_read_122 : decode cX10_read 122 = .ok (.getfield 220, 3) := by decide +kernel
theorem dX10_read_125 : decode cX10_read 125 = .ok (.iaload, 1) := by decide +kernel
theorem dX10_read_126 : decode cX10_read 126 = .ok (.iconst 1, 1) := by decide +kernel
theorem dX10_read_127 : decode cX10_read 127 = .ok (.if_icmp .le 25, 3) := by decide +kernel
theorem dX10_read_130 : decode cX10_read 130 = .ok (.aload_n 0, 1) := by decide +kernel
theorem dX10_read_131 : decode cX10_read 131 = .ok (.aload_n 0, 1) := by decide +kernel
theorem dX10_read_132 : decode cX10_read 132 = .ok (.getfield 32, 3) := by decide +kernel
theorem dX10_read_135 : decode cX10_read 135 = .ok (.aload_n 0, 1) := by decide +kernel
theorem dX10_read_136 : decode cX10_read 136 = .ok (.getfield 220, 3) := by decide +kernel
theorem dX10_read_139 : decode cX10_read 139 = .ok (.iaload, 1) := by decide +kernel
theorem dX10_read_140 : decode cX10_read 140 = .ok (.iconst 3, 1) := by decide +kernel
theorem dX10_read_141 : decode cX10_read 141 = .ok (.if_icmp .ne 7, 3) := by decide +kernel
theorem dX10_read_144 : decode cX10_read 144 = .ok (.iconst 1, 1) := by decide +kernel
theorem dX10_read_145 : decode cX10_read 145 = .ok (.goto 4, 3) := by decide +kernel
theorem dX10_read_148 : decode cX10_read 148 = .ok (.iconst 0, 1) := by decide +kernel
theorem dX10_read_149 : decode cX10_read 149 = .ok (.invokevirtual 269, 3) := by decide +kernel
theorem dX10_read_152 : decode cX10_read 152 = .ok (.aload_n 0, 1) := by decide +kernel
theorem dX10_read_153 : decode cX10_read 153 = .ok (.getfield 32, 3) := by decide +kernel
theorem dX10_read_156 : decode cX10_read 156 = .ok (.aload_n 0, 1) := by decide +kernel
theorem dX10_read_157 : decode cX10_read 157 = .ok (.getfield 220, 3) := by decide +kernel
theorem dX10_read_160 : decode cX10_read 160 = .ok (.iaload, 1) := by decide +kernel
theorem dX10_read_161 : decode cX10_read 161 = .ok (.iconst 2, 1) := by decide +kernel
theorem dX10_read_162 : decode cX10_read 162 = .ok (.if_icmp .ne 10, 3) := by decide +kernel
theorem dX10_read_165 : decode cX10_read 165 = .ok (.aload_n 0, 1) := by decide +kernel
theorem dX10_read_166 : decode cX10_read 166 = .ok (.bipush 61, 2) := by decide +kernel
theorem dX10_read_168 : decode cX10_read 168 = .ok (.invokevirtual 237, 3) := by decide +kernel
theorem dX10_read_171 : decode cX10_read 171 = .ok (.pop, 1) := by decide +kernel
theorem dX10_read_172 : decode cX10_read 172 = .ok (.aload_n 0, 1) := by decide +kernel
theorem dX10_read_173 : decode cX10_read 173 = .ok (.getfield 32, 3) := by decide +kernel
theorem dX10_read_176 : decode cX10_read 176 = .ok (.aload_n 0, 1) := by decide +kernel
theorem dX10_read_177 : decode cX10_read 177 = .ok (.getfield 220, 3) := by decide +kernel
theorem dX10_read_180 : decode cX10_read 180 = .ok (.iaload, 1) := by decide +kernel
theorem dX10_read_181 : decode cX10_read 181 = .ok (.iconst 2, 1) := by decide +kernel
theorem dX10_read_182 : decode cX10_read 182 = .ok (.if_icmp .eq 32, 3) := by decide +kernel
theorem dX10_read_185 : decode cX10_read 185 = .ok (.aload_n 0, 1) := by decide +kernel
theorem dX10_read_186 : decode cX10_read 186 = .ok (.getfield 32, 3) := by decide +kernel
theorem dX10_read_189 : decode cX10_read 189 = .ok (.aload_n 0, 1) := by decide +kernel
theorem dX10_read_190 : decode cX10_read 190 = .ok (.getfield 220, 3) := by decide +kernel
theorem dX10_read_193 : decode cX10_read 193 = .ok (.iaload, 1) := by decide +kernel
theorem dX10_read_194 : decode cX10_read 194 = .ok (.iconst 1, 1) := by decide +kernel
theorem dX10_read_195 : decode cX10_read 195 = .ok (.if_icmp .ne 23, 3) := by decide +kernel
theorem dX10_read_198 : decode cX10_read 198 = .ok (.aload_n 0, 1) := by decide +kernel
theorem dX10_read_199 : decode cX10_read 199 = .ok (.getfield 197, 3) := by decide +kernel
theorem dX10_read_202 : decode cX10_read 202 = .ok (.ifCond .ge 16, 3) := by decide +kernel
theorem dX10_read_205 : decode cX10_read 205 = .ok (.aload_n 0, 1) := by decide +kernel
theorem dX10_read_206 : decode cX10_read 206 = .ok (.invokevirtual 200, 3) := by decide +kernel
theorem dX10_read_209 : decode cX10_read 209 = .ok (.bipush 61, 2) := by decide +kernel
theorem dX10_read_211 : decode cX10_read 211 = .ok (.if_icmp .ne 7, 3) := by decide +kernel
theorem dX10_read_214 : decode cX10_read 214 = .ok (.iconst 1, 1) := by decide +kernel
theorem dX10_read_215 : decode cX10_read 215 = .ok (.goto 4, 3) := by decide +kernel
theorem dX10_read_218 : decode cX10_read 218 = .ok (.iconst 0, 1) := by decide +kernel
theorem dX10_read_219 : decode cX10_read 219 = .ok (.istore_n 2, 1) := by decide +kernel
theorem dX10_read_220 : decode cX10_read 220 = .ok (.aload_n 0, 1) := by decide +kernel
theorem dX10_read_221 : decode cX10_read 221 = .ok (.getfield 32, 3) := by decide +kernel
theorem dX10_read_224 : decode cX10_read 224 = .ok (.aload_n 0, 1) := by decide +kernel
theorem dX10_read_225 : decode cX10_read 225 = .ok (.getfield 220, 3) := by decide +kernel
theorem dX10_read_228 : decode cX10_read 228 = .ok (.iaload, 1) := by decide +kernel
theorem dX10_read_229 : decode cX10_read 229 = .ok (.iconst 1, 1) := by decide +kernel
theorem dX10_read_230 : decode cX10_read 230 = .ok (.if_icmp .ne 11, 3) := by decide +kernel
theorem dX10_read_233 : decode cX10_read 233 = .ok (.iload_n 2, 1) := by decide +kernel
theorem dX10_read_234 : decode cX10_read 234 = .ok (.ifCond .eq 7, 3) := by decide +kernel
theorem dX10_read_237 : decode cX10_read 237 = .ok (.aload_n 0, 1) := by decide +kernel
theorem dX10_read_238 : decode cX10_read 238 = .ok (.invokevirtual 207, 3) := by decide +kernel
theorem dX10_read_241 : decode cX10_read 241 = .ok (.iload_n 2, 1) := by decide +kernel
theorem dX10_read_242 : decode cX10_read 242 = .ok (.ifCond .eq 14, 3) := by decide +kernel
theorem dX10_read_245 : decode cX10_read 245 = .ok (.aload_n 0, 1) := by decide +kernel
theorem dX10_read_246 : decode cX10_read 246 = .ok (.getfield 197, 3) := by decide +kernel
theorem dX10_read_249 : decode cX10_read 249 = .ok (.ifCond .ge 7, 3) := by decide +kernel
theorem dX10_read_252 : decode cX10_read 252 = .ok (.aload_n 0, 1) := by decide +kernel
theorem dX10_read_253 : decode cX10_read 253 = .ok (.invokevirtual 266, 3) := by decide +kernel
theorem dX10_read_256 : decode cX10_read 256 = .ok (.aload_n 0, 1) := by decide +kernel
theorem dX10_read_257 : decode cX10_read 257 = .ok (.iconst 0, 1) := by decide +kernel
theorem dX10_read_258 : decode cX10_read 258 = .ok (.invokevirtual 237, 3) := by decide +kernel
theorem dX10_read_261 : decode cX10_read 261 = .ok (.pop, 1) := by decide +kernel
theorem dX10_read_262 : decode cX10_read 262 = .ok (.aload_n 0, 1) := by decide +kernel
theorem dX10_read_263 : decode cX10_read 263 = .ok (.getfield 197, 3) := by decide +kernel
theorem dX10_read_266 : decode cX10_read 266 = .ok (.ireturn, 1) := by decide +kernel
theorem dX10_nameOf_0 : decode cX10_nameOf 0 = .ok (.iconst 0, 1) := by decide +kernel
theorem dX10_nameOf_1 : decode cX10_nameOf 1 = .ok (.istore_n 3, 1) := by decide +kernel
theorem dX10_nameOf_2 : decode cX10_nameOf 2 = .ok (.iload_n 3, 1) := by decide +kernel
theorem dX10_nameOf_3 : decode cX10_nameOf 3 = .ok (.aload_n 0, 1) := by decide +kernel
theorem dX10_nameOf_4 : decode cX10_nameOf 4 = .ok (.getfield 273, 3) := by decide +kernel
theorem dX10_nameOf_7 : decode cX10_nameOf 7 = .ok (.if_icmp .ge 22, 3) := by decide +kernel
theorem dX10_nameOf_10 : decode cX10_nameOf 10 = .ok (.aload_n 0, 1) := by decide +kernel
theorem dX10_nameOf_11 : decode cX10_nameOf 11 = .ok (.getfield 13, 3) := by decide +kernel
theorem dX10_nameOf_14 : decode cX10_nameOf 14 = .ok (.iload_n 3, 1) := by decide +kernel
theorem dX10_nameOf_15 : decode cX10_nameOf 15 = .ok (.laload, 1) := by decide +kernel
theorem dX10_nameOf_16 : decode cX10_nameOf 16 = .ok (.lload_n 1, 1) := by decide +kernel
theorem dX10_nameOf_17 : decode cX10_nameOf 17 = .ok (.lcmp, 1) := by decide +kernel
theorem dX10_nameOf_18 : decode cX10_nameOf 18 = .ok (.ifCond .ne 5, 3) := by decide +kernel
theorem dX10_nameOf_21 : decode cX10_nameOf 21 = .ok (.iload_n 3, 1) := by decide +kernel
theorem dX10_nameOf_22 : decode cX10_nameOf 22 = .ok (.ireturn, 1) := by decide +kernel
theorem dX10_nameOf_23 : decode cX10_nameOf 23 = .ok (.iinc 3 1, 3) := by decide +kernel
theorem dX10_nameOf_26 : decode cX10_nameOf 26 = .ok (.goto (-24), 3) := by decide +kernel
theorem dX10_nameOf_29 : decode cX10_nameOf 29 = .ok (.bipush (-5), 2) := by decide +kernel
theorem dX10_nameOf_31 : decode cX10_nameOf 31 = .ok (.ireturn, 1) := by decide +kernel
theorem dX10_hasRoom_0 : decode cX10_hasRoom 0 = .ok (.aload_n 0, 1) := by decide +kernel
theorem dX10_hasRoom_1 : decode cX10_hasRoom 1 = .ok (.getfield 273, 3) := by decide +kernel
theorem dX10_hasRoom_4 : decode cX10_hasRoom 4 = .ok (.istore_n 1, 1) := by decide +kernel
theorem dX10_hasRoom_5 : decode cX10_hasRoom 5 = .ok (.iconst 0, 1) := by decide +kernel
theorem dX10_hasRoom_6 : decode cX10_hasRoom 6 = .ok (.istore_n 2, 1) := by decide +kernel
theorem dX10_hasRoom_7 : decode cX10_hasRoom 7 = .ok (.iload_n 2, 1) := by decide +kernel
theorem dX10_hasRoom_8 : decode cX10_hasRoom 8 = .ok (.aload_n 0, 1) := by decide +kernel
theorem dX10_hasRoom_9 : decode cX10_hasRoom 9 = .ok (.getfield 167, 3) := by decide +kernel
theorem dX10_hasRoom_12 : decode cX10_hasRoom 12 = .ok (.if_icmp .ge 105, 3) := by decide +kernel
theorem dX10_hasRoom_15 : decode cX10_hasRoom 15 = .ok (.aload_n 0, 1) := by decide +kernel
theorem dX10_hasRoom_16 : decode cX10_hasRoom 16 = .ok (.getfield 99, 3) := by decide +kernel
theorem dX10_hasRoom_19 : decode cX10_hasRoom 19 = .ok (.iload_n 2, 1) := by decide +kernel
theorem dX10_hasRoom_20 : decode cX10_hasRoom 20 = .ok (.iaload, 1) := by decide +kernel
theorem dX10_hasRoom_21 : decode cX10_hasRoom 21 = .ok (.iconst 1, 1) := by decide +kernel
theorem dX10_hasRoom_22 : decode cX10_hasRoom 22 = .ok (.if_icmp .ne 22, 3) := by decide +kernel
theorem dX10_hasRoom_25 : decode cX10_hasRoom 25 = .ok (.aload_n 0, 1) := by decide +kernel
theorem dX10_hasRoom_26 : decode cX10_hasRoom 26 = .ok (.aload_n 0, 1) := by decide +kernel
theorem dX10_hasRoom_27 : decode cX10_hasRoom 27 = .ok (.getfield 105, 3) := by decide +kernel
theorem dX10_hasRoom_30 : decode cX10_hasRoom 30 = .ok (.iload_n 2, 1) := by decide +kernel
theorem dX10_hasRoom_31 : decode cX10_hasRoom 31 = .ok (.laload, 1) := by decide +kernel
theorem dX10_hasRoom_32 : decode cX10_hasRoom 32 = .ok (.invokevirtual 276, 3) := by decide +kernel
theorem dX10_hasRoom_35 : decode cX10_hasRoom 35 = .ok (.bipush (-5), 2) := by decide +kernel
theorem dX10_hasRoom_37 : decode cX10_hasRoom 37 = .ok (.if_icmp .ne 7, 3) := by decide +kernel
theorem dX10_hasRoom_40 : decode cX10_hasRoom 40 = .ok (.iconst 1, 1) := by decide +kernel
theorem dX10_hasRoom_41 : decode cX10_hasRoom 41 = .ok (.goto 4, 3) := by decide +kernel
theorem dX10_hasRoom_44 : decode cX10_hasRoom 44 = .ok (.iconst 0, 1) := by decide +kernel
theorem dX10_hasRoom_45 : decode cX10_hasRoom 45 = .ok (.istore_n 3, 1) := by decide +kernel
theorem dX10_hasRoom_46 : decode cX10_hasRoom 46 = .ok (.iconst 0, 1) := by decide +kernel
theorem dX10_hasRoom_47 : decode cX10_hasRoom 47 = .ok (.istore 4, 2) := by decide +kernel
theorem dX10_hasRoom_49 : decode cX10_hasRoom 49 = .ok (.iload 4, 2) := by decide +kernel
theorem dX10_hasRoom_51 : decode cX10_hasRoom 51 = .ok (.iload_n 2, 1) := by decide +kernel
theorem dX10_hasRoom_52 : decode cX10_hasRoom 52 = .ok (.if_icmp .ge 47, 3) := by decide +kernel
theorem dX10_hasRoom_55 : decode cX10_hasRoom 55 = .ok (.iload_n 3, 1) := by decide +kernel
theorem dX10_hasRoom_56 : decode cX10_hasRoom 56 = .ok (.ifCond .eq 35, 3) := by decide +kernel
theorem dX10_hasRoom_59 : decode cX10_hasRoom 59 = .ok (.aload_n 0, 1) := by decide +kernel
theorem dX10_hasRoom_60 : decode cX10_hasRoom 60 = .ok (.getfield 99, 3) := by decide +kernel
theorem dX10_hasRoom_63 : decode cX10_hasRoom 63 = .ok (.iload 4, 2) := by decide +kernel
theorem dX10_hasRoom_65 : decode cX10_hasRoom 65 = .ok (.iaload, 1) := by decide +kernel
theorem dX10_hasRoom_66 : decode cX10_hasRoom 66 = .ok (.iconst 1, 1) := by decide +kernel
theorem dX10_hasRoom_67 : decode cX10_hasRoom 67 = .ok (.if_icmp .ne 20, 3) := by decide +kernel
theorem dX10_hasRoom_70 : decode cX10_hasRoom 70 = .ok (.aload_n 0, 1) := by decide +kernel
theorem dX10_hasRoom_71 : decode cX10_hasRoom 71 = .ok (.getfield 105, 3) := by decide +kernel
theorem dX10_hasRoom_74 : decode cX10_hasRoom 74 = .ok (.iload 4, 2) := by decide +kernel
theorem dX10_hasRoom_76 : decode cX10_hasRoom 76 = .ok (.laload, 1) := by decide +kernel
theorem dX10_hasRoom_77 : decode cX10_hasRoom 77 = .ok (.aload_n 0, 1) := by decide +kernel
theorem dX10_hasRoom_78 : decode cX10_hasRoom 78 = .ok (.getfield 105, 3) := by decide +kernel
theorem dX10_hasRoom_81 : decode cX10_hasRoom 81 = .ok (.iload_n 2, 1) := by decide +kernel
theorem dX10_hasRoom_82 : decode cX10_hasRoom 82 = .ok (.laload, 1) := by decide +kernel
theorem dX10_hasRoom_83 : decode cX10_hasRoom 83 = .ok (.lcmp, 1) := by decide +kernel
theorem dX10_hasRoom_84 : decode cX10_hasRoom 84 = .ok (.ifCond .eq 7, 3) := by decide +kernel
theorem dX10_hasRoom_87 : decode cX10_hasRoom 87 = .ok (.iconst 1, 1) := by decide +kernel
theorem dX10_hasRoom_88 : decode cX10_hasRoom 88 = .ok (.goto 4, 3) := by decide +kernel
theorem dX10_hasRoom_91 : decode cX10_hasRoom 91 = .ok (.iconst 0, 1) := by decide +kernel
theorem dX10_hasRoom_92 : decode cX10_hasRoom 92 = .ok (.istore_n 3, 1) := by decide +kernel
theorem dX10_hasRoom_93 : decode cX10_hasRoom 93 = .ok (.iinc 4 1, 3) := by decide +kernel
theorem dX10_hasRoom_96 : decode cX10_hasRoom 96 = .ok (.goto (-47), 3) := by decide +kernel
theorem dX10_hasRoom_99 : decode cX10_hasRoom 99 = .ok (.iload_n 1, 1) := by decide +kernel
theorem dX10_hasRoom_100 : decode cX10_hasRoom 100 = .ok (.iload_n 3, 1) := by decide +kernel
theorem dX10_hasRoom_101 : decode cX10_hasRoom 101 = .ok (.ifCond .eq 7, 3) := by decide +kernel
theorem dX10_hasRoom_104 : decode cX10_hasRoom 104 = .ok (.iconst 1, 1) := by decide +kernel
theorem dX10_hasRoom_105 : decode cX10_hasRoom 105 = .ok (.goto 4, 3) := by decide +kernel
theorem dX10_hasRoom_108 : decode cX10_hasRoom 108 = .ok (.iconst 0, 1) := by decide +kernel
theorem dX10_hasRoom_109 : decode cX10_hasRoom 109 = .ok (.iadd, 1) := by decide +kernel
theorem dX10_hasRoom_110 : decode cX10_hasRoom 110 = .ok (.istore_n 1, 1) := by decide +kernel
theorem dX10_hasRoom_111 : decode cX10_hasRoom 111 = .ok (.iinc 2 1, 3) := by decide +kernel
theorem dX10_hasRoom_114 : decode cX10_hasRoom 114 = .ok (.goto (-107), 3) := by decide +kernel
theorem dX10_hasRoom_117 : decode cX10_hasRoom 117 = .ok (.iload_n 1, 1) := by decide +kernel
theorem dX10_hasRoom_118 : decode cX10_hasRoom 118 = .ok (.bipush 40, 2) := by decide +kernel
theorem dX10_hasRoom_120 : decode cX10_hasRoom 120 = .ok (.if_icmp .gt 7, 3) := by decide +kernel
theorem dX10_hasRoom_123 : decode cX10_hasRoom 123 = .ok (.iconst 1, 1) := by decide +kernel
theorem dX10_hasRoom_124 : decode cX10_hasRoom 124 = .ok (.goto 4, 3) := by decide +kernel
theorem dX10_hasRoom_127 : decode cX10_hasRoom 127 = .ok (.iconst 0, 1) := by decide +kernel
theorem dX10_hasRoom_128 : decode cX10_hasRoom 128 = .ok (.ireturn, 1) := by decide +kernel
theorem dX10_number_0 : decode cX10_number 0 = .ok (.iconst 0, 1) := by decide +kernel
theorem dX10_number_1 : decode cX10_number 1 = .ok (.istore_n 1, 1) := by decide +kernel
theorem dX10_number_2 : decode cX10_number 2 = .ok (.iload_n 1, 1) := by decide +kernel
theorem dX10_number_3 : decode cX10_number 3 = .ok (.aload_n 0, 1) := by decide +kernel
theorem dX10_number_4 : decode cX10_number 4 = .ok (.getfield 167, 3) := by decide +kernel
theorem dX10_number_7 : decode cX10_number 7 = .ok (.if_icmp .ge 90, 3) := by decide +kernel
theorem dX10_number_10 : decode cX10_number 10 = .ok (.aload_n 0, 1) := by decide +kernel
theorem dX10_number_11 : decode cX10_number 11 = .ok (.getfield 99, 3) := by decide +kernel
theorem dX10_number_14 : decode cX10_number 14 = .ok (.iload_n 1, 1) := by decide +kernel
theorem dX10_number_15 : decode cX10_number 15 = .ok (.iaload, 1) := by decide +kernel
theorem dX10_number_16 : decode cX10_number 16 = .ok (.iconst 1, 1) := by decide +kernel
theorem dX10_number_17 : decode cX10_number 17 = .ok (.if_icmp .ne 74, 3) := by decide +kernel
theorem dX10_number_20 : decode cX10_number 20 = .ok (.aload_n 0, 1) := by decide +kernel
theorem dX10_number_21 : decode cX10_number 21 = .ok (.aload_n 0, 1) := by decide +kernel
theorem dX10_number_22 : decode cX10_number 22 = .ok (.getfield 105, 3) := by decide +kernel
theorem dX10_number_25 : decode cX10_number 25 = .ok (.iload_n 1, 1) := by decide +kernel
theorem dX10_number_26 : decode cX10_number 26 = .ok (.laload, 1) := by decide +kernel
theorem dX10_number_27 : decode cX10_number 27 = .ok (.invokevirtual 276, 3) := by decide +kernel
theorem dX10_number_30 : decode cX10_number 30 = .ok (.bipush (-5), 2) := by decide +kernel
theorem dX10_number_32 : decode cX10_number 32 = .ok (.if_icmp .ne 59, 3) := by decide +kernel
theorem dX10_number_35 : decode cX10_number 35 = .ok (.aload_n 0, 1) := by decide +kernel
theorem dX10_number_36 : decode cX10_number 36 = .ok (.getfield 13, 3) := by decide +kernel
theorem dX10_number_39 : decode cX10_number 39 = .ok (.aload_n 0, 1) := by decide +kernel
theorem dX10_number_40 : decode cX10_number 40 = .ok (.getfield 273, 3) := by decide +kernel
theorem dX10_number_43 : decode cX10_number 43 = .ok (.aload_n 0, 1) := by decide +kernel
theorem dX10_number_44 : decode cX10_number 44 = .ok (.getfield 105, 3) := by decide +kernel
theorem dX10_number_47 : decode cX10_number 47 = .ok (.iload_n 1, 1) := by decide +kernel
theorem dX10_number_48 : decode cX10_number 48 = .ok (.laload, 1) := by decide +kernel
theorem dX10_number_49 : decode cX10_number 49 = .ok (.lastore, 1) := by decide +kernel
theorem dX10_number_50 : decode cX10_number 50 = .ok (.aload_n 0, 1) := by decide +kernel
theorem dX10_number_51 : decode cX10_number 51 = .ok (.getfield 17, 3) := by decide +kernel
theorem dX10_number_54 : decode cX10_number 54 = .ok (.aload_n 0, 1) := by decide +kernel
theorem dX10_number_55 : decode cX10_number 55 = .ok (.getfield 273, 3) := by decide +kernel
theorem dX10_number_58 : decode cX10_number 58 = .ok (.iconst 0, 1) := by decide +kernel
theorem dX10_number_59 : decode cX10_number 59 = .ok (.iastore, 1) := by decide +kernel
theorem dX10_number_60 : decode cX10_number 60 = .ok (.aload_n 0, 1) := by decide +kernel
theorem dX10_number_61 : decode cX10_number 61 = .ok (.getfield 20, 3) := by decide +kernel
theorem dX10_number_64 : decode cX10_number 64 = .ok (.aload_n 0, 1) := by decide +kernel
theorem dX10_number_65 : decode cX10_number 65 = .ok (.getfield 273, 3) := by decide +kernel
theorem dX10_number_68 : decode cX10_number 68 = .ok (.bipush (-5), 2) := by decide +kernel
theorem dX10_number_70 : decode cX10_number 70 = .ok (.iastore, 1) := by decide +kernel
theorem dX10_number_71 : decode cX10_number 71 = .ok (.aload_n 0, 1) := by decide +kernel
theorem dX10_number_72 : decode cX10_number 72 = .ok (.getfield 23, 3) := by decide +kernel
theorem dX10_number_75 : decode cX10_number 75 = .ok (.aload_n 0, 1) := by decide +kernel
theorem dX10_number_76 : decode cX10_number 76 = .ok (.getfield 273, 3) := by decide +kernel
theorem dX10_number_79 : decode cX10_number 79 = .ok (.iconst 0, 1) := by decide +kernel
theorem dX10_number_80 : decode cX10_number 80 = .ok (.iastore, 1) := by decide +kernel
theorem dX10_number_81 : decode cX10_number 81 = .ok (.aload_n 0, 1) := by decide +kernel
theorem dX10_number_82 : decode cX10_number 82 = .ok (.dup, 1) := by decide +kernel
theorem dX10_number_83 : decode cX10_number 83 = .ok (.getfield 273, 3) := by decide +kernel
theorem dX10_number_86 : decode cX10_number 86 = .ok (.iconst 1, 1) := by decide +kernel
theorem dX10_number_87 : decode cX10_number 87 = .ok (.iadd, 1) := by decide +kernel
theorem dX10_number_88 : decode cX10_number 88 = .ok (.putfield 273, 3) := by decide +kernel
theorem dX10_number_91 : decode cX10_number 91 = .ok (.iinc 1 1, 3) := by decide +kernel
theorem dX10_number_94 : decode cX10_number 94 = .ok (.goto (-92), 3) := by decide +kernel
theorem dX10_number_97 : decode cX10_number 97 = .ok (.bipush 64, 2) := by decide +kernel
theorem dX10_number_99 : decode cX10_number 99 = .ok (.aload_n 0, 1) := by decide +kernel
theorem dX10_number_100 : decode cX10_number 100 = .ok (.getfield 220, 3) := by decide +kernel
theorem dX10_number_103 : decode cX10_number 103 = .ok (.imul, 1) := by decide +kernel
theorem dX10_number_104 : decode cX10_number 104 = .ok (.istore_n 1, 1) := by decide +kernel
theorem dX10_number_105 : decode cX10_number 105 = .ok (.iload_n 1, 1) := by decide +kernel
theorem dX10_number_106 : decode cX10_number 106 = .ok (.bipush 64, 2) := by decide +kernel
theorem dX10_number_108 : decode cX10_number 108 = .ok (.aload_n 0, 1) := by decide +kernel
theorem dX10_number_109 : decode cX10_number 109 = .ok (.getfield 220, 3) := by decide +kernel
theorem dX10_number_112 : decode cX10_number 112 = .ok (.imul, 1) := by decide +kernel
theorem dX10_number_113 : decode cX10_number 113 = .ok (.aload_n 0, 1) := by decide +kernel
theorem dX10_number_114 : decode cX10_number 114 = .ok (.getfield 223, 3) := by decide +kernel
theorem dX10_number_117 : decode cX10_number 117 = .ok (.iadd, 1) := by decide +kernel
theorem dX10_number_118 : decode cX10_number 118 = .ok (.if_icmp .ge 61, 3) := by decide +kernel
theorem dX10_number_121 : decode cX10_number 121 = .ok (.aload_n 0, 1) := by decide +kernel
theorem dX10_number_122 : decode cX10_number 122 = .ok (.getfield 56, 3) := by decide +kernel
theorem dX10_number_125 : decode cX10_number 125 = .ok (.iload_n 1, 1) := by decide +kernel
theorem dX10_number_126 : decode cX10_number 126 = .ok (.iaload, 1) := by decide +kernel
theorem dX10_number_127 : decode cX10_number 127 = .ok (.iconst 2, 1) := by decide +kernel
theorem dX10_number_128 : decode cX10_number 128 = .ok (.if_icmp .eq 23, 3) := by decide +kernel
theorem dX10_number_131 : decode cX10_number 131 = .ok (.aload_n 0, 1) := by decide +kernel
theorem dX10_number_132 : decode cX10_number 132 = .ok (.getfield 56, 3) := by decide +kernel
theorem dX10_number_135 : decode cX10_number 135 = .ok (.iload_n 1, 1) := by decide +kernel
theorem dX10_number_136 : decode cX10_number 136 = .ok (.iaload, 1) := by decide +kernel
theorem dX10_number_137 : decode cX10_number 137 = .ok (.iconst 3, 1) := by decide +kernel
theorem dX10_number_138 : decode cX10_number 138 = .ok (.if_icmp .eq 13, 3) := by decide +kernel
theorem dX10_number_141 : decode cX10_number 141 = .ok (.aload_n 0, 1) := by decide +kernel
theorem dX10_number_142 : decode cX10_number 142 = .ok (.getfield 56, 3) := by decide +kernel
theorem dX10_number_145 : decode cX10_number 145 = .ok (.iload_n 1, 1) := by decide +kernel
theorem dX10_number_146 : decode cX10_number 146 = .ok (.iaload, 1) := by decide +kernel
theorem dX10_number_147 : decode cX10_number 147 = .ok (.iconst 5, 1) := by decide +kernel
theorem dX10_number_148 : decode cX10_number 148 = .ok (.if_icmp .ne 25, 3) := by decide +kernel
theorem dX10_number_151 : decode cX10_number 151 = .ok (.aload_n 0, 1) := by decide +kernel
theorem dX10_number_152 : decode cX10_number 152 = .ok (.getfield 77, 3) := by decide +kernel
theorem dX10_number_155 : decode cX10_number 155 = .ok (.iload_n 1, 1) := by decide +kernel
theorem dX10_number_156 : decode cX10_number 156 = .ok (.aload_n 0, 1) := by decide +kernel
theorem dX10_number_157 : decode cX10_number 157 = .ok (.aload_n 0, 1) := by decide +kernel
theorem dX10_number_158 : decode cX10_number 158 = .ok (.getfield 105, 3) := by decide +kernel
theorem dX10_number_161 : decode cX10_number 161 = .ok (.aload_n 0, 1) := by decide +kernel
theorem dX10_number_162 : decode cX10_number 162 = .ok (.getfield 71, 3) := by decide +kernel
theorem dX10_number_165 : decode cX10_number 165 = .ok (.iload_n 1, 1) := by decide +kernel
theorem dX10_number_166 : decode cX10_number 166 = .ok (.iaload, 1) := by decide +kernel
theorem dX10_number_167 : decode cX10_number 167 = .ok (.laload, 1) := by decide +kernel
theorem dX10_number_168 : decode cX10_number 168 = .ok (.invokevirtual 276, 3) := by decide +kernel
theorem dX10_number_171 : decode cX10_number 171 = .ok (.i2l, 1) := by decide +kernel
theorem dX10_number_172 : decode cX10_number 172 = .ok (.lastore, 1) := by decide +kernel
theorem dX10_number_173 : decode cX10_number 173 = .ok (.iinc 1 1, 3) := by decide +kernel
theorem dX10_number_176 : decode cX10_number 176 = .ok (.goto (-71), 3) := by decide +kernel
theorem dX10_number_179 : decode cX10_number 179 = .ok (.iconst 0, 1) := by decide +kernel
theorem dX10_number_180 : decode cX10_number 180 = .ok (.istore_n 1, 1) := by decide +kernel
theorem dX10_number_181 : decode cX10_number 181 = .ok (.iload_n 1, 1) := by decide +kernel
theorem dX10_number_182 : decode cX10_number 182 = .ok (.aload_n 0, 1) := by decide +kernel
theorem dX10_number_183 : decode cX10_number 183 = .ok (.getfield 38, 3) := by decide +kernel
theorem dX10_number_186 : decode cX10_number 186 = .ok (.aload_n 0, 1) := by decide +kernel
theorem dX10_number_187 : decode cX10_number 187 = .ok (.getfield 220, 3) := by decide +kernel
theorem dX10_number_190 : decode cX10_number 190 = .ok (.iaload, 1) := by decide +kernel
theorem dX10_number_191 : decode cX10_number 191 = .ok (.if_icmp .ge 37, 3) := by decide +kernel
theorem dX10_number_194 : decode cX10_number 194 = .ok (.aload_n 0, 1) := by decide +kernel
theorem dX10_number_195 : decode cX10_number 195 = .ok (.getfield 41, 3) := by decide +kernel
theorem dX10_number_198 : decode cX10_number 198 = .ok (.iconst 3, 1) := by decide +kernel
theorem dX10_number_199 : decode cX10_number 199 = .ok (.aload_n 0, 1) := by decide +kernel
theorem dX10_number_200 : decode cX10_number 200 = .ok (.getfield 220, 3) := by decide +kernel
theorem dX10_number_203 : decode cX10_number 203 = .ok (.imul, 1) := by decide +kernel
theorem dX10_number_204 : decode cX10_number 204 = .ok (.iload_n 1, 1) := by decide +kernel
theorem dX10_number_205 : decode cX10_number 205 = .ok (.iadd, 1) := by decide +kernel
theorem dX10_number_206 : decode cX10_number 206 = .ok (.aload_n 0, 1) := by decide +kernel
theorem dX10_number_207 : decode cX10_number 207 = .ok (.aload_n 0, 1) := by decide +kernel
theorem dX10_number_208 : decode cX10_number 208 = .ok (.getfield 105, 3) := by decide +kernel
theorem dX10_number_211 : decode cX10_number 211 = .ok (.aload_n 0, 1) := by decide +kernel
theorem dX10_number_212 : decode cX10_number 212 = .ok (.getfield 126, 3) := by decide +kernel
theorem dX10_number_215 : decode cX10_number 215 = .ok (.iload_n 1, 1) := by decide +kernel
theorem dX10_number_216 : decode cX10_number 216 = .ok (.iaload, 1) := by decide +kernel
theorem dX10_number_217 : decode cX10_number 217 = .ok (.laload, 1) := by decide +kernel
theorem dX10_number_218 : decode cX10_number 218 = .ok (.invokevirtual 276, 3) := by decide +kernel
theorem dX10_number_221 : decode cX10_number 221 = .ok (.iastore, 1) := by decide +kernel
theorem dX10_number_222 : decode cX10_number 222 = .ok (.iinc 1 1, 3) := by decide +kernel
theorem dX10_number_225 : decode cX10_number 225 = .ok (.goto (-44), 3) := by decide +kernel
theorem dX10_number_228 : decode cX10_number 228 = .ok (.aload_n 0, 1) := by decide +kernel
theorem dX10_number_229 : decode cX10_number 229 = .ok (.getfield 35, 3) := by decide +kernel
theorem dX10_number_232 : decode cX10_number 232 = .ok (.aload_n 0, 1) := by decide +kernel
theorem dX10_number_233 : decode cX10_number 233 = .ok (.getfield 220, 3) := by decide +kernel
theorem dX10_number_236 : decode cX10_number 236 = .ok (.aload_n 0, 1) := by decide +kernel
theorem dX10_number_237 : decode cX10_number 237 = .ok (.getfield 32, 3) := by decide +kernel
theorem dX10_number_240 : decode cX10_number 240 = .ok (.aload_n 0, 1) := by decide +kernel
theorem dX10_number_241 : decode cX10_number 241 = .ok (.getfield 220, 3) := by decide +kernel
theorem dX10_number_244 : decode cX10_number 244 = .ok (.iaload, 1) := by decide +kernel
theorem dX10_number_245 : decode cX10_number 245 = .ok (.ifCond .ne 8, 3) := by decide +kernel
theorem dX10_number_248 : decode cX10_number 248 = .ok (.bipush (-5), 2) := by decide +kernel
theorem dX10_number_250 : decode cX10_number 250 = .ok (.goto 13, 3) := by decide +kernel
theorem dX10_number_253 : decode cX10_number 253 = .ok (.aload_n 0, 1) := by decide +kernel
theorem dX10_number_254 : decode cX10_number 254 = .ok (.aload_n 0, 1) := by decide +kernel
theorem dX10_number_255 : decode cX10_number 255 = .ok (.getfield 105, 3) := by decide +kernel
theorem dX10_number_258 : decode cX10_number 258 = .ok (.iconst 1, 1) := by decide +kernel
theorem dX10_number_259 : decode cX10_number 259 = .ok (.laload, 1) := by decide +kernel
theorem dX10_number_260 : decode cX10_number 260 = .ok (.invokevirtual 276, 3) := by decide +kernel
theorem dX10_number_263 : decode cX10_number 263 = .ok (.iastore, 1) := by decide +kernel
theorem dX10_number_264 : decode cX10_number 264 = .ok (.return_, 1) := by decide +kernel
theorem dX10_put_0 : decode cX10_put 0 = .ok (.aload_n 0, 1) := by decide +kernel
theorem dX10_put_1 : decode cX10_put 1 = .ok (.getfield 144, 3) := by decide +kernel
theorem dX10_put_4 : decode cX10_put 4 = .ok (.aload_n 0, 1) := by decide +kernel
theorem dX10_put_5 : decode cX10_put 5 = .ok (.getfield 279, 3) := by decide +kernel
theorem dX10_put_8 : decode cX10_put 8 = .ok (.iload_n 1, 1) := by decide +kernel
theorem dX10_put_9 : decode cX10_put 9 = .ok (.iastore, 1) := by decide +kernel
theorem dX10_put_10 : decode cX10_put 10 = .ok (.aload_n 0, 1) := by decide +kernel
theorem dX10_put_11 : decode cX10_put 11 = .ok (.getfield 147, 3) := by decide +kernel
theorem dX10_put_14 : decode cX10_put 14 = .ok (.aload_n 0, 1) := by decide +kernel
theorem dX10_put_15 : decode cX10_put 15 = .ok (.getfield 279, 3) := by decide +kernel
theorem dX10_put_18 : decode cX10_put 18 = .ok (.lload_n 2, 1) := by decide +kernel
theorem dX10_put_19 : decode cX10_put 19 = .ok (.lastore, 1) := by decide +kernel
theorem dX10_put_20 : decode cX10_put 20 = .ok (.aload_n 0, 1) := by decide +kernel
theorem dX10_put_21 : decode cX10_put 21 = .ok (.dup, 1) := by decide +kernel
theorem dX10_put_22 : decode cX10_put 22 = .ok (.getfield 279, 3) := by decide +kernel
theorem dX10_put_25 : decode cX10_put 25 = .ok (.iconst 1, 1) := by decide +kernel
theorem dX10_put_26 : decode cX10_put 26 = .ok (.iadd, 1) := by decide +kernel
theorem dX10_put_27 : decode cX10_put 27 = .ok (.putfield 279, 3) := by decide +kernel
theorem dX10_put_30 : decode cX10_put 30 = .ok (.return_, 1) := by decide +kernel
theorem dX10_go_0 : decode cX10_go 0 = .ok (.aload_n 0, 1) := by decide +kernel
theorem dX10_go_1 : decode cX10_go 1 = .ok (.getfield 138, 3) := by decide +kernel
theorem dX10_go_4 : decode cX10_go 4 = .ok (.aload_n 0, 1) := by decide +kernel
theorem dX10_go_5 : decode cX10_go 5 = .ok (.getfield 282, 3) := by decide +kernel
theorem dX10_go_8 : decode cX10_go 8 = .ok (.iload_n 1, 1) := by decide +kernel
theorem dX10_go_9 : decode cX10_go 9 = .ok (.iastore, 1) := by decide +kernel
theorem dX10_go_10 : decode cX10_go 10 = .ok (.aload_n 0, 1) := by decide +kernel
theorem dX10_go_11 : decode cX10_go 11 = .ok (.getfield 141, 3) := by decide +kernel
theorem dX10_go_14 : decode cX10_go 14 = .ok (.aload_n 0, 1) := by decide +kernel
theorem dX10_go_15 : decode cX10_go 15 = .ok (.getfield 282, 3) := by decide +kernel
theorem dX10_go_18 : decode cX10_go 18 = .ok (.iconst 0, 1) := by decide +kernel
theorem dX10_go_19 : decode cX10_go 19 = .ok (.iastore, 1) := by decide +kernel
theorem dX10_go_20 : decode cX10_go 20 = .ok (.aload_n 0, 1) := by decide +kernel
theorem dX10_go_21 : decode cX10_go 21 = .ok (.dup, 1) := by decide +kernel
theorem dX10_go_22 : decode cX10_go 22 = .ok (.getfield 282, 3) := by decide +kernel
theorem dX10_go_25 : decode cX10_go 25 = .ok (.iconst 1, 1) := by decide +kernel
theorem dX10_go_26 : decode cX10_go 26 = .ok (.iadd, 1) := by decide +kernel
theorem dX10_go_27 : decode cX10_go 27 = .ok (.putfield 282, 3) := by decide +kernel
theorem dX10_go_30 : decode cX10_go 30 = .ok (.return_, 1) := by decide +kernel
theorem dX10_fail_0 : decode cX10_fail 0 = .ok (.aload_n 0, 1) := by decide +kernel
theorem dX10_fail_1 : decode cX10_fail 1 = .ok (.iload_n 1, 1) := by decide +kernel
theorem dX10_fail_2 : decode cX10_fail 2 = .ok (.putfield 285, 3) := by decide +kernel
theorem dX10_fail_5 : decode cX10_fail 5 = .ok (.aload_n 0, 1) := by decide +kernel
theorem dX10_fail_6 : decode cX10_fail 6 = .ok (.getfield 96, 3) := by decide +kernel
theorem dX10_fail_9 : decode cX10_fail 9 = .ok (.iconst 0, 1) := by decide +kernel
theorem dX10_fail_10 : decode cX10_fail 10 = .ok (.iload_n 1, 1) := by decide +kernel
theorem dX10_fail_11 : decode cX10_fail 11 = .ok (.iastore, 1) := by decide +kernel
theorem dX10_fail_12 : decode cX10_fail 12 = .ok (.aload_n 0, 1) := by decide +kernel
theorem dX10_fail_13 : decode cX10_fail 13 = .ok (.getfield 96, 3) := by decide +kernel
theorem dX10_fail_16 : decode cX10_fail 16 = .ok (.iconst 1, 1) := by decide +kernel
theorem dX10_fail_17 : decode cX10_fail 17 = .ok (.aload_n 0, 1) := by decide +kernel
theorem dX10_fail_18 : decode cX10_fail 18 = .ok (.getfield 129, 3) := by decide +kernel
theorem dX10_fail_21 : decode cX10_fail 21 = .ok (.aload_n 0, 1) := by decide +kernel
theorem dX10_fail_22 : decode cX10_fail 22 = .ok (.getfield 288, 3) := by decide +kernel
theorem dX10_fail_25 : decode cX10_fail 25 = .ok (.iaload, 1) := by decide +kernel
theorem dX10_fail_26 : decode cX10_fail 26 = .ok (.iastore, 1) := by decide +kernel
theorem dX10_fail_27 : decode cX10_fail 27 = .ok (.aload_n 0, 1) := by decide +kernel
theorem dX10_fail_28 : decode cX10_fail 28 = .ok (.getfield 96, 3) := by decide +kernel
theorem dX10_fail_31 : decode cX10_fail 31 = .ok (.iconst 2, 1) := by decide +kernel
theorem dX10_fail_32 : decode cX10_fail 32 = .ok (.aload_n 0, 1) := by decide +kernel
theorem dX10_fail_33 : decode cX10_fail 33 = .ok (.getfield 68, 3) := by decide +kernel
theorem dX10_fail_36 : decode cX10_fail 36 = .ok (.iload_n 2, 1) := by decide +kernel
theorem dX10_fail_37 : decode cX10_fail 37 = .ok (.iaload, 1) := by decide +kernel
theorem dX10_fail_38 : decode cX10_fail 38 = .ok (.iastore, 1) := by decide +kernel
theorem dX10_fail_39 : decode cX10_fail 39 = .ok (.aload_n 0, 1) := by decide +kernel
theorem dX10_fail_40 : decode cX10_fail 40 = .ok (.getfield 96, 3) := by decide +kernel
theorem dX10_fail_43 : decode cX10_fail 43 = .ok (.iconst 3, 1) := by decide +kernel
theorem dX10_fail_44 : decode cX10_fail 44 = .ok (.aload_n 0, 1) := by decide +kernel
theorem dX10_fail_45 : decode cX10_fail 45 = .ok (.getfield 288, 3) := by decide +kernel
theorem dX10_fail_48 : decode cX10_fail 48 = .ok (.iastore, 1) := by decide +kernel
theorem dX10_fail_49 : decode cX10_fail 49 = .ok (.return_, 1) := by decide +kernel
theorem dX10_argumentOf_0 : decode cX10_argumentOf 0 = .ok (.iconst 0, 1) := by decide +kernel
theorem dX10_argumentOf_1 : decode cX10_argumentOf 1 = .ok (.istore_n 3, 1) := by decide +kernel
theorem dX10_argumentOf_2 : decode cX10_argumentOf 2 = .ok (.iload_n 3, 1) := by decide +kernel
theorem dX10_argumentOf_3 : decode cX10_argumentOf 3 = .ok (.aload_n 0, 1) := by decide +kernel
theorem dX10_argumentOf_4 : decode cX10_argumentOf 4 = .ok (.getfield 38, 3) := by decide +kernel
theorem dX10_argumentOf_7 : decode cX10_argumentOf 7 = .ok (.iload_n 1, 1) := by decide +kernel
theorem dX10_argumentOf_8 : decode cX10_argumentOf 8 = .ok (.iaload, 1) := by decide +kernel
theorem dX10_argumentOf_9 : decode cX10_argumentOf 9 = .ok (.if_icmp .ge 25, 3) := by decide +kernel
theorem dX10_argumentOf_12 : decode cX10_argumentOf 12 = .ok (.aload_n 0, 1) := by decide +kernel
theorem dX10_argumentOf_13 : decode cX10_argumentOf 13 = .ok (.getfield 41, 3) := by decide +kernel
theorem dX10_argumentOf_16 : decode cX10_argumentOf 16 = .ok (.iconst 3, 1) := by decide +kernel
theorem dX10_argumentOf_17 : decode cX10_argumentOf 17 = .ok (.iload_n 1, 1) := by decide +kernel
theorem dX10_argumentOf_18 : decode cX10_argumentOf 18 = .ok (.imul, 1) := by decide +kernel
theorem dX10_argumentOf_19 : decode cX10_argumentOf 19 = .ok (.iload_n 3, 1) := by decide +kernel
theorem dX10_argumentOf_20 : decode cX10_argumentOf 20 = .ok (.iadd, 1) := by decide +kernel
theorem dX10_argumentOf_21 : decode cX10_argumentOf 21 = .ok (.iaload, 1) := by decide +kernel
theorem dX10_argumentOf_22 : decode cX10_argumentOf 22 = .ok (.iload_n 2, 1) := by decide +kernel
theorem dX10_argumentOf_23 : decode cX10_argumentOf 23 = .ok (.if_icmp .ne 5, 3) := by decide +kernel
theorem dX10_argumentOf_26 : decode cX10_argumentOf 26 = .ok (.iload_n 3, 1) := by decide +kernel
theorem dX10_argumentOf_27 : decode cX10_argumentOf 27 = .ok (.ireturn, 1) := by decide +kernel
theorem dX10_argumentOf_28 : decode cX10_argumentOf 28 = .ok (.iinc 3 1, 3) := by decide +kernel
theorem dX10_argumentOf_31 : decode cX10_argumentOf 31 = .ok (.goto (-29), 3) := by decide +kernel
theorem dX10_argumentOf_34 : decode cX10_argumentOf 34 = .ok (.iconst (-1), 1) := by decide +kernel
theorem dX10_argumentOf_35 : decode cX10_argumentOf 35 = .ok (.ireturn, 1) := by decide +kernel
theorem dX10_isCalled_0 : decode cX10_isCalled 0 = .ok (.aload_n 0, 1) := by decide +kernel
theorem dX10_isCalled_1 : decode cX10_isCalled 1 = .ok (.getfield 17, 3) := by decide +kernel
theorem dX10_isCalled_4 : decode cX10_isCalled 4 = .ok (.iload_n 1, 1) := by decide +kernel
theorem dX10_isCalled_5 : decode cX10_isCalled 5 = .ok (.iaload, 1) := by decide +kernel
theorem dX10_isCalled_6 : decode cX10_isCalled 6 = .ok (.iconst 2, 1) := by decide +kernel
theorem dX10_isCalled_7 : decode cX10_isCalled 7 = .ok (.if_icmp .eq 13, 3) := by decide +kernel
theorem dX10_isCalled_10 : decode cX10_isCalled 10 = .ok (.aload_n 0, 1) := by decide +kernel
theorem dX10_isCalled_11 : decode cX10_isCalled 11 = .ok (.getfield 17, 3) := by decide +kernel
theorem dX10_isCalled_14 : decode cX10_isCalled 14 = .ok (.iload_n 1, 1) := by decide +kernel
theorem dX10_isCalled_15 : decode cX10_isCalled 15 = .ok (.iaload, 1) := by decide +kernel
theorem dX10_isCalled_16 : decode cX10_isCalled 16 = .ok (.iconst 3, 1) := by decide +kernel
theorem dX10_isCalled_17 : decode cX10_isCalled 17 = .ok (.if_icmp .ne 7, 3) := by decide +kernel
theorem dX10_isCalled_20 : decode cX10_isCalled 20 = .ok (.iconst 1, 1) := by decide +kernel
theorem dX10_isCalled_21 : decode cX10_isCalled 21 = .ok (.goto 4, 3) := by decide +kernel
theorem dX10_isCalled_24 : decode cX10_isCalled 24 = .ok (.iconst 0, 1) := by decide +kernel
theorem dX10_isCalled_25 : decode cX10_isCalled 25 = .ok (.ireturn, 1) := by decide +kernel
theorem dX10_named_0 : decode cX10_named 0 = .ok (.aload_n 0, 1) := by decide +kernel
theorem dX10_named_1 : decode cX10_named 1 = .ok (.getfield 77, 3) := by decide +kernel
theorem dX10_named_4 : decode cX10_named 4 = .ok (.iload_n 1, 1) := by decide +kernel
theorem dX10_named_5 : decode cX10_named 5 = .ok (.laload, 1) := by decide +kernel
theorem dX10_named_6 : decode cX10_named 6 = .ok (.l2i, 1) := by decide +kernel
theorem dX10_named_7 : decode cX10_named 7 = .ok (.istore_n 2, 1) := by decide +kernel
theorem dX10_named_8 : decode cX10_named 8 = .ok (.aload_n 0, 1) := by decide +kernel
theorem dX10_named_9 : decode cX10_named 9 = .ok (.getfield 288, 3) := by decide +kernel
theorem dX10_named_12 : decode cX10_named 12 = .ok (.ifCond .le 20, 3) := by decide +kernel
theorem dX10_named_15 : decode cX10_named 15 = .ok (.aload_n 0, 1) := by decide +kernel
theorem dX10_named_16 : decode cX10_named 16 = .ok (.aload_n 0, 1) := by decide +kernel
theorem dX10_named_17 : decode cX10_named 17 = .ok (.getfield 129, 3) := by decide +kernel
theorem dX10_named_20 : decode cX10_named 20 = .ok (.aload_n 0, 1) := by decide +kernel
theorem dX10_named_21 : decode cX10_named 21 = .ok (.getfield 288, 3) := by decide +kernel
theorem dX10_named_24 : decode cX10_named 24 = .ok (.iaload, 1) := by decide +kernel
theorem dX10_named_25 : decode cX10_named 25 = .ok (.iload_n 2, 1) := by decide +kernel
theorem dX10_named_26 : decode cX10_named 26 = .ok (.invokevirtual 291, 3) := by decide +kernel
theorem dX10_named_29 : decode cX10_named 29 = .ok (.goto 4, 3) := by decide +kernel
theorem dX10_named_32 : decode cX10_named 32 = .ok (.iconst (-1), 1) := by decide +kernel
theorem dX10_named_33 : decode cX10_named 33 = .ok (.istore_n 3, 1) := by decide +kernel
theorem dX10_named_34 : decode cX10_named 34 = .ok (.iload_n 3, 1) := by decide +kernel
theorem dX10_named_35 : decode cX10_named 35 = .ok (.ifCond .lt 36, 3) := by decide +kernel
theorem dX10_named_38 : decode cX10_named 38 = .ok (.aload_n 0, 1) := by decide +kernel
theorem dX10_named_39 : decode cX10_named 39 = .ok (.aload_n 0, 1) := by decide +kernel
theorem dX10_named_40 : decode cX10_named 40 = .ok (.getfield 132, 3) := by decide +kernel
theorem dX10_named_43 : decode cX10_named 43 = .ok (.iconst 3, 1) := by decide +kernel
theorem dX10_named_44 : decode cX10_named 44 = .ok (.aload_n 0, 1) := by decide +kernel
theorem dX10_named_45 : decode cX10_named 45 = .ok (.getfield 288, 3) := by decide +kernel
theorem dX10_named_48 : decode cX10_named 48 = .ok (.imul, 1) := by decide +kernel
theorem dX10_named_49 : decode cX10_named 49 = .ok (.iload_n 3, 1) := by decide +kernel
theorem dX10_named_50 : decode cX10_named 50 = .ok (.iadd, 1) := by decide +kernel
theorem dX10_named_51 : decode cX10_named 51 = .ok (.iaload, 1) := by decide +kernel
theorem dX10_named_52 : decode cX10_named 52 = .ok (.aload_n 0, 1) := by decide +kernel
theorem dX10_named_53 : decode cX10_named 53 = .ok (.getfield 135, 3) := by decide +kernel
theorem dX10_named_56 : decode cX10_named 56 = .ok (.iconst 3, 1) := by decide +kernel
theorem dX10_named_57 : decode cX10_named 57 = .ok (.aload_n 0, 1) := by decide +kernel
theorem dX10_named_58 : decode cX10_named 58 = .ok (.getfield 288, 3) := by decide +kernel
theorem dX10_named_61 : decode cX10_named 61 = .ok (.imul, 1) := by decide +kernel
theorem dX10_named_62 : decode cX10_named 62 = .ok (.iload_n 3, 1) := by decide +kernel
theorem dX10_named_63 : decode cX10_named 63 = .ok (.iadd, 1) := by decide +kernel
theorem dX10_named_64 : decode cX10_named 64 = .ok (.laload, 1) := by decide +kernel
theorem dX10_named_65 : decode cX10_named 65 = .ok (.invokevirtual 295, 3) := by decide +kernel
theorem dX10_named_68 : decode cX10_named 68 = .ok (.goto 38, 3) := by decide +kernel
theorem dX10_named_71 : decode cX10_named 71 = .ok (.aload_n 0, 1) := by decide +kernel
theorem dX10_named_72 : decode cX10_named 72 = .ok (.getfield 17, 3) := by decide +kernel
theorem dX10_named_75 : decode cX10_named 75 = .ok (.iload_n 2, 1) := by decide +kernel
theorem dX10_named_76 : decode cX10_named 76 = .ok (.iaload, 1) := by decide +kernel
theorem dX10_named_77 : decode cX10_named 77 = .ok (.iconst 1, 1) := by decide +kernel
theorem dX10_named_78 : decode cX10_named 78 = .ok (.if_icmp .ne 22, 3) := by decide +kernel
theorem dX10_named_81 : decode cX10_named 81 = .ok (.aload_n 0, 1) := by decide +kernel
theorem dX10_named_82 : decode cX10_named 82 = .ok (.aload_n 0, 1) := by decide +kernel
theorem dX10_named_83 : decode cX10_named 83 = .ok (.getfield 26, 3) := by decide +kernel
theorem dX10_named_86 : decode cX10_named 86 = .ok (.iload_n 2, 1) := by decide +kernel
theorem dX10_named_87 : decode cX10_named 87 = .ok (.iaload, 1) := by decide +kernel
theorem dX10_named_88 : decode cX10_named 88 = .ok (.aload_n 0, 1) := by decide +kernel
theorem dX10_named_89 : decode cX10_named 89 = .ok (.getfield 29, 3) := by decide +kernel
theorem dX10_named_92 : decode cX10_named 92 = .ok (.iload_n 2, 1) := by decide +kernel
theorem dX10_named_93 : decode cX10_named 93 = .ok (.laload, 1) := by decide +kernel
theorem dX10_named_94 : decode cX10_named 94 = .ok (.invokevirtual 295, 3) := by decide +kernel
theorem dX10_named_97 : decode cX10_named 97 = .ok (.goto 9, 3) := by decide +kernel
theorem dX10_named_100 : decode cX10_named 100 = .ok (.aload_n 0, 1) := by decide +kernel
theorem dX10_named_101 : decode cX10_named 101 = .ok (.iconst 1, 1) := by decide +kernel
theorem dX10_named_102 : decode cX10_named 102 = .ok (.iload_n 1, 1) := by decide +kernel
theorem dX10_named_103 : decode cX10_named 103 = .ok (.invokevirtual 299, 3) := by decide +kernel
theorem dX10_named_106 : decode cX10_named 106 = .ok (.aload_n 0, 1) := by decide +kernel
theorem dX10_named_107 : decode cX10_named 107 = .ok (.dup, 1) := by decide +kernel
theorem dX10_named_108 : decode cX10_named 108 = .ok (.getfield 282, 3) := by decide +kernel
theorem dX10_named_111 : decode cX10_named 111 = .ok (.iconst 1, 1) := by decide +kernel
theorem dX10_named_112 : decode cX10_named 112 = .ok (.isub, 1) := by decide +kernel
theorem dX10_named_113 : decode cX10_named 113 = .ok (.putfield 282, 3) := by decide +kernel
theorem dX10_named_116 : decode cX10_named 116 = .ok (.return_, 1) := by decide +kernel
theorem dX10_begins_0 : decode cX10_begins 0 = .ok (.aload_n 0, 1) := by decide +kernel
theorem dX10_begins_1 : decode cX10_begins 1 = .ok (.getfield 302, 3) := by decide +kernel
theorem dX10_begins_4 : decode cX10_begins 4 = .ok (.sipush 400, 3) := by decide +kernel
theorem dX10_begins_7 : decode cX10_begins 7 = .ok (.if_icmp .ne 11, 3) := by decide +kernel
theorem dX10_begins_10 : decode cX10_begins 10 = .ok (.aload_n 0, 1) := by decide +kernel
theorem dX10_begins_11 : decode cX10_begins 11 = .ok (.bipush 8, 2) := by decide +kernel
theorem dX10_begins_13 : decode cX10_begins 13 = .ok (.iload_n 1, 1) := by decide +kernel
theorem dX10_begins_14 : decode cX10_begins 14 = .ok (.invokevirtual 299, 3) := by decide +kernel
theorem dX10_begins_17 : decode cX10_begins 17 = .ok (.return_, 1) := by decide +kernel
theorem dX10_begins_18 : decode cX10_begins 18 = .ok (.aload_n 0, 1) := by decide +kernel
theorem dX10_begins_19 : decode cX10_begins 19 = .ok (.dup, 1) := by decide +kernel
theorem dX10_begins_20 : decode cX10_begins 20 = .ok (.getfield 302, 3) := by decide +kernel
theorem dX10_begins_23 : decode cX10_begins 23 = .ok (.iconst 1, 1) := by decide +kernel
theorem dX10_begins_24 : decode cX10_begins 24 = .ok (.iadd, 1) := by decide +kernel
theorem dX10_begins_25 : decode cX10_begins 25 = .ok (.putfield 302, 3) := by decide +kernel
theorem dX10_begins_28 : decode cX10_begins 28 = .ok (.aload_n 0, 1) := by decide +kernel
theorem dX10_begins_29 : decode cX10_begins 29 = .ok (.getfield 141, 3) := by decide +kernel
theorem dX10_begins_32 : decode cX10_begins 32 = .ok (.aload_n 0, 1) := by decide +kernel
theorem dX10_begins_33 : decode cX10_begins 33 = .ok (.getfield 282, 3) := by decide +kernel
theorem dX10_begins_36 : decode cX10_begins 36 = .ok (.iconst 1, 1) := by decide +kernel
theorem dX10_begins_37 : decode cX10_begins 37 = .ok (.isub, 1) := by decide +kernel
theorem dX10_begins_38 : decode cX10_begins 38 = .ok (.iconst 1, 1) := by decide +kernel
theorem dX10_begins_39 : decode cX10_begins 39 = .ok (.iastore, 1) := by decide +kernel
theorem dX10_begins_40 : decode cX10_begins 40 = .ok (.aload_n 0, 1) := by decide +kernel
theorem dX10_begins_41 : decode cX10_begins 41 = .ok (.getfield 56, 3) := by decide +kernel
theorem dX10_begins_44 : decode cX10_begins 44 = .ok (.iload_n 1, 1) := by decide +kernel
theorem dX10_begins_45 : decode cX10_begins 45 = .ok (.iaload, 1) := by decide +kernel
theorem dX10_begins_46 : decode cX10_begins 46 = .ok (.tableswitch 203 0 3 #[30, 54, 112, 120], 30) := by decide +kernel
theorem dX10_begins_76 : decode cX10_begins 76 = .ok (.aload_n 0, 1) := by decide +kernel
theorem dX10_begins_77 : decode cX10_begins 77 = .ok (.iconst 1, 1) := by decide +kernel
theorem dX10_begins_78 : decode cX10_begins 78 = .ok (.aload_n 0, 1) := by decide +kernel
theorem dX10_begins_79 : decode cX10_begins 79 = .ok (.getfield 77, 3) := by decide +kernel
theorem dX10_begins_82 : decode cX10_begins 82 = .ok (.iload_n 1, 1) := by decide +kernel
theorem dX10_begins_83 : decode cX10_begins 83 = .ok (.laload, 1) := by decide +kernel
theorem dX10_begins_84 : decode cX10_begins 84 = .ok (.invokevirtual 295, 3) := by decide +kernel
theorem dX10_begins_87 : decode cX10_begins 87 = .ok (.aload_n 0, 1) := by decide +kernel
theorem dX10_begins_88 : decode cX10_begins 88 = .ok (.dup, 1) := by decide +kernel
theorem dX10_begins_89 : decode cX10_begins 89 = .ok (.getfield 282, 3) := by decide +kernel
theorem dX10_begins_92 : decode cX10_begins 92 = .ok (.iconst 1, 1) := by decide +kernel
theorem dX10_begins_93 : decode cX10_begins 93 = .ok (.isub, 1) := by decide +kernel
theorem dX10_begins_94 : decode cX10_begins 94 = .ok (.putfield 282, 3) := by decide +kernel
theorem dX10_begins_97 : decode cX10_begins 97 = .ok (.goto 162, 3) := by decide +kernel
theorem dX10_begins_100 : decode cX10_begins 100 = .ok (.aload_n 0, 1) := by decide +kernel
theorem dX10_begins_101 : decode cX10_begins 101 = .ok (.getfield 77, 3) := by decide +kernel
theorem dX10_begins_104 : decode cX10_begins 104 = .ok (.iload_n 1, 1) := by decide +kernel
theorem dX10_begins_105 : decode cX10_begins 105 = .ok (.laload, 1) := by decide +kernel
theorem dX10_begins_106 : decode cX10_begins 106 = .ok (.l2i, 1) := by decide +kernel
theorem dX10_begins_107 : decode cX10_begins 107 = .ok (.istore_n 2, 1) := by decide +kernel
theorem dX10_begins_108 : decode cX10_begins 108 = .ok (.iload_n 2, 1) := by decide +kernel
theorem dX10_begins_109 : decode cX10_begins 109 = .ok (.iconst 1, 1) := by decide +kernel
theorem dX10_begins_110 : decode cX10_begins 110 = .ok (.aload_n 0, 1) := by decide +kernel
theorem dX10_begins_111 : decode cX10_begins 111 = .ok (.getfield 305, 3) := by decide +kernel
theorem dX10_begins_114 : decode cX10_begins 114 = .ok (.invokestatic 160, 3) := by decide +kernel
theorem dX10_begins_117 : decode cX10_begins 117 = .ok (.ifCond .ne 12, 3) := by decide +kernel
theorem dX10_begins_120 : decode cX10_begins 120 = .ok (.aload_n 0, 1) := by decide +kernel
theorem dX10_begins_121 : decode cX10_begins 121 = .ok (.iconst 1, 1) := by decide +kernel
theorem dX10_begins_122 : decode cX10_begins 122 = .ok (.iload_n 1, 1) := by decide +kernel
theorem dX10_begins_123 : decode cX10_begins 123 = .ok (.invokevirtual 299, 3) := by decide +kernel
theorem dX10_begins_126 : decode cX10_begins 126 = .ok (.goto 19, 3) := by decide +kernel
theorem dX10_begins_129 : decode cX10_begins 129 = .ok (.aload_n 0, 1) := by decide +kernel
theorem dX10_begins_130 : decode cX10_begins 130 = .ok (.aload_n 0, 1) := by decide +kernel
theorem dX10_begins_131 : decode cX10_begins 131 = .ok (.getfield 80, 3) := by decide +kernel
theorem dX10_begins_134 : decode cX10_begins 134 = .ok (.iload_n 2, 1) := by decide +kernel
theorem dX10_begins_135 : decode cX10_begins 135 = .ok (.iaload, 1) := by decide +kernel
theorem dX10_begins_136 : decode cX10_begins 136 = .ok (.aload_n 0, 1) := by decide +kernel
theorem dX10_begins_137 : decode cX10_begins 137 = .ok (.getfield 83, 3) := by decide +kernel
theorem dX10_begins_140 : decode cX10_begins 140 = .ok (.iload_n 2, 1) := by decide +kernel
theorem dX10_begins_141 : decode cX10_begins 141 = .ok (.laload, 1) := by decide +kernel
theorem dX10_begins_142 : decode cX10_begins 142 = .ok (.invokevirtual 295, 3) := by decide +kernel
theorem dX10_begins_145 : decode cX10_begins 145 = .ok (.aload_n 0, 1) := by decide +kernel
theorem dX10_begins_146 : decode cX10_begins 146 = .ok (.dup, 1) := by decide +kernel
theorem dX10_begins_147 : decode cX10_begins 147 = .ok (.getfield 282, 3) := by decide +kernel
theorem dX10_begins_150 : decode cX10_begins 150 = .ok (.iconst 1, 1) := by decide +kernel
theorem dX10_begins_151 : decode cX10_begins 151 = .ok (.isub, 1) := by decide +kernel
theorem dX10_begins_152 : decode cX10_begins 152 = .ok (.putfield 282, 3) := by decide +kernel
theorem dX10_begins_155 : decode cX10_begins 155 = .ok (.goto 104, 3) := by decide +kernel
theorem dX10_begins_158 : decode cX10_begins 158 = .ok (.aload_n 0, 1) := by decide +kernel
theorem dX10_begins_159 : decode cX10_begins 159 = .ok (.iload_n 1, 1) := by decide +kernel
theorem dX10_begins_160 : decode cX10_begins 160 = .ok (.invokevirtual 308, 3) := by decide +kernel
theorem dX10_begins_163 : decode cX10_begins 163 = .ok (.goto 96, 3) := by decide +kernel
theorem dX10_begins_166 : decode cX10_begins 166 = .ok (.aload_n 0, 1) := by decide +kernel
theorem dX10_begins_167 : decode cX10_begins 167 = .ok (.getfield 77, 3) := by decide +kernel
theorem dX10_begins_170 : decode cX10_begins 170 = .ok (.iload_n 1, 1) := by decide +kernel
theorem dX10_begins_171 : decode cX10_begins 171 = .ok (.laload, 1) := by decide +kernel
theorem dX10_begins_172 : decode cX10_begins 172 = .ok (.l2i, 1) := by decide +kernel
theorem dX10_begins_173 : decode cX10_begins 173 = .ok (.istore_n 3, 1) := by decide +kernel
theorem dX10_begins_174 : decode cX10_begins 174 = .ok (.aload_n 0, 1) := by decide +kernel
theorem dX10_begins_175 : decode cX10_begins 175 = .ok (.iload_n 3, 1) := by decide +kernel
theorem dX10_begins_176 : decode cX10_begins 176 = .ok (.invokevirtual 311, 3) := by decide +kernel
theorem dX10_begins_179 : decode cX10_begins 179 = .ok (.ifCond .ne 12, 3) := by decide +kernel
theorem dX10_begins_182 : decode cX10_begins 182 = .ok (.aload_n 0, 1) := by decide +kernel
theorem dX10_begins_183 : decode cX10_begins 183 = .ok (.iconst 1, 1) := by decide +kernel
theorem dX10_begins_184 : decode cX10_begins 184 = .ok (.iload_n 1, 1) := by decide +kernel
theorem dX10_begins_185 : decode cX10_begins 185 = .ok (.invokevirtual 299, 3) := by decide +kernel
theorem dX10_begins_188 : decode cX10_begins 188 = .ok (.goto 71, 3) := by decide +kernel
theorem dX10_begins_191 : decode cX10_begins 191 = .ok (.aload_n 0, 1) := by decide +kernel
theorem dX10_begins_192 : decode cX10_begins 192 = .ok (.getfield 38, 3) := by decide +kernel
theorem dX10_begins_195 : decode cX10_begins 195 = .ok (.aload_n 0, 1) := by decide +kernel
theorem dX10_begins_196 : decode cX10_begins 196 = .ok (.getfield 20, 3) := by decide +kernel
theorem dX10_begins_199 : decode cX10_begins 199 = .ok (.iload_n 3, 1) := by decide +kernel
theorem dX10_begins_200 : decode cX10_begins 200 = .ok (.iaload, 1) := by decide +kernel
theorem dX10_begins_201 : decode cX10_begins 201 = .ok (.iaload, 1) := by decide +kernel
theorem dX10_begins_202 : decode cX10_begins 202 = .ok (.aload_n 0, 1) := by decide +kernel
theorem dX10_begins_203 : decode cX10_begins 203 = .ok (.getfield 74, 3) := by decide +kernel
theorem dX10_begins_206 : decode cX10_begins 206 = .ok (.iload_n 1, 1) := by decide +kernel
theorem dX10_begins_207 : decode cX10_begins 207 = .ok (.iaload, 1) := by decide +kernel
theorem dX10_begins_208 : decode cX10_begins 208 = .ok (.if_icmp .eq 12, 3) := by decide +kernel
theorem dX10_begins_211 : decode cX10_begins 211 = .ok (.aload_n 0, 1) := by decide +kernel
theorem dX10_begins_212 : decode cX10_begins 212 = .ok (.iconst 5, 1) := by decide +kernel
theorem dX10_begins_213 : decode cX10_begins 213 = .ok (.iload_n 1, 1) := by decide +kernel
theorem dX10_begins_214 : decode cX10_begins 214 = .ok (.invokevirtual 299, 3) := by decide +kernel
theorem dX10_begins_217 : decode cX10_begins 217 = .ok (.goto 42, 3) := by decide +kernel
theorem dX10_begins_220 : decode cX10_begins 220 = .ok (.aload_n 0, 1) := by decide +kernel
theorem dX10_begins_221 : decode cX10_begins 221 = .ok (.getfield 17, 3) := by decide +kernel
theorem dX10_begins_224 : decode cX10_begins 224 = .ok (.iload_n 3, 1) := by decide +kernel
theorem dX10_begins_225 : decode cX10_begins 225 = .ok (.iaload, 1) := by decide +kernel
theorem dX10_begins_226 : decode cX10_begins 226 = .ok (.iconst 2, 1) := by decide +kernel
theorem dX10_begins_227 : decode cX10_begins 227 = .ok (.if_icmp .ne 32, 3) := by decide +kernel
theorem dX10_begins_230 : decode cX10_begins 230 = .ok (.aload_n 0, 1) := by decide +kernel
theorem dX10_begins_231 : decode cX10_begins 231 = .ok (.getfield 288, 3) := by decide +kernel
theorem dX10_begins_234 : decode cX10_begins 234 = .ok (.bipush 20, 2) := by decide +kernel
theorem dX10_begins_236 : decode cX10_begins 236 = .ok (.if_icmp .ne 23, 3) := by decide +kernel
theorem dX10_begins_239 : decode cX10_begins 239 = .ok (.aload_n 0, 1) := by decide +kernel
theorem dX10_begins_240 : decode cX10_begins 240 = .ok (.bipush 9, 2) := by decide +kernel
theorem dX10_begins_242 : decode cX10_begins 242 = .ok (.iload_n 1, 1) := by decide +kernel
theorem dX10_begins_243 : decode cX10_begins 243 = .ok (.invokevirtual 299, 3) := by decide +kernel
theorem dX10_begins_246 : decode cX10_begins 246 = .ok (.goto 13, 3) := by decide +kernel
theorem dX10_begins_249 : decode cX10_begins 249 = .ok (.aload_n 0, 1) := by decide +kernel
theorem dX10_begins_250 : decode cX10_begins 250 = .ok (.aload_n 0, 1) := by decide +kernel
theorem dX10_begins_251 : decode cX10_begins 251 = .ok (.getfield 59, 3) := by decide +kernel
theorem dX10_begins_254 : decode cX10_begins 254 = .ok (.iload_n 1, 1) := by decide +kernel
theorem dX10_begins_255 : decode cX10_begins 255 = .ok (.iaload, 1) := by decide +kernel
theorem dX10_begins_256 : decode cX10_begins 256 = .ok (.invokevirtual 314, 3) := by decide +kernel
theorem dX10_begins_259 : decode cX10_begins 259 = .ok (.return_, 1) := by decide +kernel
theorem dX10_calls_0 : decode cX10_calls 0 = .ok (.aload_n 0, 1) := by decide +kernel
theorem dX10_calls_1 : decode cX10_calls 1 = .ok (.getfield 282, 3) := by decide +kernel
theorem dX10_calls_4 : decode cX10_calls 4 = .ok (.iconst 1, 1) := by decide +kernel
theorem dX10_calls_5 : decode cX10_calls 5 = .ok (.isub, 1) := by decide +kernel
theorem dX10_calls_6 : decode cX10_calls 6 = .ok (.istore_n 2, 1) := by decide +kernel
theorem dX10_calls_7 : decode cX10_calls 7 = .ok (.aload_n 0, 1) := by decide +kernel
theorem dX10_calls_8 : decode cX10_calls 8 = .ok (.getfield 141, 3) := by decide +kernel
theorem dX10_calls_11 : decode cX10_calls 11 = .ok (.iload_n 2, 1) := by decide +kernel
theorem dX10_calls_12 : decode cX10_calls 12 = .ok (.iaload, 1) := by decide +kernel
theorem dX10_calls_13 : decode cX10_calls 13 = .ok (.iconst 1, 1) := by decide +kernel
theorem dX10_calls_14 : decode cX10_calls 14 = .ok (.isub, 1) := by decide +kernel
theorem dX10_calls_15 : decode cX10_calls 15 = .ok (.istore_n 3, 1) := by decide +kernel
theorem dX10_calls_16 : decode cX10_calls 16 = .ok (.aload_n 0, 1) := by decide +kernel
theorem dX10_calls_17 : decode cX10_calls 17 = .ok (.getfield 77, 3) := by decide +kernel
theorem dX10_calls_20 : decode cX10_calls 20 = .ok (.iload_n 1, 1) := by decide +kernel
theorem dX10_calls_21 : decode cX10_calls 21 = .ok (.laload, 1) := by decide +kernel
theorem dX10_calls_22 : decode cX10_calls 22 = .ok (.l2i, 1) := by decide +kernel
theorem dX10_calls_23 : decode cX10_calls 23 = .ok (.istore 4, 2) := by decide +kernel
theorem dX10_calls_25 : decode cX10_calls 25 = .ok (.iload_n 3, 1) := by decide +kernel
theorem dX10_calls_26 : decode cX10_calls 26 = .ok (.aload_n 0, 1) := by decide +kernel
theorem dX10_calls_27 : decode cX10_calls 27 = .ok (.getfield 74, 3) := by decide +kernel
theorem dX10_calls_30 : decode cX10_calls 30 = .ok (.iload_n 1, 1) := by decide +kernel
theorem dX10_calls_31 : decode cX10_calls 31 = .ok (.iaload, 1) := by decide +kernel
theorem dX10_calls_32 : decode cX10_calls 32 = .ok (.if_icmp .ge 53, 3) := by decide +kernel
theorem dX10_calls_35 : decode cX10_calls 35 = .ok (.aload_n 0, 1) := by decide +kernel
theorem dX10_calls_36 : decode cX10_calls 36 = .ok (.getfield 141, 3) := by decide +kernel
theorem dX10_calls_39 : decode cX10_calls 39 = .ok (.iload_n 2, 1) := by decide +kernel
theorem dX10_calls_40 : decode cX10_calls 40 = .ok (.dup2, 1) := by decide +kernel
theorem dX10_calls_41 : decode cX10_calls 41 = .ok (.iaload, 1) := by decide +kernel
theorem dX10_calls_42 : decode cX10_calls 42 = .ok (.iconst 1, 1) := by decide +kernel
theorem dX10_calls_43 : decode cX10_calls 43 = .ok (.iadd, 1) := by decide +kernel
theorem dX10_calls_44 : decode cX10_calls 44 = .ok (.iastore, 1) := by decide +kernel
theorem dX10_calls_45 : decode cX10_calls 45 = .ok (.aload_n 0, 1) := by decide +kernel
theorem dX10_calls_46 : decode cX10_calls 46 = .ok (.iload_n 3, 1) := by decide +kernel
theorem dX10_calls_47 : decode cX10_calls 47 = .ok (.ifCond .ne 12, 3) := by decide +kernel
theorem dX10_calls_50 : decode cX10_calls 50 = .ok (.aload_n 0, 1) := by decide +kernel
theorem dX10_calls_51 : decode cX10_calls 51 = .ok (.getfield 59, 3) := by decide +kernel
theorem dX10_calls_54 : decode cX10_calls 54 = .ok (.iload_n 1, 1) := by decide +kernel
theorem dX10_calls_55 : decode cX10_calls 55 = .ok (.iaload, 1) := by decide +kernel
theorem dX10_calls_56 : decode cX10_calls 56 = .ok (.goto 23, 3) := by decide +kernel
theorem dX10_calls_59 : decode cX10_calls 59 = .ok (.iload_n 3, 1) := by decide +kernel
theorem dX10_calls_60 : decode cX10_calls 60 = .ok (.iconst 1, 1) := by decide +kernel
theorem dX10_calls_61 : decode cX10_calls 61 = .ok (.if_icmp .ne 12, 3) := by decide +kernel
theorem dX10_calls_64 : decode cX10_calls 64 = .ok (.aload_n 0, 1) := by decide +kernel
theorem dX10_calls_65 : decode cX10_calls 65 = .ok (.getfield 62, 3) := by decide +kernel
theorem dX10_calls_68 : decode cX10_calls 68 = .ok (.iload_n 1, 1) := by decide +kernel
theorem dX10_calls_69 : decode cX10_calls 69 = .ok (.iaload, 1) := by decide +kernel
theorem dX10_calls_70 : decode cX10_calls 70 = .ok (.goto 9, 3) := by decide +kernel
theorem dX10_calls_73 : decode cX10_calls 73 = .ok (.aload_n 0, 1) := by decide +kernel
theorem dX10_calls_74 : decode cX10_calls 74 = .ok (.getfield 65, 3) := by decide +kernel
theorem dX10_calls_77 : decode cX10_calls 77 = .ok (.iload_n 1, 1) := by decide +kernel
theorem dX10_calls_78 : decode cX10_calls 78 = .ok (.iaload, 1) := by decide +kernel
theorem dX10_calls_79 : decode cX10_calls 79 = .ok (.invokevirtual 314, 3) := by decide +kernel
theorem dX10_calls_82 : decode cX10_calls 82 = .ok (.goto 322, 3) := by decide +kernel
theorem dX10_calls_85 : decode cX10_calls 85 = .ok (.iload_n 3, 1) := by decide +kernel
theorem dX10_calls_86 : decode cX10_calls 86 = .ok (.aload_n 0, 1) := by decide +kernel
theorem dX10_calls_87 : decode cX10_calls 87 = .ok (.getfield 74, 3) := by decide +kernel
theorem dX10_calls_90 : decode cX10_calls 90 = .ok (.iload_n 1, 1) := by decide +kernel
theorem dX10_calls_91 : decode cX10_calls 91 = .ok (.iaload, 1) := by decide +kernel
theorem dX10_calls_92 : decode cX10_calls 92 = .ok (.if_icmp .le 26, 3) := by decide +kernel
theorem dX10_calls_95 : decode cX10_calls 95 = .ok (.aload_n 0, 1) := by decide +kernel
theorem dX10_calls_96 : decode cX10_calls 96 = .ok (.dup, 1) := by decide +kernel
theorem dX10_calls_97 : decode cX10_calls 97 = .ok (.getfield 288, 3) := by decide +kernel
theorem dX10_calls_100 : decode cX10_calls 100 = .ok (.iconst 1, 1) := by decide +kernel
theorem dX10_calls_101 : decode cX10_calls 101 = .ok (.isub, 1) := by decide +kernel
theorem dX10_calls_102 : decode cX10_calls 102 = .ok (.putfield 288, 3) := by decide +kernel
theorem dX10_calls_105 : decode cX10_calls 105 = .ok (.aload_n 0, 1) := by decide +kernel
theorem dX10_calls_106 : decode cX10_calls 106 = .ok (.dup, 1) := by decide +kernel
theorem dX10_calls_107 : decode cX10_calls 107 = .ok (.getfield 282, 3) := by decide +kernel
theorem dX10_calls_110 : decode cX10_calls 110 = .ok (.iconst 1, 1) := by decide +kernel
theorem dX10_calls_111 : decode cX10_calls 111 = .ok (.isub, 1) := by decide +kernel
theorem dX10_calls_112 : decode cX10_calls 112 = .ok (.putfield 282, 3) := by decide +kernel
theorem dX10_calls_115 : decode cX10_calls 115 = .ok (.goto 289, 3) := by decide +kernel
theorem dX10_calls_118 : decode cX10_calls 118 = .ok (.aload_n 0, 1) := by decide +kernel
theorem dX10_calls_119 : decode cX10_calls 119 = .ok (.getfield 17, 3) := by decide +kernel
theorem dX10_calls_122 : decode cX10_calls 122 = .ok (.iload 4, 2) := by decide +kernel
theorem dX10_calls_124 : decode cX10_calls 124 = .ok (.iaload, 1) := by decide +kernel
theorem dX10_calls_125 : decode cX10_calls 125 = .ok (.iconst 3, 1) := by decide +kernel
theorem dX10_calls_126 : decode cX10_calls 126 = .ok (.if_icmp .ne 139, 3) := by decide +kernel
theorem dX10_calls_129 : decode cX10_calls 129 = .ok (.aload_n 0, 1) := by decide +kernel
theorem dX10_calls_130 : decode cX10_calls 130 = .ok (.dup, 1) := by decide +kernel
theorem dX10_calls_131 : decode cX10_calls 131 = .ok (.getfield 279, 3) := by decide +kernel
theorem dX10_calls_134 : decode cX10_calls 134 = .ok (.aload_n 0, 1) := by decide +kernel
theorem dX10_calls_135 : decode cX10_calls 135 = .ok (.getfield 74, 3) := by decide +kernel
theorem dX10_calls_138 : decode cX10_calls 138 = .ok (.iload_n 1, 1) := by decide +kernel
theorem dX10_calls_139 : decode cX10_calls 139 = .ok (.iaload, 1) := by decide +kernel
theorem dX10_calls_140 : decode cX10_calls 140 = .ok (.isub, 1) := by decide +kernel
theorem dX10_calls_141 : decode cX10_calls 141 = .ok (.putfield 279, 3) := by decide +kernel
theorem dX10_calls_144 : decode cX10_calls 144 = .ok (.aload_n 0, 1) := by decide +kernel
theorem dX10_calls_145 : decode cX10_calls 145 = .ok (.getfield 86, 3) := by decide +kernel
theorem dX10_calls_148 : decode cX10_calls 148 = .ok (.aload_n 0, 1) := by decide +kernel
theorem dX10_calls_149 : decode cX10_calls 149 = .ok (.getfield 317, 3) := by decide +kernel
theorem dX10_calls_152 : decode cX10_calls 152 = .ok (.aload_n 0, 1) := by decide +kernel
theorem dX10_calls_153 : decode cX10_calls 153 = .ok (.getfield 20, 3) := by decide +kernel
theorem dX10_calls_156 : decode cX10_calls 156 = .ok (.iload 4, 2) := by decide +kernel
theorem dX10_calls_158 : decode cX10_calls 158 = .ok (.iaload, 1) := by decide +kernel
theorem dX10_calls_159 : decode cX10_calls 159 = .ok (.iastore, 1) := by decide +kernel
theorem dX10_calls_160 : decode cX10_calls 160 = .ok (.iconst 0, 1) := by decide +kernel
theorem dX10_calls_161 : decode cX10_calls 161 = .ok (.istore 5, 2) := by decide +kernel
theorem dX10_calls_163 : decode cX10_calls 163 = .ok (.iload 5, 2) := by decide +kernel
theorem dX10_calls_165 : decode cX10_calls 165 = .ok (.aload_n 0, 1) := by decide +kernel
theorem dX10_calls_166 : decode cX10_calls 166 = .ok (.getfield 74, 3) := by decide +kernel
theorem dX10_calls_169 : decode cX10_calls 169 = .ok (.iload_n 1, 1) := by decide +kernel
theorem dX10_calls_170 : decode cX10_calls 170 = .ok (.iaload, 1) := by decide +kernel
theorem dX10_calls_171 : decode cX10_calls 171 = .ok (.if_icmp .ge 61, 3) := by decide +kernel
theorem dX10_calls_174 : decode cX10_calls 174 = .ok (.aload_n 0, 1) := by decide +kernel
theorem dX10_calls_175 : decode cX10_calls 175 = .ok (.getfield 90, 3) := by decide +kernel
theorem dX10_calls_178 : decode cX10_calls 178 = .ok (.iconst 3, 1) := by decide +kernel
theorem dX10_calls_179 : decode cX10_calls 179 = .ok (.aload_n 0, 1) := by decide +kernel
theorem dX10_calls_180 : decode cX10_calls 180 = .ok (.getfield 317, 3) := by decide +kernel
theorem dX10_calls_183 : decode cX10_calls 183 = .ok (.imul, 1) := by decide +kernel
theorem dX10_calls_184 : decode cX10_calls 184 = .ok (.iload 5, 2) := by decide +kernel
theorem dX10_calls_186 : decode cX10_calls 186 = .ok (.iadd, 1) := by decide +kernel
theorem dX10_calls_187 : decode cX10_calls 187 = .ok (.aload_n 0, 1) := by decide +kernel
theorem dX10_calls_188 : decode cX10_calls 188 = .ok (.getfield 144, 3) := by decide +kernel
theorem dX10_calls_191 : decode cX10_calls 191 = .ok (.aload_n 0, 1) := by decide +kernel
theorem dX10_calls_192 : decode cX10_calls 192 = .ok (.getfield 279, 3) := by decide +kernel
theorem dX10_calls_195 : decode cX10_calls 195 = .ok (.iload 5, 2) := by decide +kernel
theorem dX10_calls_197 : decode cX10_calls 197 = .ok (.iadd, 1) := by decide +kernel
theorem dX10_calls_198 : decode cX10_calls 198 = .ok (.iaload, 1) := by decide +kernel
theorem dX10_calls_199 : decode cX10_calls 199 = .ok (.iastore, 1) := by decide +kernel
theorem dX10_calls_200 : decode cX10_calls 200 = .ok (.aload_n 0, 1) := by decide +kernel
theorem dX10_calls_201 : decode cX10_calls 201 = .ok (.getfield 93, 3) := by decide +kernel
theorem dX10_calls_204 : decode cX10_calls 204 = .ok (.iconst 3, 1) := by decide +kernel
theorem dX10_calls_205 : decode cX10_calls 205 = .ok (.aload_n 0, 1) := by decide +kernel
theorem dX10_calls_206 : decode cX10_calls 206 = .ok (.getfield 317, 3) := by decide +kernel
theorem dX10_calls_209 : decode cX10_calls 209 = .ok (.imul, 1) := by decide +kernel
theorem dX10_calls_210 : decode cX10_calls 210 = .ok (.iload 5, 2) := by decide +kernel
theorem dX10_calls_212 : decode cX10_calls 212 = .ok (.iadd, 1) := by decide +kernel
theorem dX10_calls_213 : decode cX10_calls 213 = .ok (.aload_n 0, 1) := by decide +kernel
theorem dX10_calls_214 : decode cX10_calls 214 = .ok (.getfield 147, 3) := by decide +kernel
theorem dX10_calls_217 : decode cX10_calls 217 = .ok (.aload_n 0, 1) := by decide +kernel
theorem dX10_calls_218 : decode cX10_calls 218 = .ok (.getfield 279, 3) := by decide +kernel
theorem dX10_calls_221 : decode cX10_calls 221 = .ok (.iload 5, 2) := by decide +kernel
theorem dX10_calls_223 : decode cX10_calls 223 = .ok (.iadd, 1) := by decide +kernel
theorem dX10_calls_224 : decode cX10_calls 224 = .ok (.laload, 1) := by decide +kernel
theorem dX10_calls_225 : decode cX10_calls 225 = .ok (.lastore, 1) := by decide +kernel
theorem dX10_calls_226 : decode cX10_calls 226 = .ok (.iinc 5 1, 3) := by decide +kernel
theorem dX10_calls_229 : decode cX10_calls 229 = .ok (.goto (-66), 3) := by decide +kernel
theorem dX10_calls_232 : decode cX10_calls 232 = .ok (.aload_n 0, 1) := by decide +kernel
theorem dX10_calls_233 : decode cX10_calls 233 = .ok (.iconst 2, 1) := by decide +kernel
theorem dX10_calls_234 : decode cX10_calls 234 = .ok (.aload_n 0, 1) := by decide +kernel
theorem dX10_calls_235 : decode cX10_calls 235 = .ok (.getfield 317, 3) := by decide +kernel
theorem dX10_calls_238 : decode cX10_calls 238 = .ok (.i2l, 1) := by decide +kernel
theorem dX10_calls_239 : decode cX10_calls 239 = .ok (.invokevirtual 295, 3) := by decide +kernel
theorem dX10_calls_242 : decode cX10_calls 242 = .ok (.aload_n 0, 1) := by decide +kernel
theorem dX10_calls_243 : decode cX10_calls 243 = .ok (.dup, 1) := by decide +kernel
theorem dX10_calls_244 : decode cX10_calls 244 = .ok (.getfield 317, 3) := by decide +kernel
theorem dX10_calls_247 : decode cX10_calls 247 = .ok (.iconst 1, 1) := by decide +kernel
theorem dX10_calls_248 : decode cX10_calls 248 = .ok (.iadd, 1) := by decide +kernel
theorem dX10_calls_249 : decode cX10_calls 249 = .ok (.putfield 317, 3) := by decide +kernel
theorem dX10_calls_252 : decode cX10_calls 252 = .ok (.aload_n 0, 1) := by decide +kernel
theorem dX10_calls_253 : decode cX10_calls 253 = .ok (.dup, 1) := by decide +kernel
theorem dX10_calls_254 : decode cX10_calls 254 = .ok (.getfield 282, 3) := by decide +kernel
theorem dX10_calls_257 : decode cX10_calls 257 = .ok (.iconst 1, 1) := by decide +kernel
theorem dX10_calls_258 : decode cX10_calls 258 = .ok (.isub, 1) := by decide +kernel
theorem dX10_calls_259 : decode cX10_calls 259 = .ok (.putfield 282, 3) := by decide +kernel
theorem dX10_calls_262 : decode cX10_calls 262 = .ok (.goto 142, 3) := by decide +kernel
theorem dX10_calls_265 : decode cX10_calls 265 = .ok (.aload_n 0, 1) := by decide +kernel
theorem dX10_calls_266 : decode cX10_calls 266 = .ok (.getfield 141, 3) := by decide +kernel
theorem dX10_calls_269 : decode cX10_calls 269 = .ok (.iload_n 2, 1) := by decide +kernel
theorem dX10_calls_270 : decode cX10_calls 270 = .ok (.dup2, 1) := by decide +kernel
theorem dX10_calls_271 : decode cX10_calls 271 = .ok (.iaload, 1) := by decide +kernel
theorem dX10_calls_272 : decode cX10_calls 272 = .ok (.iconst 1, 1) := by decide +kernel
theorem dX10_calls_273 : decode cX10_calls 273 = .ok (.iadd, 1) := by decide +kernel
theorem dX10_calls_274 : decode cX10_calls 274 = .ok (.iastore, 1) := by decide +kernel
theorem dX10_calls_275 : decode cX10_calls 275 = .ok (.aload_n 0, 1) := by decide +kernel
theorem dX10_calls_276 : decode cX10_calls 276 = .ok (.dup, 1) := by decide +kernel
theorem dX10_calls_277 : decode cX10_calls 277 = .ok (.getfield 279, 3) := by decide +kernel
theorem dX10_calls_280 : decode cX10_calls 280 = .ok (.aload_n 0, 1) := by decide +kernel
theorem dX10_calls_281 : decode cX10_calls 281 = .ok (.getfield 74, 3) := by decide +kernel
theorem dX10_calls_284 : decode cX10_calls 284 = .ok (.iload_n 1, 1) := by decide +kernel
theorem dX10_calls_285 : decode cX10_calls 285 = .ok (.iaload, 1) := by decide +kernel
theorem dX10_calls_286 : decode cX10_calls 286 = .ok (.isub, 1) := by decide +kernel
theorem dX10_calls_287 : decode cX10_calls 287 = .ok (.putfield 279, 3) := by decide +kernel
theorem dX10_calls_290 : decode cX10_calls 290 = .ok (.aload_n 0, 1) := by decide +kernel
theorem dX10_calls_291 : decode cX10_calls 291 = .ok (.dup, 1) := by decide +kernel
theorem dX10_calls_292 : decode cX10_calls 292 = .ok (.getfield 288, 3) := by decide +kernel
theorem dX10_calls_295 : decode cX10_calls 295 = .ok (.iconst 1, 1) := by decide +kernel
theorem dX10_calls_296 : decode cX10_calls 296 = .ok (.iadd, 1) := by decide +kernel
theorem dX10_calls_297 : decode cX10_calls 297 = .ok (.putfield 288, 3) := by decide +kernel
theorem dX10_calls_300 : decode cX10_calls 300 = .ok (.aload_n 0, 1) := by decide +kernel
theorem dX10_calls_301 : decode cX10_calls 301 = .ok (.getfield 129, 3) := by decide +kernel
theorem dX10_calls_304 : decode cX10_calls 304 = .ok (.aload_n 0, 1) := by decide +kernel
theorem dX10_calls_305 : decode cX10_calls 305 = .ok (.getfield 288, 3) := by decide +kernel
theorem dX10_calls_308 : decode cX10_calls 308 = .ok (.aload_n 0, 1) := by decide +kernel
theorem dX10_calls_309 : decode cX10_calls 309 = .ok (.getfield 20, 3) := by decide +kernel
theorem dX10_calls_312 : decode cX10_calls 312 = .ok (.iload 4, 2) := by decide +kernel
theorem dX10_calls_314 : decode cX10_calls 314 = .ok (.iaload, 1) := by decide +kernel
theorem dX10_calls_315 : decode cX10_calls 315 = .ok (.iastore, 1) := by decide +kernel
theorem dX10_calls_316 : decode cX10_calls 316 = .ok (.iconst 0, 1) := by decide +kernel
theorem dX10_calls_317 : decode cX10_calls 317 = .ok (.istore 5, 2) := by decide +kernel
theorem dX10_calls_319 : decode cX10_calls 319 = .ok (.iload 5, 2) := by decide +kernel
theorem dX10_calls_321 : decode cX10_calls 321 = .ok (.aload_n 0, 1) := by decide +kernel
theorem dX10_calls_322 : decode cX10_calls 322 = .ok (.getfield 74, 3) := by decide +kernel
theorem dX10_calls_325 : decode cX10_calls 325 = .ok (.iload_n 1, 1) := by decide +kernel
theorem dX10_calls_326 : decode cX10_calls 326 = .ok (.iaload, 1) := by decide +kernel
theorem dX10_calls_327 : decode cX10_calls 327 = .ok (.if_icmp .ge 61, 3) := by decide +kernel
theorem dX10_calls_330 : decode cX10_calls 330 = .ok (.aload_n 0, 1) := by decide +kernel
theorem dX10_calls_331 : decode cX10_calls 331 = .ok (.getfield 132, 3) := by decide +kernel
theorem dX10_calls_334 : decode cX10_calls 334 = .ok (.iconst 3, 1) := by decide +kernel
theorem dX10_calls_335 : decode cX10_calls 335 = .ok (.aload_n 0, 1) := by decide +kernel
theorem dX10_calls_336 : decode cX10_calls 336 = .ok (.getfield 288, 3) := by decide +kernel
theorem dX10_calls_339 : decode cX10_calls 339 = .ok (.imul, 1) := by decide +kernel
theorem dX10_calls_340 : decode cX10_calls 340 = .ok (.iload 5, 2) := by decide +kernel
theorem dX10_calls_342 : decode cX10_calls 342 = .ok (.iadd, 1) := by decide +kernel
theorem dX10_calls_343 : decode cX10_calls 343 = .ok (.aload_n 0, 1) := by decide +kernel
theorem dX10_calls_344 : decode cX10_calls 344 = .ok (.getfield 144, 3) := by decide +kernel
theorem dX10_calls_347 : decode cX10_calls 347 = .ok (.aload_n 0, 1) := by decide +kernel
theorem dX10_calls_348 : decode cX10_calls 348 = .ok (.getfield 279, 3) := by decide +kernel
theorem dX10_calls_351 : decode cX10_calls 351 = .ok (.iload 5, 2) := by decide +kernel
theorem dX10_calls_353 : decode cX10_calls 353 = .ok (.iadd, 1) := by decide +kernel
theorem dX10_calls_354 : decode cX10_calls 354 = .ok (.iaload, 1) := by decide +kernel
theorem dX10_calls_355 : decode cX10_calls 355 = .ok (.iastore, 1) := by decide +kernel
theorem dX10_calls_356 : decode cX10_calls 356 = .ok (.aload_n 0, 1) := by decide +kernel
theorem dX10_calls_357 : decode cX10_calls 357 = .ok (.getfield 135, 3) := by decide +kernel
theorem dX10_calls_360 : decode cX10_calls 360 = .ok (.iconst 3, 1) := by decide +kernel
theorem dX10_calls_361 : decode cX10_calls 361 = .ok (.aload_n 0, 1) := by decide +kernel
theorem dX10_calls_362 : decode cX10_calls 362 = .ok (.getfield 288, 3) := by decide +kernel
theorem dX10_calls_365 : decode cX10_calls 365 = .ok (.imul, 1) := by decide +kernel
theorem dX10_calls_366 : decode cX10_calls 366 = .ok (.iload 5, 2) := by decide +kernel
theorem dX10_calls_368 : decode cX10_calls 368 = .ok (.iadd, 1) := by decide +kernel
theorem dX10_calls_369 : decode cX10_calls 369 = .ok (.aload_n 0, 1) := by decide +kernel
theorem dX10_calls_370 : decode cX10_calls 370 = .ok (.getfield 147, 3) := by decide +kernel
theorem dX10_calls_373 : decode cX10_calls 373 = .ok (.aload_n 0, 1) := by decide +kernel
theorem dX10_calls_374 : decode cX10_calls 374 = .ok (.getfield 279, 3) := by decide +kernel
theorem dX10_calls_377 : decode cX10_calls 377 = .ok (.iload 5, 2) := by decide +kernel
theorem dX10_calls_379 : decode cX10_calls 379 = .ok (.iadd, 1) := by decide +kernel
theorem dX10_calls_380 : decode cX10_calls 380 = .ok (.laload, 1) := by decide +kernel
theorem dX10_calls_381 : decode cX10_calls 381 = .ok (.lastore, 1) := by decide +kernel
theorem dX10_calls_382 : decode cX10_calls 382 = .ok (.iinc 5 1, 3) := by decide +kernel
theorem dX10_calls_385 : decode cX10_calls 385 = .ok (.goto (-66), 3) := by decide +kernel
theorem dX10_calls_388 : decode cX10_calls 388 = .ok (.aload_n 0, 1) := by decide +kernel
theorem dX10_calls_389 : decode cX10_calls 389 = .ok (.aload_n 0, 1) := by decide +kernel
theorem dX10_calls_390 : decode cX10_calls 390 = .ok (.getfield 47, 3) := by decide +kernel
theorem dX10_calls_393 : decode cX10_calls 393 = .ok (.aload_n 0, 1) := by decide +kernel
theorem dX10_calls_394 : decode cX10_calls 394 = .ok (.getfield 20, 3) := by decide +kernel
theorem dX10_calls_397 : decode cX10_calls 397 = .ok (.iload 4, 2) := by decide +kernel
theorem dX10_calls_399 : decode cX10_calls 399 = .ok (.iaload, 1) := by decide +kernel
theorem dX10_calls_400 : decode cX10_calls 400 = .ok (.iaload, 1) := by decide +kernel
theorem dX10_calls_401 : decode cX10_calls 401 = .ok (.invokevirtual 314, 3) := by decide +kernel
theorem dX10_calls_404 : decode cX10_calls 404 = .ok (.return_, 1) := by decide +kernel
theorem dX10_isOld_0 : decode cX10_isOld 0 = .ok (.aload_n 0, 1) := by decide +kernel
theorem dX10_isOld_1 : decode cX10_isOld 1 = .ok (.getfield 86, 3) := by decide +kernel
theorem dX10_isOld_4 : decode cX10_isOld 4 = .ok (.iload_n 1, 1) := by decide +kernel
theorem dX10_isOld_5 : decode cX10_isOld 5 = .ok (.iaload, 1) := by decide +kernel
theorem dX10_isOld_6 : decode cX10_isOld 6 = .ok (.istore_n 2, 1) := by decide +kernel
theorem dX10_isOld_7 : decode cX10_isOld 7 = .ok (.aload_n 0, 1) := by decide +kernel
theorem dX10_isOld_8 : decode cX10_isOld 8 = .ok (.getfield 35, 3) := by decide +kernel
theorem dX10_isOld_11 : decode cX10_isOld 11 = .ok (.iload_n 2, 1) := by decide +kernel
theorem dX10_isOld_12 : decode cX10_isOld 12 = .ok (.iaload, 1) := by decide +kernel
theorem dX10_isOld_13 : decode cX10_isOld 13 = .ok (.istore_n 3, 1) := by decide +kernel
theorem dX10_isOld_14 : decode cX10_isOld 14 = .ok (.aload_n 0, 1) := by decide +kernel
theorem dX10_isOld_15 : decode cX10_isOld 15 = .ok (.getfield 17, 3) := by decide +kernel
theorem dX10_isOld_18 : decode cX10_isOld 18 = .ok (.iload_n 3, 1) := by decide +kernel
theorem dX10_isOld_19 : decode cX10_isOld 19 = .ok (.iaload, 1) := by decide +kernel
theorem dX10_isOld_20 : decode cX10_isOld 20 = .ok (.iconst 3, 1) := by decide +kernel
theorem dX10_isOld_21 : decode cX10_isOld 21 = .ok (.if_icmp .ne 13, 3) := by decide +kernel
theorem dX10_isOld_24 : decode cX10_isOld 24 = .ok (.aload_n 0, 1) := by decide +kernel
theorem dX10_isOld_25 : decode cX10_isOld 25 = .ok (.getfield 20, 3) := by decide +kernel
theorem dX10_isOld_28 : decode cX10_isOld 28 = .ok (.iload_n 3, 1) := by decide +kernel
theorem dX10_isOld_29 : decode cX10_isOld 29 = .ok (.iaload, 1) := by decide +kernel
theorem dX10_isOld_30 : decode cX10_isOld 30 = .ok (.iload_n 2, 1) := by decide +kernel
theorem dX10_isOld_31 : decode cX10_isOld 31 = .ok (.if_icmp .eq 7, 3) := by decide +kernel
theorem dX10_isOld_34 : decode cX10_isOld 34 = .ok (.iconst 1, 1) := by decide +kernel
theorem dX10_isOld_35 : decode cX10_isOld 35 = .ok (.goto 4, 3) := by decide +kernel
theorem dX10_isOld_38 : decode cX10_isOld 38 = .ok (.iconst 0, 1) := by decide +kernel
theorem dX10_isOld_39 : decode cX10_isOld 39 = .ok (.ireturn, 1) := by decide +kernel
theorem dX10_dots_0 : decode cX10_dots 0 = .ok (.aload_n 0, 1) := by decide +kernel
theorem dX10_dots_1 : decode cX10_dots 1 = .ok (.getfield 279, 3) := by decide +kernel
theorem dX10_dots_4 : decode cX10_dots 4 = .ok (.iconst 1, 1) := by decide +kernel
theorem dX10_dots_5 : decode cX10_dots 5 = .ok (.isub, 1) := by decide +kernel
theorem dX10_dots_6 : decode cX10_dots 6 = .ok (.istore_n 2, 1) := by decide +kernel
theorem dX10_dots_7 : decode cX10_dots 7 = .ok (.aload_n 0, 1) := by decide +kernel
theorem dX10_dots_8 : decode cX10_dots 8 = .ok (.getfield 144, 3) := by decide +kernel
theorem dX10_dots_11 : decode cX10_dots 11 = .ok (.iload_n 2, 1) := by decide +kernel
theorem dX10_dots_12 : decode cX10_dots 12 = .ok (.iaload, 1) := by decide +kernel
theorem dX10_dots_13 : decode cX10_dots 13 = .ok (.iconst 2, 1) := by decide +kernel
theorem dX10_dots_14 : decode cX10_dots 14 = .ok (.if_icmp .eq 23, 3) := by decide +kernel
theorem dX10_dots_17 : decode cX10_dots 17 = .ok (.aload_n 0, 1) := by decide +kernel
theorem dX10_dots_18 : decode cX10_dots 18 = .ok (.aload_n 0, 1) := by decide +kernel
theorem dX10_dots_19 : decode cX10_dots 19 = .ok (.getfield 144, 3) := by decide +kernel
theorem dX10_dots_22 : decode cX10_dots 22 = .ok (.iload_n 2, 1) := by decide +kernel
theorem dX10_dots_23 : decode cX10_dots 23 = .ok (.iaload, 1) := by decide +kernel
theorem dX10_dots_24 : decode cX10_dots 24 = .ok (.ifCond .ne 7, 3) := by decide +kernel
theorem dX10_dots_27 : decode cX10_dots 27 = .ok (.iconst 2, 1) := by decide +kernel
theorem dX10_dots_28 : decode cX10_dots 28 = .ok (.goto 4, 3) := by decide +kernel
theorem dX10_dots_31 : decode cX10_dots 31 = .ok (.iconst 3, 1) := by decide +kernel
theorem dX10_dots_32 : decode cX10_dots 32 = .ok (.iload_n 1, 1) := by decide +kernel
theorem dX10_dots_33 : decode cX10_dots 33 = .ok (.invokevirtual 299, 3) := by decide +kernel
theorem dX10_dots_36 : decode cX10_dots 36 = .ok (.return_, 1) := by decide +kernel
theorem dX10_dots_37 : decode cX10_dots 37 = .ok (.aload_n 0, 1) := by decide +kernel
theorem dX10_dots_38 : decode cX10_dots 38 = .ok (.getfield 147, 3) := by decide +kernel
theorem dX10_dots_41 : decode cX10_dots 41 = .ok (.iload_n 2, 1) := by decide +kernel
theorem dX10_dots_42 : decode cX10_dots 42 = .ok (.laload, 1) := by decide +kernel
theorem dX10_dots_43 : decode cX10_dots 43 = .ok (.l2i, 1) := by decide +kernel
theorem dX10_dots_44 : decode cX10_dots 44 = .ok (.istore_n 3, 1) := by decide +kernel
theorem dX10_dots_45 : decode cX10_dots 45 = .ok (.aload_n 0, 1) := by decide +kernel
theorem dX10_dots_46 : decode cX10_dots 46 = .ok (.aload_n 0, 1) := by decide +kernel
theorem dX10_dots_47 : decode cX10_dots 47 = .ok (.getfield 86, 3) := by decide +kernel
theorem dX10_dots_50 : decode cX10_dots 50 = .ok (.iload_n 3, 1) := by decide +kernel
theorem dX10_dots_51 : decode cX10_dots 51 = .ok (.iaload, 1) := by decide +kernel
theorem dX10_dots_52 : decode cX10_dots 52 = .ok (.aload_n 0, 1) := by decide +kernel
theorem dX10_dots_53 : decode cX10_dots 53 = .ok (.getfield 77, 3) := by decide +kernel
theorem dX10_dots_56 : decode cX10_dots 56 = .ok (.iload_n 1, 1) := by decide +kernel
theorem dX10_dots_57 : decode cX10_dots 57 = .ok (.laload, 1) := by decide +kernel
theorem dX10_dots_58 : decode cX10_dots 58 = .ok (.l2i, 1) := by decide +kernel
theorem dX10_dots_59 : decode cX10_dots 59 = .ok (.invokevirtual 291, 3) := by decide +kernel
theorem dX10_dots_62 : decode cX10_dots 62 = .ok (.istore 4, 2) := by decide +kernel
theorem dX10_dots_64 : decode cX10_dots 64 = .ok (.aload_n 0, 1) := by decide +kernel
theorem dX10_dots_65 : decode cX10_dots 65 = .ok (.iload_n 3, 1) := by decide +kernel
theorem dX10_dots_66 : decode cX10_dots 66 = .ok (.invokevirtual 320, 3) := by decide +kernel
theorem dX10_dots_69 : decode cX10_dots 69 = .ok (.ifCond .ne 8, 3) := by decide +kernel
theorem dX10_dots_72 : decode cX10_dots 72 = .ok (.iload 4, 2) := by decide +kernel
theorem dX10_dots_74 : decode cX10_dots 74 = .ok (.ifCond .ge 24, 3) := by decide +kernel
theorem dX10_dots_77 : decode cX10_dots 77 = .ok (.aload_n 0, 1) := by decide +kernel
theorem dX10_dots_78 : decode cX10_dots 78 = .ok (.aload_n 0, 1) := by decide +kernel
theorem dX10_dots_79 : decode cX10_dots 79 = .ok (.iload_n 3, 1) := by decide +kernel
theorem dX10_dots_80 : decode cX10_dots 80 = .ok (.invokevirtual 320, 3) := by decide +kernel
theorem dX10_dots_83 : decode cX10_dots 83 = .ok (.ifCond .eq 8, 3) := by decide +kernel
theorem dX10_dots_86 : decode cX10_dots 86 = .ok (.bipush 7, 2) := by decide +kernel
theorem dX10_dots_88 : decode cX10_dots 88 = .ok (.goto 5, 3) := by decide +kernel
theorem dX10_dots_91 : decode cX10_dots 91 = .ok (.bipush 6, 2) := by decide +kernel
theorem dX10_dots_93 : decode cX10_dots 93 = .ok (.iload_n 1, 1) := by decide +kernel
theorem dX10_dots_94 : decode cX10_dots 94 = .ok (.invokevirtual 299, 3) := by decide +kernel
theorem dX10_dots_97 : decode cX10_dots 97 = .ok (.return_, 1) := by decide +kernel
theorem dX10_dots_98 : decode cX10_dots 98 = .ok (.aload_n 0, 1) := by decide +kernel
theorem dX10_dots_99 : decode cX10_dots 99 = .ok (.getfield 144, 3) := by decide +kernel
theorem dX10_dots_102 : decode cX10_dots 102 = .ok (.iload_n 2, 1) := by decide +kernel
theorem dX10_dots_103 : decode cX10_dots 103 = .ok (.aload_n 0, 1) := by decide +kernel
theorem dX10_dots_104 : decode cX10_dots 104 = .ok (.getfield 90, 3) := by decide +kernel
theorem dX10_dots_107 : decode cX10_dots 107 = .ok (.iconst 3, 1) := by decide +kernel
theorem dX10_dots_108 : decode cX10_dots 108 = .ok (.iload_n 3, 1) := by decide +kernel
theorem dX10_dots_109 : decode cX10_dots 109 = .ok (.imul, 1) := by decide +kernel
theorem dX10_dots_110 : decode cX10_dots 110 = .ok (.iload 4, 2) := by decide +kernel
theorem dX10_dots_112 : decode cX10_dots 112 = .ok (.iadd, 1) := by decide +kernel
theorem dX10_dots_113 : decode cX10_dots 113 = .ok (.iaload, 1) := by decide +kernel
theorem dX10_dots_114 : decode cX10_dots 114 = .ok (.iastore, 1) := by decide +kernel
theorem dX10_dots_115 : decode cX10_dots 115 = .ok (.aload_n 0, 1) := by decide +kernel
theorem dX10_dots_116 : decode cX10_dots 116 = .ok (.getfield 147, 3) := by decide +kernel
theorem dX10_dots_119 : decode cX10_dots 119 = .ok (.iload_n 2, 1) := by decide +kernel
theorem dX10_dots_120 : decode cX10_dots 120 = .ok (.aload_n 0, 1) := by decide +kernel
theorem dX10_dots_121 : decode cX10_dots 121 = .ok (.getfield 93, 3) := by decide +kernel
theorem dX10_dots_124 : decode cX10_dots 124 = .ok (.iconst 3, 1) := by decide +kernel
theorem dX10_dots_125 : decode cX10_dots 125 = .ok (.iload_n 3, 1) := by decide +kernel
theorem dX10_dots_126 : decode cX10_dots 126 = .ok (.imul, 1) := by decide +kernel
theorem dX10_dots_127 : decode cX10_dots 127 = .ok (.iload 4, 2) := by decide +kernel
theorem dX10_dots_129 : decode cX10_dots 129 = .ok (.iadd, 1) := by decide +kernel
theorem dX10_dots_130 : decode cX10_dots 130 = .ok (.laload, 1) := by decide +kernel
theorem dX10_dots_131 : decode cX10_dots 131 = .ok (.lastore, 1) := by decide +kernel
theorem dX10_dots_132 : decode cX10_dots 132 = .ok (.aload_n 0, 1) := by decide +kernel
theorem dX10_dots_133 : decode cX10_dots 133 = .ok (.dup, 1) := by decide +kernel
theorem dX10_dots_134 : decode cX10_dots 134 = .ok (.getfield 282, 3) := by decide +kernel
theorem dX10_dots_137 : decode cX10_dots 137 = .ok (.iconst 1, 1) := by decide +kernel
theorem dX10_dots_138 : decode cX10_dots 138 = .ok (.isub, 1) := by decide +kernel
theorem dX10_dots_139 : decode cX10_dots 139 = .ok (.putfield 282, 3) := by decide +kernel
theorem dX10_dots_142 : decode cX10_dots 142 = .ok (.return_, 1) := by decide +kernel
theorem dX10_reckon_0 : decode cX10_reckon 0 = .ok (.iload_n 0, 1) := by decide +kernel
theorem dX10_reckon_1 : decode cX10_reckon 1 = .ok (.tableswitch 79 37 47 #[75, 79, 79, 79, 79, 67, 59, 79, 63, 79, 71], 59) := by decide +kernel
theorem dX10_reckon_60 : decode cX10_reckon 60 = .ok (.lload_n 1, 1) := by decide +kernel
theorem dX10_reckon_61 : decode cX10_reckon 61 = .ok (.lload_n 3, 1) := by decide +kernel
theorem dX10_reckon_62 : decode cX10_reckon 62 = .ok (.ladd, 1) := by decide +kernel
theorem dX10_reckon_63 : decode cX10_reckon 63 = .ok (.lreturn, 1) := by decide +kernel
theorem dX10_reckon_64 : decode cX10_reckon 64 = .ok (.lload_n 1, 1) := by decide +kernel
theorem dX10_reckon_65 : decode cX10_reckon 65 = .ok (.lload_n 3, 1) := by decide +kernel
theorem dX10_reckon_66 : decode cX10_reckon 66 = .ok (.lsub, 1) := by decide +kernel
theorem dX10_reckon_67 : decode cX10_reckon 67 = .ok (.lreturn, 1) := by decide +kernel
theorem dX10_reckon_68 : decode cX10_reckon 68 = .ok (.lload_n 1, 1) := by decide +kernel
theorem dX10_reckon_69 : decode cX10_reckon 69 = .ok (.lload_n 3, 1) := by decide +kernel
theorem dX10_reckon_70 : decode cX10_reckon 70 = .ok (.lmul, 1) := by decide +kernel
theorem dX10_reckon_71 : decode cX10_reckon 71 = .ok (.lreturn, 1) := by decide +kernel
theorem dX10_reckon_72 : decode cX10_reckon 72 = .ok (.lload_n 1, 1) := by decide +kernel
theorem dX10_reckon_73 : decode cX10_reckon 73 = .ok (.lload_n 3, 1) := by decide +kernel
theorem dX10_reckon_74 : decode cX10_reckon 74 = .ok (.ldiv, 1) := by decide +kernel
theorem dX10_reckon_75 : decode cX10_reckon 75 = .ok (.lreturn, 1) := by decide +kernel
theorem dX10_reckon_76 : decode cX10_reckon 76 = .ok (.lload_n 1, 1) := by decide +kernel
theorem dX10_reckon_77 : decode cX10_reckon 77 = .ok (.lload_n 3, 1) := by decide +kernel
theorem dX10_reckon_78 : decode cX10_reckon 78 = .ok (.lrem, 1) := by decide +kernel
theorem dX10_reckon_79 : decode cX10_reckon 79 = .ok (.lreturn, 1) := by decide +kernel
theorem dX10_reckon_80 : decode cX10_reckon 80 = .ok (.lload_n 1, 1) := by decide +kernel
theorem dX10_reckon_81 : decode cX10_reckon 81 = .ok (.lload_n 3, 1) := by decide +kernel
theorem dX10_reckon_82 : decode cX10_reckon 82 = .ok (.lcmp, 1) := by decide +kernel
theorem dX10_reckon_83 : decode cX10_reckon 83 = .ok (.ifCond .ge 7, 3) := by decide +kernel
theorem dX10_reckon_86 : decode cX10_reckon 86 = .ok (.lconst 1, 1) := by decide +kernel
theorem dX10_reckon_87 : decode cX10_reckon 87 = .ok (.goto 4, 3) := by decide +kernel
theorem dX10_reckon_90 : decode cX10_reckon 90 = .ok (.lconst 0, 1) := by decide +kernel
theorem dX10_reckon_91 : decode cX10_reckon 91 = .ok (.lreturn, 1) := by decide +kernel
theorem dX10_operates_0 : decode cX10_operates 0 = .ok (.aload_n 0, 1) := by decide +kernel
theorem dX10_operates_1 : decode cX10_operates 1 = .ok (.getfield 77, 3) := by decide +kernel
theorem dX10_operates_4 : decode cX10_operates 4 = .ok (.iload_n 1, 1) := by decide +kernel
theorem dX10_operates_5 : decode cX10_operates 5 = .ok (.laload, 1) := by decide +kernel
theorem dX10_operates_6 : decode cX10_operates 6 = .ok (.l2i, 1) := by decide +kernel
theorem dX10_operates_7 : decode cX10_operates 7 = .ok (.istore_n 2, 1) := by decide +kernel
theorem dX10_operates_8 : decode cX10_operates 8 = .ok (.aload_n 0, 1) := by decide +kernel
theorem dX10_operates_9 : decode cX10_operates 9 = .ok (.getfield 279, 3) := by decide +kernel
theorem dX10_operates_12 : decode cX10_operates 12 = .ok (.iconst 2, 1) := by decide +kernel
theorem dX10_operates_13 : decode cX10_operates 13 = .ok (.isub, 1) := by decide +kernel
theorem dX10_operates_14 : decode cX10_operates 14 = .ok (.istore_n 3, 1) := by decide +kernel
theorem dX10_operates_15 : decode cX10_operates 15 = .ok (.aload_n 0, 1) := by decide +kernel
theorem dX10_operates_16 : decode cX10_operates 16 = .ok (.getfield 279, 3) := by decide +kernel
theorem dX10_operates_19 : decode cX10_operates 19 = .ok (.iconst 1, 1) := by decide +kernel
theorem dX10_operates_20 : decode cX10_operates 20 = .ok (.isub, 1) := by decide +kernel
theorem dX10_operates_21 : decode cX10_operates 21 = .ok (.istore 4, 2) := by decide +kernel
theorem dX10_operates_23 : decode cX10_operates 23 = .ok (.aload_n 0, 1) := by decide +kernel
theorem dX10_operates_24 : decode cX10_operates 24 = .ok (.getfield 144, 3) := by decide +kernel
theorem dX10_operates_27 : decode cX10_operates 27 = .ok (.iload_n 3, 1) := by decide +kernel
theorem dX10_operates_28 : decode cX10_operates 28 = .ok (.iaload, 1) := by decide +kernel
theorem dX10_operates_29 : decode cX10_operates 29 = .ok (.ifCond .eq 13, 3) := by decide +kernel
theorem dX10_operates_32 : decode cX10_operates 32 = .ok (.aload_n 0, 1) := by decide +kernel
theorem dX10_operates_33 : decode cX10_operates 33 = .ok (.getfield 144, 3) := by decide +kernel
theorem dX10_operates_36 : decode cX10_operates 36 = .ok (.iload 4, 2) := by decide +kernel
theorem dX10_operates_38 : decode cX10_operates 38 = .ok (.iaload, 1) := by decide +kernel
theorem dX10_operates_39 : decode cX10_operates 39 = .ok (.ifCond .ne 10, 3) := by decide +kernel
theorem dX10_operates_42 : decode cX10_operates 42 = .ok (.aload_n 0, 1) := by decide +kernel
theorem dX10_operates_43 : decode cX10_operates 43 = .ok (.iconst 2, 1) := by decide +kernel
theorem dX10_operates_44 : decode cX10_operates 44 = .ok (.iload_n 1, 1) := by decide +kernel
theorem dX10_operates_45 : decode cX10_operates 45 = .ok (.invokevirtual 299, 3) := by decide +kernel
theorem dX10_operates_48 : decode cX10_operates 48 = .ok (.return_, 1) := by decide +kernel
theorem dX10_operates_49 : decode cX10_operates 49 = .ok (.aload_n 0, 1) := by decide +kernel
theorem dX10_operates_50 : decode cX10_operates 50 = .ok (.getfield 144, 3) := by decide +kernel
theorem dX10_operates_53 : decode cX10_operates 53 = .ok (.iload_n 3, 1) := by decide +kernel
theorem dX10_operates_54 : decode cX10_operates 54 = .ok (.iaload, 1) := by decide +kernel
theorem dX10_operates_55 : decode cX10_operates 55 = .ok (.iconst 2, 1) := by decide +kernel
theorem dX10_operates_56 : decode cX10_operates 56 = .ok (.if_icmp .ne 18, 3) := by decide +kernel
theorem dX10_operates_59 : decode cX10_operates 59 = .ok (.aload_n 0, 1) := by decide +kernel
theorem dX10_operates_60 : decode cX10_operates 60 = .ok (.getfield 144, 3) := by decide +kernel
theorem dX10_operates_63 : decode cX10_operates 63 = .ok (.iload 4, 2) := by decide +kernel
theorem dX10_operates_65 : decode cX10_operates 65 = .ok (.iaload, 1) := by decide +kernel
theorem dX10_operates_66 : decode cX10_operates 66 = .ok (.iconst 2, 1) := by decide +kernel
theorem dX10_operates_67 : decode cX10_operates 67 = .ok (.if_icmp .ne 7, 3) := by decide +kernel
theorem dX10_operates_70 : decode cX10_operates 70 = .ok (.iconst 1, 1) := by decide +kernel
theorem dX10_operates_71 : decode cX10_operates 71 = .ok (.goto 4, 3) := by decide +kernel
theorem dX10_operates_74 : decode cX10_operates 74 = .ok (.iconst 0, 1) := by decide +kernel
theorem dX10_operates_75 : decode cX10_operates 75 = .ok (.istore 5, 2) := by decide +kernel
theorem dX10_operates_77 : decode cX10_operates 77 = .ok (.iload_n 2, 1) := by decide +kernel
theorem dX10_operates_78 : decode cX10_operates 78 = .ok (.bipush 61, 2) := by decide +kernel
theorem dX10_operates_80 : decode cX10_operates 80 = .ok (.if_icmp .ne 8, 3) := by decide +kernel
theorem dX10_operates_83 : decode cX10_operates 83 = .ok (.iload 5, 2) := by decide +kernel
theorem dX10_operates_85 : decode cX10_operates 85 = .ok (.ifCond .ne 31, 3) := by decide +kernel
theorem dX10_operates_88 : decode cX10_operates 88 = .ok (.aload_n 0, 1) := by decide +kernel
theorem dX10_operates_89 : decode cX10_operates 89 = .ok (.getfield 144, 3) := by decide +kernel
theorem dX10_operates_92 : decode cX10_operates 92 = .ok (.iload_n 3, 1) := by decide +kernel
theorem dX10_operates_93 : decode cX10_operates 93 = .ok (.iaload, 1) := by decide +kernel
theorem dX10_operates_94 : decode cX10_operates 94 = .ok (.iconst 2, 1) := by decide +kernel
theorem dX10_operates_95 : decode cX10_operates 95 = .ok (.if_icmp .eq 14, 3) := by decide +kernel
theorem dX10_operates_98 : decode cX10_operates 98 = .ok (.aload_n 0, 1) := by decide +kernel
theorem dX10_operates_99 : decode cX10_operates 99 = .ok (.getfield 144, 3) := by decide +kernel
theorem dX10_operates_102 : decode cX10_operates 102 = .ok (.iload 4, 2) := by decide +kernel
theorem dX10_operates_104 : decode cX10_operates 104 = .ok (.iaload, 1) := by decide +kernel
theorem dX10_operates_105 : decode cX10_operates 105 = .ok (.iconst 2, 1) := by decide +kernel
theorem dX10_operates_106 : decode cX10_operates 106 = .ok (.if_icmp .ne 10, 3) := by decide +kernel
theorem dX10_operates_109 : decode cX10_operates 109 = .ok (.aload_n 0, 1) := by decide +kernel
theorem dX10_operates_110 : decode cX10_operates 110 = .ok (.iconst 3, 1) := by decide +kernel
theorem dX10_operates_111 : decode cX10_operates 111 = .ok (.iload_n 1, 1) := by decide +kernel
theorem dX10_operates_112 : decode cX10_operates 112 = .ok (.invokevirtual 299, 3) := by decide +kernel
theorem dX10_operates_115 : decode cX10_operates 115 = .ok (.return_, 1) := by decide +kernel
theorem dX10_operates_116 : decode cX10_operates 116 = .ok (.iload_n 2, 1) := by decide +kernel
theorem dX10_operates_117 : decode cX10_operates 117 = .ok (.bipush 47, 2) := by decide +kernel
theorem dX10_operates_119 : decode cX10_operates 119 = .ok (.if_icmp .eq 9, 3) := by decide +kernel
theorem dX10_operates_122 : decode cX10_operates 122 = .ok (.iload_n 2, 1) := by decide +kernel
theorem dX10_operates_123 : decode cX10_operates 123 = .ok (.bipush 37, 2) := by decide +kernel
theorem dX10_operates_125 : decode cX10_operates 125 = .ok (.if_icmp .ne 22, 3) := by decide +kernel
theorem dX10_operates_128 : decode cX10_operates 128 = .ok (.aload_n 0, 1) := by decide +kernel
theorem dX10_operates_129 : decode cX10_operates 129 = .ok (.getfield 147, 3) := by decide +kernel
theorem dX10_operates_132 : decode cX10_operates 132 = .ok (.iload 4, 2) := by decide +kernel
theorem dX10_operates_134 : decode cX10_operates 134 = .ok (.laload, 1) := by decide +kernel
theorem dX10_operates_135 : decode cX10_operates 135 = .ok (.lconst 0, 1) := by decide +kernel
theorem dX10_operates_136 : decode cX10_operates 136 = .ok (.lcmp, 1) := by decide +kernel
theorem dX10_operates_137 : decode cX10_operates 137 = .ok (.ifCond .ne 10, 3) := by decide +kernel
theorem dX10_operates_140 : decode cX10_operates 140 = .ok (.aload_n 0, 1) := by decide +kernel
theorem dX10_operates_141 : decode cX10_operates 141 = .ok (.iconst 4, 1) := by decide +kernel
theorem dX10_operates_142 : decode cX10_operates 142 = .ok (.iload_n 1, 1) := by decide +kernel
theorem dX10_operates_143 : decode cX10_operates 143 = .ok (.invokevirtual 299, 3) := by decide +kernel
theorem dX10_operates_146 : decode cX10_operates 146 = .ok (.return_, 1) := by decide +kernel
theorem dX10_operates_147 : decode cX10_operates 147 = .ok (.iload_n 2, 1) := by decide +kernel
theorem dX10_operates_148 : decode cX10_operates 148 = .ok (.bipush 61, 2) := by decide +kernel
theorem dX10_operates_150 : decode cX10_operates 150 = .ok (.if_icmp .ne 28, 3) := by decide +kernel
theorem dX10_operates_153 : decode cX10_operates 153 = .ok (.aload_n 0, 1) := by decide +kernel
theorem dX10_operates_154 : decode cX10_operates 154 = .ok (.getfield 147, 3) := by decide +kernel
theorem dX10_operates_157 : decode cX10_operates 157 = .ok (.iload_n 3, 1) := by decide +kernel
theorem dX10_operates_158 : decode cX10_operates 158 = .ok (.laload, 1) := by decide +kernel
theorem dX10_operates_159 : decode cX10_operates 159 = .ok (.aload_n 0, 1) := by decide +kernel
theorem dX10_operates_160 : decode cX10_operates 160 = .ok (.getfield 147, 3) := by decide +kernel
theorem dX10_operates_163 : decode cX10_operates 163 = .ok (.iload 4, 2) := by decide +kernel
theorem dX10_operates_165 : decode cX10_operates 165 = .ok (.laload, 1) := by decide +kernel
theorem dX10_operates_166 : decode cX10_operates 166 = .ok (.lcmp, 1) := by decide +kernel
theorem dX10_operates_167 : decode cX10_operates 167 = .ok (.ifCond .ne 7, 3) := by decide +kernel
theorem dX10_operates_170 : decode cX10_operates 170 = .ok (.lconst 1, 1) := by decide +kernel
theorem dX10_operates_171 : decode cX10_operates 171 = .ok (.goto 24, 3) := by decide +kernel
theorem dX10_operates_174 : decode cX10_operates 174 = .ok (.lconst 0, 1) := by decide +kernel
theorem dX10_operates_175 : decode cX10_operates 175 = .ok (.goto 20, 3) := by decide +kernel
theorem dX10_operates_178 : decode cX10_operates 178 = .ok (.iload_n 2, 1) := by decide +kernel
theorem dX10_operates_179 : decode cX10_operates 179 = .ok (.aload_n 0, 1) := by decide +kernel
theorem dX10_operates_180 : decode cX10_operates 180 = .ok (.getfield 147, 3) := by decide +kernel
theorem dX10_operates_183 : decode cX10_operates 183 = .ok (.iload_n 3, 1) := by decide +kernel
theorem dX10_operates_184 : decode cX10_operates 184 = .ok (.laload, 1) := by decide +kernel
theorem dX10_operates_185 : decode cX10_operates 185 = .ok (.aload_n 0, 1) := by decide +kernel
theorem dX10_operates_186 : decode cX10_operates 186 = .ok (.getfield 147, 3) := by decide +kernel
theorem dX10_operates_189 : decode cX10_operates 189 = .ok (.iload 4, 2) := by decide +kernel
theorem dX10_operates_191 : decode cX10_operates 191 = .ok (.laload, 1) := by decide +kernel
theorem dX10_operates_192 : decode cX10_operates 192 = .ok (.invokestatic 323, 3) := by decide +kernel
theorem dX10_operates_195 : decode cX10_operates 195 = .ok (.lstore 6, 2) := by decide +kernel
theorem dX10_operates_197 : decode cX10_operates 197 = .ok (.aload_n 0, 1) := by decide +kernel
theorem dX10_operates_198 : decode cX10_operates 198 = .ok (.dup, 1) := by decide +kernel
theorem dX10_operates_199 : decode cX10_operates 199 = .ok (.getfield 279, 3) := by decide +kernel
theorem dX10_operates_202 : decode cX10_operates 202 = .ok (.iconst 2, 1) := by decide +kernel
theorem dX10_operates_203 : decode cX10_operates 203 = .ok (.isub, 1) := by decide +kernel
theorem dX10_operates_204 : decode cX10_operates 204 = .ok (.putfield 279, 3) := by decide +kernel
theorem dX10_operates_207 : decode cX10_operates 207 = .ok (.aload_n 0, 1) := by decide +kernel
theorem dX10_operates_208 : decode cX10_operates 208 = .ok (.iconst 1, 1) := by decide +kernel
theorem dX10_operates_209 : decode cX10_operates 209 = .ok (.lload 6, 2) := by decide +kernel
theorem dX10_operates_211 : decode cX10_operates 211 = .ok (.invokevirtual 295, 3) := by decide +kernel
theorem dX10_operates_214 : decode cX10_operates 214 = .ok (.aload_n 0, 1) := by decide +kernel
theorem dX10_operates_215 : decode cX10_operates 215 = .ok (.dup, 1) := by decide +kernel
theorem dX10_operates_216 : decode cX10_operates 216 = .ok (.getfield 282, 3) := by decide +kernel
theorem dX10_operates_219 : decode cX10_operates 219 = .ok (.iconst 1, 1) := by decide +kernel
theorem dX10_operates_220 : decode cX10_operates 220 = .ok (.isub, 1) := by decide +kernel
theorem dX10_operates_221 : decode cX10_operates 221 = .ok (.putfield 282, 3) := by decide +kernel
theorem dX10_operates_224 : decode cX10_operates 224 = .ok (.return_, 1) := by decide +kernel
theorem dX10_goesOn_0 : decode cX10_goesOn 0 = .ok (.aload_n 0, 1) := by decide +kernel
theorem dX10_goesOn_1 : decode cX10_goesOn 1 = .ok (.getfield 282, 3) := by decide +kernel
theorem dX10_goesOn_4 : decode cX10_goesOn 4 = .ok (.iconst 1, 1) := by decide +kernel
theorem dX10_goesOn_5 : decode cX10_goesOn 5 = .ok (.isub, 1) := by decide +kernel
theorem dX10_goesOn_6 : decode cX10_goesOn 6 = .ok (.istore_n 2, 1) := by decide +kernel
theorem dX10_goesOn_7 : decode cX10_goesOn 7 = .ok (.aload_n 0, 1) := by decide +kernel
theorem dX10_goesOn_8 : decode cX10_goesOn 8 = .ok (.getfield 279, 3) := by decide +kernel
theorem dX10_goesOn_11 : decode cX10_goesOn 11 = .ok (.iconst 1, 1) := by decide +kernel
theorem dX10_goesOn_12 : decode cX10_goesOn 12 = .ok (.isub, 1) := by decide +kernel
theorem dX10_goesOn_13 : decode cX10_goesOn 13 = .ok (.istore_n 3, 1) := by decide +kernel
theorem dX10_goesOn_14 : decode cX10_goesOn 14 = .ok (.aload_n 0, 1) := by decide +kernel
theorem dX10_goesOn_15 : decode cX10_goesOn 15 = .ok (.getfield 56, 3) := by decide +kernel
theorem dX10_goesOn_18 : decode cX10_goesOn 18 = .ok (.iload_n 1, 1) := by decide +kernel
theorem dX10_goesOn_19 : decode cX10_goesOn 19 = .ok (.iaload, 1) := by decide +kernel
theorem dX10_goesOn_20 : decode cX10_goesOn 20 = .ok (.tableswitch 86 3 6 #[32, 86, 40, 48], 32) := by decide +kernel
theorem dX10_goesOn_52 : decode cX10_goesOn 52 = .ok (.aload_n 0, 1) := by decide +kernel
theorem dX10_goesOn_53 : decode cX10_goesOn 53 = .ok (.iload_n 1, 1) := by decide +kernel
theorem dX10_goesOn_54 : decode cX10_goesOn 54 = .ok (.invokevirtual 327, 3) := by decide +kernel
theorem dX10_goesOn_57 : decode cX10_goesOn 57 = .ok (.goto 198, 3) := by decide +kernel
theorem dX10_goesOn_60 : decode cX10_goesOn 60 = .ok (.aload_n 0, 1) := by decide +kernel
theorem dX10_goesOn_61 : decode cX10_goesOn 61 = .ok (.iload_n 1, 1) := by decide +kernel
theorem dX10_goesOn_62 : decode cX10_goesOn 62 = .ok (.invokevirtual 330, 3) := by decide +kernel
theorem dX10_goesOn_65 : decode cX10_goesOn 65 = .ok (.goto 190, 3) := by decide +kernel
theorem dX10_goesOn_68 : decode cX10_goesOn 68 = .ok (.aload_n 0, 1) := by decide +kernel
theorem dX10_goesOn_69 : decode cX10_goesOn 69 = .ok (.getfield 141, 3) := by decide +kernel
theorem dX10_goesOn_72 : decode cX10_goesOn 72 = .ok (.iload_n 2, 1) := by decide +kernel
theorem dX10_goesOn_73 : decode cX10_goesOn 73 = .ok (.iaload, 1) := by decide +kernel
theorem dX10_goesOn_74 : decode cX10_goesOn 74 = .ok (.iconst 1, 1) := by decide +kernel
theorem dX10_goesOn_75 : decode cX10_goesOn 75 = .ok (.if_icmp .ne 23, 3) := by decide +kernel
theorem dX10_goesOn_78 : decode cX10_goesOn 78 = .ok (.aload_n 0, 1) := by decide +kernel
theorem dX10_goesOn_79 : decode cX10_goesOn 79 = .ok (.getfield 141, 3) := by decide +kernel
theorem dX10_goesOn_82 : decode cX10_goesOn 82 = .ok (.iload_n 2, 1) := by decide +kernel
theorem dX10_goesOn_83 : decode cX10_goesOn 83 = .ok (.iconst 2, 1) := by decide +kernel
theorem dX10_goesOn_84 : decode cX10_goesOn 84 = .ok (.iastore, 1) := by decide +kernel
theorem dX10_goesOn_85 : decode cX10_goesOn 85 = .ok (.aload_n 0, 1) := by decide +kernel
theorem dX10_goesOn_86 : decode cX10_goesOn 86 = .ok (.aload_n 0, 1) := by decide +kernel
theorem dX10_goesOn_87 : decode cX10_goesOn 87 = .ok (.getfield 62, 3) := by decide +kernel
theorem dX10_goesOn_90 : decode cX10_goesOn 90 = .ok (.iload_n 1, 1) := by decide +kernel
theorem dX10_goesOn_91 : decode cX10_goesOn 91 = .ok (.iaload, 1) := by decide +kernel
theorem dX10_goesOn_92 : decode cX10_goesOn 92 = .ok (.invokevirtual 314, 3) := by decide +kernel
theorem dX10_goesOn_95 : decode cX10_goesOn 95 = .ok (.goto 160, 3) := by decide +kernel
theorem dX10_goesOn_98 : decode cX10_goesOn 98 = .ok (.aload_n 0, 1) := by decide +kernel
theorem dX10_goesOn_99 : decode cX10_goesOn 99 = .ok (.iload_n 1, 1) := by decide +kernel
theorem dX10_goesOn_100 : decode cX10_goesOn 100 = .ok (.invokevirtual 333, 3) := by decide +kernel
theorem dX10_goesOn_103 : decode cX10_goesOn 103 = .ok (.goto 152, 3) := by decide +kernel
theorem dX10_goesOn_106 : decode cX10_goesOn 106 = .ok (.aload_n 0, 1) := by decide +kernel
theorem dX10_goesOn_107 : decode cX10_goesOn 107 = .ok (.getfield 56, 3) := by decide +kernel
theorem dX10_goesOn_110 : decode cX10_goesOn 110 = .ok (.iload_n 1, 1) := by decide +kernel
theorem dX10_goesOn_111 : decode cX10_goesOn 111 = .ok (.iaload, 1) := by decide +kernel
theorem dX10_goesOn_112 : decode cX10_goesOn 112 = .ok (.bipush 7, 2) := by decide +kernel
theorem dX10_goesOn_114 : decode cX10_goesOn 114 = .ok (.if_icmp .ne 26, 3) := by decide +kernel
theorem dX10_goesOn_117 : decode cX10_goesOn 117 = .ok (.aload_n 0, 1) := by decide +kernel
theorem dX10_goesOn_118 : decode cX10_goesOn 118 = .ok (.getfield 141, 3) := by decide +kernel
theorem dX10_goesOn_121 : decode cX10_goesOn 121 = .ok (.iload_n 2, 1) := by decide +kernel
theorem dX10_goesOn_122 : decode cX10_goesOn 122 = .ok (.iaload, 1) := by decide +kernel
theorem dX10_goesOn_123 : decode cX10_goesOn 123 = .ok (.iconst 2, 1) := by decide +kernel
theorem dX10_goesOn_124 : decode cX10_goesOn 124 = .ok (.if_icmp .ne 16, 3) := by decide +kernel
theorem dX10_goesOn_127 : decode cX10_goesOn 127 = .ok (.aload_n 0, 1) := by decide +kernel
theorem dX10_goesOn_128 : decode cX10_goesOn 128 = .ok (.dup, 1) := by decide +kernel
theorem dX10_goesOn_129 : decode cX10_goesOn 129 = .ok (.getfield 282, 3) := by decide +kernel
theorem dX10_goesOn_132 : decode cX10_goesOn 132 = .ok (.iconst 1, 1) := by decide +kernel
theorem dX10_goesOn_133 : decode cX10_goesOn 133 = .ok (.isub, 1) := by decide +kernel
theorem dX10_goesOn_134 : decode cX10_goesOn 134 = .ok (.putfield 282, 3) := by decide +kernel
theorem dX10_goesOn_137 : decode cX10_goesOn 137 = .ok (.goto 118, 3) := by decide +kernel
theorem dX10_goesOn_140 : decode cX10_goesOn 140 = .ok (.aload_n 0, 1) := by decide +kernel
theorem dX10_goesOn_141 : decode cX10_goesOn 141 = .ok (.getfield 144, 3) := by decide +kernel
theorem dX10_goesOn_144 : decode cX10_goesOn 144 = .ok (.iload_n 3, 1) := by decide +kernel
theorem dX10_goesOn_145 : decode cX10_goesOn 145 = .ok (.iaload, 1) := by decide +kernel
theorem dX10_goesOn_146 : decode cX10_goesOn 146 = .ok (.iconst 1, 1) := by decide +kernel
theorem dX10_goesOn_147 : decode cX10_goesOn 147 = .ok (.if_icmp .eq 25, 3) := by decide +kernel
theorem dX10_goesOn_150 : decode cX10_goesOn 150 = .ok (.aload_n 0, 1) := by decide +kernel
theorem dX10_goesOn_151 : decode cX10_goesOn 151 = .ok (.aload_n 0, 1) := by decide +kernel
theorem dX10_goesOn_152 : decode cX10_goesOn 152 = .ok (.getfield 144, 3) := by decide +kernel
theorem dX10_goesOn_155 : decode cX10_goesOn 155 = .ok (.iload_n 3, 1) := by decide +kernel
theorem dX10_goesOn_156 : decode cX10_goesOn 156 = .ok (.iaload, 1) := by decide +kernel
theorem dX10_goesOn_157 : decode cX10_goesOn 157 = .ok (.ifCond .ne 7, 3) := by decide +kernel
theorem dX10_goesOn_160 : decode cX10_goesOn 160 = .ok (.iconst 2, 1) := by decide +kernel
theorem dX10_goesOn_161 : decode cX10_goesOn 161 = .ok (.goto 4, 3) := by decide +kernel
theorem dX10_goesOn_164 : decode cX10_goesOn 164 = .ok (.iconst 3, 1) := by decide +kernel
theorem dX10_goesOn_165 : decode cX10_goesOn 165 = .ok (.iload_n 1, 1) := by decide +kernel
theorem dX10_goesOn_166 : decode cX10_goesOn 166 = .ok (.invokevirtual 299, 3) := by decide +kernel
theorem dX10_goesOn_169 : decode cX10_goesOn 169 = .ok (.goto 86, 3) := by decide +kernel
theorem dX10_goesOn_172 : decode cX10_goesOn 172 = .ok (.aload_n 0, 1) := by decide +kernel
theorem dX10_goesOn_173 : decode cX10_goesOn 173 = .ok (.getfield 56, 3) := by decide +kernel
theorem dX10_goesOn_176 : decode cX10_goesOn 176 = .ok (.iload_n 1, 1) := by decide +kernel
theorem dX10_goesOn_177 : decode cX10_goesOn 177 = .ok (.iaload, 1) := by decide +kernel
theorem dX10_goesOn_178 : decode cX10_goesOn 178 = .ok (.iconst 4, 1) := by decide +kernel
theorem dX10_goesOn_179 : decode cX10_goesOn 179 = .ok (.if_icmp .ne 29, 3) := by decide +kernel
theorem dX10_goesOn_182 : decode cX10_goesOn 182 = .ok (.aload_n 0, 1) := by decide +kernel
theorem dX10_goesOn_183 : decode cX10_goesOn 183 = .ok (.getfield 147, 3) := by decide +kernel
theorem dX10_goesOn_186 : decode cX10_goesOn 186 = .ok (.iload_n 3, 1) := by decide +kernel
theorem dX10_goesOn_187 : decode cX10_goesOn 187 = .ok (.aload_n 0, 1) := by decide +kernel
theorem dX10_goesOn_188 : decode cX10_goesOn 188 = .ok (.getfield 147, 3) := by decide +kernel
theorem dX10_goesOn_191 : decode cX10_goesOn 191 = .ok (.iload_n 3, 1) := by decide +kernel
theorem dX10_goesOn_192 : decode cX10_goesOn 192 = .ok (.laload, 1) := by decide +kernel
theorem dX10_goesOn_193 : decode cX10_goesOn 193 = .ok (.lneg, 1) := by decide +kernel
theorem dX10_goesOn_194 : decode cX10_goesOn 194 = .ok (.lastore, 1) := by decide +kernel
theorem dX10_goesOn_195 : decode cX10_goesOn 195 = .ok (.aload_n 0, 1) := by decide +kernel
theorem dX10_goesOn_196 : decode cX10_goesOn 196 = .ok (.dup, 1) := by decide +kernel
theorem dX10_goesOn_197 : decode cX10_goesOn 197 = .ok (.getfield 282, 3) := by decide +kernel
theorem dX10_goesOn_200 : decode cX10_goesOn 200 = .ok (.iconst 1, 1) := by decide +kernel
theorem dX10_goesOn_201 : decode cX10_goesOn 201 = .ok (.isub, 1) := by decide +kernel
theorem dX10_goesOn_202 : decode cX10_goesOn 202 = .ok (.putfield 282, 3) := by decide +kernel
theorem dX10_goesOn_205 : decode cX10_goesOn 205 = .ok (.goto 50, 3) := by decide +kernel
theorem dX10_goesOn_208 : decode cX10_goesOn 208 = .ok (.aload_n 0, 1) := by decide +kernel
theorem dX10_goesOn_209 : decode cX10_goesOn 209 = .ok (.dup, 1) := by decide +kernel
theorem dX10_goesOn_210 : decode cX10_goesOn 210 = .ok (.getfield 279, 3) := by decide +kernel
theorem dX10_goesOn_213 : decode cX10_goesOn 213 = .ok (.iconst 1, 1) := by decide +kernel
theorem dX10_goesOn_214 : decode cX10_goesOn 214 = .ok (.isub, 1) := by decide +kernel
theorem dX10_goesOn_215 : decode cX10_goesOn 215 = .ok (.putfield 279, 3) := by decide +kernel
theorem dX10_goesOn_218 : decode cX10_goesOn 218 = .ok (.aload_n 0, 1) := by decide +kernel
theorem dX10_goesOn_219 : decode cX10_goesOn 219 = .ok (.getfield 141, 3) := by decide +kernel
theorem dX10_goesOn_222 : decode cX10_goesOn 222 = .ok (.iload_n 2, 1) := by decide +kernel
theorem dX10_goesOn_223 : decode cX10_goesOn 223 = .ok (.iconst 2, 1) := by decide +kernel
theorem dX10_goesOn_224 : decode cX10_goesOn 224 = .ok (.iastore, 1) := by decide +kernel
theorem dX10_goesOn_225 : decode cX10_goesOn 225 = .ok (.aload_n 0, 1) := by decide +kernel
theorem dX10_goesOn_226 : decode cX10_goesOn 226 = .ok (.aload_n 0, 1) := by decide +kernel
theorem dX10_goesOn_227 : decode cX10_goesOn 227 = .ok (.getfield 147, 3) := by decide +kernel
theorem dX10_goesOn_230 : decode cX10_goesOn 230 = .ok (.iload_n 3, 1) := by decide +kernel
theorem dX10_goesOn_231 : decode cX10_goesOn 231 = .ok (.laload, 1) := by decide +kernel
theorem dX10_goesOn_232 : decode cX10_goesOn 232 = .ok (.lconst 0, 1) := by decide +kernel
theorem dX10_goesOn_233 : decode cX10_goesOn 233 = .ok (.lcmp, 1) := by decide +kernel
theorem dX10_goesOn_234 : decode cX10_goesOn 234 = .ok (.ifCond .eq 12, 3) := by decide +kernel
theorem dX10_goesOn_237 : decode cX10_goesOn 237 = .ok (.aload_n 0, 1) := by decide +kernel
theorem dX10_goesOn_238 : decode cX10_goesOn 238 = .ok (.getfield 62, 3) := by decide +kernel
theorem dX10_goesOn_241 : decode cX10_goesOn 241 = .ok (.iload_n 1, 1) := by decide +kernel
theorem dX10_goesOn_242 : decode cX10_goesOn 242 = .ok (.iaload, 1) := by decide +kernel
theorem dX10_goesOn_243 : decode cX10_goesOn 243 = .ok (.goto 9, 3) := by decide +kernel
theorem dX10_goesOn_246 : decode cX10_goesOn 246 = .ok (.aload_n 0, 1) := by decide +kernel
theorem dX10_goesOn_247 : decode cX10_goesOn 247 = .ok (.getfield 65, 3) := by decide +kernel
theorem dX10_goesOn_250 : decode cX10_goesOn 250 = .ok (.iload_n 1, 1) := by decide +kernel
theorem dX10_goesOn_251 : decode cX10_goesOn 251 = .ok (.iaload, 1) := by decide +kernel
theorem dX10_goesOn_252 : decode cX10_goesOn 252 = .ok (.invokevirtual 314, 3) := by decide +kernel
theorem dX10_goesOn_255 : decode cX10_goesOn 255 = .ok (.return_, 1) := by decide +kernel
theorem dX10_workOut_0 : decode cX10_workOut 0 = .ok (.aload_n 0, 1) := by decide +kernel
theorem dX10_workOut_1 : decode cX10_workOut 1 = .ok (.iconst 0, 1) := by decide +kernel
theorem dX10_workOut_2 : decode cX10_workOut 2 = .ok (.putfield 285, 3) := by decide +kernel
theorem dX10_workOut_5 : decode cX10_workOut 5 = .ok (.aload_n 0, 1) := by decide +kernel
theorem dX10_workOut_6 : decode cX10_workOut 6 = .ok (.iconst 0, 1) := by decide +kernel
theorem dX10_workOut_7 : decode cX10_workOut 7 = .ok (.putfield 302, 3) := by decide +kernel
theorem dX10_workOut_10 : decode cX10_workOut 10 = .ok (.aload_n 0, 1) := by decide +kernel
theorem dX10_workOut_11 : decode cX10_workOut 11 = .ok (.iconst 0, 1) := by decide +kernel
theorem dX10_workOut_12 : decode cX10_workOut 12 = .ok (.putfield 288, 3) := by decide +kernel
theorem dX10_workOut_15 : decode cX10_workOut 15 = .ok (.aload_n 0, 1) := by decide +kernel
theorem dX10_workOut_16 : decode cX10_workOut 16 = .ok (.getfield 129, 3) := by decide +kernel
theorem dX10_workOut_19 : decode cX10_workOut 19 = .ok (.iconst 0, 1) := by decide +kernel
theorem dX10_workOut_20 : decode cX10_workOut 20 = .ok (.aload_n 0, 1) := by decide +kernel
theorem dX10_workOut_21 : decode cX10_workOut 21 = .ok (.getfield 220, 3) := by decide +kernel
theorem dX10_workOut_24 : decode cX10_workOut 24 = .ok (.iastore, 1) := by decide +kernel
theorem dX10_workOut_25 : decode cX10_workOut 25 = .ok (.aload_n 0, 1) := by decide +kernel
theorem dX10_workOut_26 : decode cX10_workOut 26 = .ok (.iconst 0, 1) := by decide +kernel
theorem dX10_workOut_27 : decode cX10_workOut 27 = .ok (.putfield 282, 3) := by decide +kernel
theorem dX10_workOut_30 : decode cX10_workOut 30 = .ok (.aload_n 0, 1) := by decide +kernel
theorem dX10_workOut_31 : decode cX10_workOut 31 = .ok (.iconst 0, 1) := by decide +kernel
theorem dX10_workOut_32 : decode cX10_workOut 32 = .ok (.putfield 279, 3) := by decide +kernel
theorem dX10_workOut_35 : decode cX10_workOut 35 = .ok (.aload_n 0, 1) := by decide +kernel
theorem dX10_workOut_36 : decode cX10_workOut 36 = .ok (.aload_n 0, 1) := by decide +kernel
theorem dX10_workOut_37 : decode cX10_workOut 37 = .ok (.getfield 47, 3) := by decide +kernel
theorem dX10_workOut_40 : decode cX10_workOut 40 = .ok (.aload_n 0, 1) := by decide +kernel
theorem dX10_workOut_41 : decode cX10_workOut 41 = .ok (.getfield 220, 3) := by decide +kernel
theorem dX10_workOut_44 : decode cX10_workOut 44 = .ok (.iaload, 1) := by decide +kernel
theorem dX10_workOut_45 : decode cX10_workOut 45 = .ok (.invokevirtual 314, 3) := by decide +kernel
theorem dX10_workOut_48 : decode cX10_workOut 48 = .ok (.aload_n 0, 1) := by decide +kernel
theorem dX10_workOut_49 : decode cX10_workOut 49 = .ok (.getfield 282, 3) := by decide +kernel
theorem dX10_workOut_52 : decode cX10_workOut 52 = .ok (.ifCond .le 52, 3) := by decide +kernel
theorem dX10_workOut_55 : decode cX10_workOut 55 = .ok (.aload_n 0, 1) := by decide +kernel
theorem dX10_workOut_56 : decode cX10_workOut 56 = .ok (.getfield 285, 3) := by decide +kernel
theorem dX10_workOut_59 : decode cX10_workOut 59 = .ok (.ifCond .ne 45, 3) := by decide +kernel
theorem dX10_workOut_62 : decode cX10_workOut 62 = .ok (.aload_n 0, 1) := by decide +kernel
theorem dX10_workOut_63 : decode cX10_workOut 63 = .ok (.getfield 138, 3) := by decide +kernel
theorem dX10_workOut_66 : decode cX10_workOut 66 = .ok (.aload_n 0, 1) := by decide +kernel
theorem dX10_workOut_67 : decode cX10_workOut 67 = .ok (.getfield 282, 3) := by decide +kernel
theorem dX10_workOut_70 : decode cX10_workOut 70 = .ok (.iconst 1, 1) := by decide +kernel
theorem dX10_workOut_71 : decode cX10_workOut 71 = .ok (.isub, 1) := by decide +kernel
theorem dX10_workOut_72 : decode cX10_workOut 72 = .ok (.iaload, 1) := by decide +kernel
theorem dX10_workOut_73 : decode cX10_workOut 73 = .ok (.istore_n 1, 1) := by decide +kernel
theorem dX10_workOut_74 : decode cX10_workOut 74 = .ok (.aload_n 0, 1) := by decide +kernel
theorem dX10_workOut_75 : decode cX10_workOut 75 = .ok (.getfield 141, 3) := by decide +kernel
theorem dX10_workOut_78 : decode cX10_workOut 78 = .ok (.aload_n 0, 1) := by decide +kernel
theorem dX10_workOut_79 : decode cX10_workOut 79 = .ok (.getfield 282, 3) := by decide +kernel
theorem dX10_workOut_82 : decode cX10_workOut 82 = .ok (.iconst 1, 1) := by decide +kernel
theorem dX10_workOut_83 : decode cX10_workOut 83 = .ok (.isub, 1) := by decide +kernel
theorem dX10_workOut_84 : decode cX10_workOut 84 = .ok (.iaload, 1) := by decide +kernel
theorem dX10_workOut_85 : decode cX10_workOut 85 = .ok (.ifCond .ne 11, 3) := by decide +kernel
theorem dX10_workOut_88 : decode cX10_workOut 88 = .ok (.aload_n 0, 1) := by decide +kernel
theorem dX10_workOut_89 : decode cX10_workOut 89 = .ok (.iload_n 1, 1) := by decide +kernel
theorem dX10_workOut_90 : decode cX10_workOut 90 = .ok (.invokevirtual 336, 3) := by decide +kernel
theorem dX10_workOut_93 : decode cX10_workOut 93 = .ok (.goto 8, 3) := by decide +kernel
theorem dX10_workOut_96 : decode cX10_workOut 96 = .ok (.aload_n 0, 1) := by decide +kernel
theorem dX10_workOut_97 : decode cX10_workOut 97 = .ok (.iload_n 1, 1) := by decide +kernel
theorem dX10_workOut_98 : decode cX10_workOut 98 = .ok (.invokevirtual 339, 3) := by decide +kernel
theorem dX10_workOut_101 : decode cX10_workOut 101 = .ok (.goto (-53), 3) := by decide +kernel
theorem dX10_workOut_104 : decode cX10_workOut 104 = .ok (.return_, 1) := by decide +kernel
theorem dX10_keep_0 : decode cX10_keep 0 = .ok (.aload_n 0, 1) := by decide +kernel
theorem dX10_keep_1 : decode cX10_keep 1 = .ok (.getfield 35, 3) := by decide +kernel
theorem dX10_keep_4 : decode cX10_keep 4 = .ok (.aload_n 0, 1) := by decide +kernel
theorem dX10_keep_5 : decode cX10_keep 5 = .ok (.getfield 220, 3) := by decide +kernel
theorem dX10_keep_8 : decode cX10_keep 8 = .ok (.iaload, 1) := by decide +kernel
theorem dX10_keep_9 : decode cX10_keep 9 = .ok (.istore_n 1, 1) := by decide +kernel
theorem dX10_keep_10 : decode cX10_keep 10 = .ok (.aload_n 0, 1) := by decide +kernel
theorem dX10_keep_11 : decode cX10_keep 11 = .ok (.getfield 32, 3) := by decide +kernel
theorem dX10_keep_14 : decode cX10_keep 14 = .ok (.aload_n 0, 1) := by decide +kernel
theorem dX10_keep_15 : decode cX10_keep 15 = .ok (.getfield 220, 3) := by decide +kernel
theorem dX10_keep_18 : decode cX10_keep 18 = .ok (.iaload, 1) := by decide +kernel
theorem dX10_keep_19 : decode cX10_keep 19 = .ok (.istore_n 2, 1) := by decide +kernel
theorem dX10_keep_20 : decode cX10_keep 20 = .ok (.iload_n 2, 1) := by decide +kernel
theorem dX10_keep_21 : decode cX10_keep 21 = .ok (.ifCond .ne 46, 3) := by decide +kernel
theorem dX10_keep_24 : decode cX10_keep 24 = .ok (.aload_n 0, 1) := by decide +kernel
theorem dX10_keep_25 : decode cX10_keep 25 = .ok (.dup, 1) := by decide +kernel
theorem dX10_keep_26 : decode cX10_keep 26 = .ok (.getfield 305, 3) := by decide +kernel
theorem dX10_keep_29 : decode cX10_keep 29 = .ok (.iconst 1, 1) := by decide +kernel
theorem dX10_keep_30 : decode cX10_keep 30 = .ok (.iadd, 1) := by decide +kernel
theorem dX10_keep_31 : decode cX10_keep 31 = .ok (.putfield 305, 3) := by decide +kernel
theorem dX10_keep_34 : decode cX10_keep 34 = .ok (.aload_n 0, 1) := by decide +kernel
theorem dX10_keep_35 : decode cX10_keep 35 = .ok (.getfield 80, 3) := by decide +kernel
theorem dX10_keep_38 : decode cX10_keep 38 = .ok (.aload_n 0, 1) := by decide +kernel
theorem dX10_keep_39 : decode cX10_keep 39 = .ok (.getfield 305, 3) := by decide +kernel
theorem dX10_keep_42 : decode cX10_keep 42 = .ok (.aload_n 0, 1) := by decide +kernel
theorem dX10_keep_43 : decode cX10_keep 43 = .ok (.getfield 144, 3) := by decide +kernel
theorem dX10_keep_46 : decode cX10_keep 46 = .ok (.iconst 0, 1) := by decide +kernel
theorem dX10_keep_47 : decode cX10_keep 47 = .ok (.iaload, 1) := by decide +kernel
theorem dX10_keep_48 : decode cX10_keep 48 = .ok (.iastore, 1) := by decide +kernel
theorem dX10_keep_49 : decode cX10_keep 49 = .ok (.aload_n 0, 1) := by decide +kernel
theorem dX10_keep_50 : decode cX10_keep 50 = .ok (.getfield 83, 3) := by decide +kernel
theorem dX10_keep_53 : decode cX10_keep 53 = .ok (.aload_n 0, 1) := by decide +kernel
theorem dX10_keep_54 : decode cX10_keep 54 = .ok (.getfield 305, 3) := by decide +kernel
theorem dX10_keep_57 : decode cX10_keep 57 = .ok (.aload_n 0, 1) := by decide +kernel
theorem dX10_keep_58 : decode cX10_keep 58 = .ok (.getfield 147, 3) := by decide +kernel
theorem dX10_keep_61 : decode cX10_keep 61 = .ok (.iconst 0, 1) := by decide +kernel
theorem dX10_keep_62 : decode cX10_keep 62 = .ok (.laload, 1) := by decide +kernel
theorem dX10_keep_63 : decode cX10_keep 63 = .ok (.lastore, 1) := by decide +kernel
theorem dX10_keep_64 : decode cX10_keep 64 = .ok (.goto 115, 3) := by decide +kernel
theorem dX10_keep_67 : decode cX10_keep 67 = .ok (.aload_n 0, 1) := by decide +kernel
theorem dX10_keep_68 : decode cX10_keep 68 = .ok (.getfield 17, 3) := by decide +kernel
theorem dX10_keep_71 : decode cX10_keep 71 = .ok (.iload_n 1, 1) := by decide +kernel
theorem dX10_keep_72 : decode cX10_keep 72 = .ok (.iload_n 2, 1) := by decide +kernel
theorem dX10_keep_73 : decode cX10_keep 73 = .ok (.iastore, 1) := by decide +kernel
theorem dX10_keep_74 : decode cX10_keep 74 = .ok (.aload_n 0, 1) := by decide +kernel
theorem dX10_keep_75 : decode cX10_keep 75 = .ok (.getfield 20, 3) := by decide +kernel
theorem dX10_keep_78 : decode cX10_keep 78 = .ok (.iload_n 1, 1) := by decide +kernel
theorem dX10_keep_79 : decode cX10_keep 79 = .ok (.aload_n 0, 1) := by decide +kernel
theorem dX10_keep_80 : decode cX10_keep 80 = .ok (.getfield 220, 3) := by decide +kernel
theorem dX10_keep_83 : decode cX10_keep 83 = .ok (.iastore, 1) := by decide +kernel
theorem dX10_keep_84 : decode cX10_keep 84 = .ok (.iload_n 2, 1) := by decide +kernel
theorem dX10_keep_85 : decode cX10_keep 85 = .ok (.iconst 1, 1) := by decide +kernel
theorem dX10_keep_86 : decode cX10_keep 86 = .ok (.if_icmp .ne 63, 3) := by decide +kernel
theorem dX10_keep_89 : decode cX10_keep 89 = .ok (.aload_n 0, 1) := by decide +kernel
theorem dX10_keep_90 : decode cX10_keep 90 = .ok (.getfield 26, 3) := by decide +kernel
theorem dX10_keep_93 : decode cX10_keep 93 = .ok (.iload_n 1, 1) := by decide +kernel
theorem dX10_keep_94 : decode cX10_keep 94 = .ok (.aload_n 0, 1) := by decide +kernel
theorem dX10_keep_95 : decode cX10_keep 95 = .ok (.getfield 47, 3) := by decide +kernel
theorem dX10_keep_98 : decode cX10_keep 98 = .ok (.aload_n 0, 1) := by decide +kernel
theorem dX10_keep_99 : decode cX10_keep 99 = .ok (.getfield 220, 3) := by decide +kernel
theorem dX10_keep_102 : decode cX10_keep 102 = .ok (.iaload, 1) := by decide +kernel
theorem dX10_keep_103 : decode cX10_keep 103 = .ok (.bipush (-5), 2) := by decide +kernel
theorem dX10_keep_105 : decode cX10_keep 105 = .ok (.if_icmp .ne 7, 3) := by decide +kernel
theorem dX10_keep_108 : decode cX10_keep 108 = .ok (.iconst 0, 1) := by decide +kernel
theorem dX10_keep_109 : decode cX10_keep 109 = .ok (.goto 9, 3) := by decide +kernel
theorem dX10_keep_112 : decode cX10_keep 112 = .ok (.aload_n 0, 1) := by decide +kernel
theorem dX10_keep_113 : decode cX10_keep 113 = .ok (.getfield 144, 3) := by decide +kernel
theorem dX10_keep_116 : decode cX10_keep 116 = .ok (.iconst 0, 1) := by decide +kernel
theorem dX10_keep_117 : decode cX10_keep 117 = .ok (.iaload, 1) := by decide +kernel
theorem dX10_keep_118 : decode cX10_keep 118 = .ok (.iastore, 1) := by decide +kernel
theorem dX10_keep_119 : decode cX10_keep 119 = .ok (.aload_n 0, 1) := by decide +kernel
theorem dX10_keep_120 : decode cX10_keep 120 = .ok (.getfield 29, 3) := by decide +kernel
theorem dX10_keep_123 : decode cX10_keep 123 = .ok (.iload_n 1, 1) := by decide +kernel
theorem dX10_keep_124 : decode cX10_keep 124 = .ok (.aload_n 0, 1) := by decide +kernel
theorem dX10_keep_125 : decode cX10_keep 125 = .ok (.getfield 47, 3) := by decide +kernel
theorem dX10_keep_128 : decode cX10_keep 128 = .ok (.aload_n 0, 1) := by decide +kernel
theorem dX10_keep_129 : decode cX10_keep 129 = .ok (.getfield 220, 3) := by decide +kernel
theorem dX10_keep_132 : decode cX10_keep 132 = .ok (.iaload, 1) := by decide +kernel
theorem dX10_keep_133 : decode cX10_keep 133 = .ok (.bipush (-5), 2) := by decide +kernel
theorem dX10_keep_135 : decode cX10_keep 135 = .ok (.if_icmp .ne 7, 3) := by decide +kernel
theorem dX10_keep_138 : decode cX10_keep 138 = .ok (.lconst 0, 1) := by decide +kernel
theorem dX10_keep_139 : decode cX10_keep 139 = .ok (.goto 9, 3) := by decide +kernel
theorem dX10_keep_142 : decode cX10_keep 142 = .ok (.aload_n 0, 1) := by decide +kernel
theorem dX10_keep_143 : decode cX10_keep 143 = .ok (.getfield 147, 3) := by decide +kernel
theorem dX10_keep_146 : decode cX10_keep 146 = .ok (.iconst 0, 1) := by decide +kernel
theorem dX10_keep_147 : decode cX10_keep 147 = .ok (.laload, 1) := by decide +kernel
theorem dX10_keep_148 : decode cX10_keep 148 = .ok (.lastore, 1) := by decide +kernel
theorem dX10_keep_149 : decode cX10_keep 149 = .ok (.iload_n 2, 1) := by decide +kernel
theorem dX10_keep_150 : decode cX10_keep 150 = .ok (.iconst 3, 1) := by decide +kernel
theorem dX10_keep_151 : decode cX10_keep 151 = .ok (.if_icmp .ne 28, 3) := by decide +kernel
theorem dX10_keep_154 : decode cX10_keep 154 = .ok (.aload_n 0, 1) := by decide +kernel
theorem dX10_keep_155 : decode cX10_keep 155 = .ok (.getfield 23, 3) := by decide +kernel
theorem dX10_keep_158 : decode cX10_keep 158 = .ok (.iload_n 1, 1) := by decide +kernel
theorem dX10_keep_159 : decode cX10_keep 159 = .ok (.dup2, 1) := by decide +kernel
theorem dX10_keep_160 : decode cX10_keep 160 = .ok (.iaload, 1) := by decide +kernel
theorem dX10_keep_161 : decode cX10_keep 161 = .ok (.iconst 1, 1) := by decide +kernel
theorem dX10_keep_162 : decode cX10_keep 162 = .ok (.iadd, 1) := by decide +kernel
theorem dX10_keep_163 : decode cX10_keep 163 = .ok (.iastore, 1) := by decide +kernel
theorem dX10_keep_164 : decode cX10_keep 164 = .ok (.aload_n 0, 1) := by decide +kernel
theorem dX10_keep_165 : decode cX10_keep 165 = .ok (.getfield 44, 3) := by decide +kernel
theorem dX10_keep_168 : decode cX10_keep 168 = .ok (.aload_n 0, 1) := by decide +kernel
theorem dX10_keep_169 : decode cX10_keep 169 = .ok (.getfield 220, 3) := by decide +kernel
theorem dX10_keep_172 : decode cX10_keep 172 = .ok (.aload_n 0, 1) := by decide +kernel
theorem dX10_keep_173 : decode cX10_keep 173 = .ok (.getfield 23, 3) := by decide +kernel
theorem dX10_keep_176 : decode cX10_keep 176 = .ok (.iload_n 1, 1) := by decide +kernel
theorem dX10_keep_177 : decode cX10_keep 177 = .ok (.iaload, 1) := by decide +kernel
theorem dX10_keep_178 : decode cX10_keep 178 = .ok (.iastore, 1) := by decide +kernel
theorem dX10_keep_179 : decode cX10_keep 179 = .ok (.aload_n 0, 1) := by decide +kernel
theorem dX10_keep_180 : decode cX10_keep 180 = .ok (.getfield 50, 3) := by decide +kernel
theorem dX10_keep_183 : decode cX10_keep 183 = .ok (.aload_n 0, 1) := by decide +kernel
theorem dX10_keep_184 : decode cX10_keep 184 = .ok (.getfield 220, 3) := by decide +kernel
theorem dX10_keep_187 : decode cX10_keep 187 = .ok (.aload_n 0, 1) := by decide +kernel
theorem dX10_keep_188 : decode cX10_keep 188 = .ok (.getfield 164, 3) := by decide +kernel
theorem dX10_keep_191 : decode cX10_keep 191 = .ok (.iastore, 1) := by decide +kernel
theorem dX10_keep_192 : decode cX10_keep 192 = .ok (.iconst 0, 1) := by decide +kernel
theorem dX10_keep_193 : decode cX10_keep 193 = .ok (.istore_n 3, 1) := by decide +kernel
theorem dX10_keep_194 : decode cX10_keep 194 = .ok (.iload_n 3, 1) := by decide +kernel
theorem dX10_keep_195 : decode cX10_keep 195 = .ok (.aload_n 0, 1) := by decide +kernel
theorem dX10_keep_196 : decode cX10_keep 196 = .ok (.getfield 164, 3) := by decide +kernel
theorem dX10_keep_199 : decode cX10_keep 199 = .ok (.if_icmp .ge 29, 3) := by decide +kernel
theorem dX10_keep_202 : decode cX10_keep 202 = .ok (.aload_n 0, 1) := by decide +kernel
theorem dX10_keep_203 : decode cX10_keep 203 = .ok (.getfield 53, 3) := by decide +kernel
theorem dX10_keep_206 : decode cX10_keep 206 = .ok (.bipush 120, 2) := by decide +kernel
theorem dX10_keep_208 : decode cX10_keep 208 = .ok (.aload_n 0, 1) := by decide +kernel
theorem dX10_keep_209 : decode cX10_keep 209 = .ok (.getfield 220, 3) := by decide +kernel
theorem dX10_keep_212 : decode cX10_keep 212 = .ok (.imul, 1) := by decide +kernel
theorem dX10_keep_213 : decode cX10_keep 213 = .ok (.iload_n 3, 1) := by decide +kernel
theorem dX10_keep_214 : decode cX10_keep 214 = .ok (.iadd, 1) := by decide +kernel
theorem dX10_keep_215 : decode cX10_keep 215 = .ok (.aload_n 0, 1) := by decide +kernel
theorem dX10_keep_216 : decode cX10_keep 216 = .ok (.getfield 7, 3) := by decide +kernel
theorem dX10_keep_219 : decode cX10_keep 219 = .ok (.iload_n 3, 1) := by decide +kernel
theorem dX10_keep_220 : decode cX10_keep 220 = .ok (.iaload, 1) := by decide +kernel
theorem dX10_keep_221 : decode cX10_keep 221 = .ok (.iastore, 1) := by decide +kernel
theorem dX10_keep_222 : decode cX10_keep 222 = .ok (.iinc 3 1, 3) := by decide +kernel
theorem dX10_keep_225 : decode cX10_keep 225 = .ok (.goto (-31), 3) := by decide +kernel
theorem dX10_keep_228 : decode cX10_keep 228 = .ok (.aload_n 0, 1) := by decide +kernel
theorem dX10_keep_229 : decode cX10_keep 229 = .ok (.dup, 1) := by decide +kernel
theorem dX10_keep_230 : decode cX10_keep 230 = .ok (.getfield 220, 3) := by decide +kernel
theorem dX10_keep_233 : decode cX10_keep 233 = .ok (.iconst 1, 1) := by decide +kernel
theorem dX10_keep_234 : decode cX10_keep 234 = .ok (.iadd, 1) := by decide +kernel
theorem dX10_keep_235 : decode cX10_keep 235 = .ok (.putfield 220, 3) := by decide +kernel
theorem dX10_keep_238 : decode cX10_keep 238 = .ok (.iload_n 2, 1) := by decide +kernel
theorem dX10_keep_239 : decode cX10_keep 239 = .ok (.ifCond .ne 10, 3) := by decide +kernel
theorem dX10_keep_242 : decode cX10_keep 242 = .ok (.aload_n 0, 1) := by decide +kernel
theorem dX10_keep_243 : decode cX10_keep 243 = .ok (.getfield 305, 3) := by decide +kernel
theorem dX10_keep_246 : decode cX10_keep 246 = .ok (.goto 4, 3) := by decide +kernel
theorem dX10_keep_249 : decode cX10_keep 249 = .ok (.iconst 0, 1) := by decide +kernel
theorem dX10_keep_250 : decode cX10_keep 250 = .ok (.ireturn, 1) := by decide +kernel
theorem dX10_run_0 : decode cX10_run 0 = .ok (.aload_n 0, 1) := by decide +kernel
theorem dX10_run_1 : decode cX10_run 1 = .ok (.iconst 0, 1) := by decide +kernel
theorem dX10_run_2 : decode cX10_run 2 = .ok (.putfield 154, 3) := by decide +kernel
theorem dX10_run_5 : decode cX10_run 5 = .ok (.aload_n 0, 1) := by decide +kernel
theorem dX10_run_6 : decode cX10_run 6 = .ok (.getfield 220, 3) := by decide +kernel
theorem dX10_run_9 : decode cX10_run 9 = .ok (.bipush 40, 2) := by decide +kernel
theorem dX10_run_11 : decode cX10_run 11 = .ok (.if_icmp .ne 6, 3) := by decide +kernel
theorem dX10_run_14 : decode cX10_run 14 = .ok (.bipush (-4), 2) := by decide +kernel
theorem dX10_run_16 : decode cX10_run 16 = .ok (.ireturn, 1) := by decide +kernel
theorem dX10_run_17 : decode cX10_run 17 = .ok (.aload_n 0, 1) := by decide +kernel
theorem dX10_run_18 : decode cX10_run 18 = .ok (.invokevirtual 342, 3) := by decide +kernel
theorem dX10_run_21 : decode cX10_run 21 = .ok (.istore_n 1, 1) := by decide +kernel
theorem dX10_run_22 : decode cX10_run 22 = .ok (.iload_n 1, 1) := by decide +kernel
theorem dX10_run_23 : decode cX10_run 23 = .ok (.ifCond .ge 13, 3) := by decide +kernel
theorem dX10_run_26 : decode cX10_run 26 = .ok (.aload_n 0, 1) := by decide +kernel
theorem dX10_run_27 : decode cX10_run 27 = .ok (.invokevirtual 345, 3) := by decide +kernel
theorem dX10_run_30 : decode cX10_run 30 = .ok (.ifCond .ne 6, 3) := by decide +kernel
theorem dX10_run_33 : decode cX10_run 33 = .ok (.bipush (-4), 2) := by decide +kernel
theorem dX10_run_35 : decode cX10_run 35 = .ok (.ireturn, 1) := by decide +kernel
theorem dX10_run_36 : decode cX10_run 36 = .ok (.iconst 0, 1) := by decide +kernel
theorem dX10_run_37 : decode cX10_run 37 = .ok (.istore_n 2, 1) := by decide +kernel
theorem dX10_run_38 : decode cX10_run 38 = .ok (.iload_n 2, 1) := by decide +kernel
theorem dX10_run_39 : decode cX10_run 39 = .ok (.iconst 5, 1) := by decide +kernel
theorem dX10_run_40 : decode cX10_run 40 = .ok (.if_icmp .ge 16, 3) := by decide +kernel
theorem dX10_run_43 : decode cX10_run 43 = .ok (.aload_n 0, 1) := by decide +kernel
theorem dX10_run_44 : decode cX10_run 44 = .ok (.getfield 96, 3) := by decide +kernel
theorem dX10_run_47 : decode cX10_run 47 = .ok (.iload_n 2, 1) := by decide +kernel
theorem dX10_run_48 : decode cX10_run 48 = .ok (.iconst 0, 1) := by decide +kernel
theorem dX10_run_49 : decode cX10_run 49 = .ok (.iastore, 1) := by decide +kernel
theorem dX10_run_50 : decode cX10_run 50 = .ok (.iinc 2 1, 3) := by decide +kernel
theorem dX10_run_53 : decode cX10_run 53 = .ok (.goto (-15), 3) := by decide +kernel
theorem dX10_run_56 : decode cX10_run 56 = .ok (.bipush (-20), 2) := by decide +kernel
theorem dX10_run_58 : decode cX10_run 58 = .ok (.iload_n 1, 1) := by decide +kernel
theorem dX10_run_59 : decode cX10_run 59 = .ok (.isub, 1) := by decide +kernel
theorem dX10_run_60 : decode cX10_run 60 = .ok (.istore_n 2, 1) := by decide +kernel
theorem dX10_run_61 : decode cX10_run 61 = .ok (.iload_n 1, 1) := by decide +kernel
theorem dX10_run_62 : decode cX10_run 62 = .ok (.ifCond .ge 118, 3) := by decide +kernel
theorem dX10_run_65 : decode cX10_run 65 = .ok (.aload_n 0, 1) := by decide +kernel
theorem dX10_run_66 : decode cX10_run 66 = .ok (.invokevirtual 348, 3) := by decide +kernel
theorem dX10_run_69 : decode cX10_run 69 = .ok (.aload_n 0, 1) := by decide +kernel
theorem dX10_run_70 : decode cX10_run 70 = .ok (.getfield 317, 3) := by decide +kernel
theorem dX10_run_73 : decode cX10_run 73 = .ok (.istore_n 3, 1) := by decide +kernel
theorem dX10_run_74 : decode cX10_run 74 = .ok (.aload_n 0, 1) := by decide +kernel
theorem dX10_run_75 : decode cX10_run 75 = .ok (.iconst 0, 1) := by decide +kernel
theorem dX10_run_76 : decode cX10_run 76 = .ok (.putfield 285, 3) := by decide +kernel
theorem dX10_run_79 : decode cX10_run 79 = .ok (.aload_n 0, 1) := by decide +kernel
theorem dX10_run_80 : decode cX10_run 80 = .ok (.iconst 0, 1) := by decide +kernel
theorem dX10_run_81 : decode cX10_run 81 = .ok (.putfield 302, 3) := by decide +kernel
theorem dX10_run_84 : decode cX10_run 84 = .ok (.aload_n 0, 1) := by decide +kernel
theorem dX10_run_85 : decode cX10_run 85 = .ok (.getfield 47, 3) := by decide +kernel
theorem dX10_run_88 : decode cX10_run 88 = .ok (.aload_n 0, 1) := by decide +kernel
theorem dX10_run_89 : decode cX10_run 89 = .ok (.getfield 220, 3) := by decide +kernel
theorem dX10_run_92 : decode cX10_run 92 = .ok (.iaload, 1) := by decide +kernel
theorem dX10_run_93 : decode cX10_run 93 = .ok (.bipush (-5), 2) := by decide +kernel
theorem dX10_run_95 : decode cX10_run 95 = .ok (.if_icmp .eq 20, 3) := by decide +kernel
theorem dX10_run_98 : decode cX10_run 98 = .ok (.aload_n 0, 1) := by decide +kernel
theorem dX10_run_99 : decode cX10_run 99 = .ok (.getfield 32, 3) := by decide +kernel
theorem dX10_run_102 : decode cX10_run 102 = .ok (.aload_n 0, 1) := by decide +kernel
theorem dX10_run_103 : decode cX10_run 103 = .ok (.getfield 220, 3) := by decide +kernel
theorem dX10_run_106 : decode cX10_run 106 = .ok (.iaload, 1) := by decide +kernel
theorem dX10_run_107 : decode cX10_run 107 = .ok (.iconst 2, 1) := by decide +kernel
theorem dX10_run_108 : decode cX10_run 108 = .ok (.if_icmp .ge 7, 3) := by decide +kernel
theorem dX10_run_111 : decode cX10_run 111 = .ok (.aload_n 0, 1) := by decide +kernel
theorem dX10_run_112 : decode cX10_run 112 = .ok (.invokevirtual 351, 3) := by decide +kernel
theorem dX10_run_115 : decode cX10_run 115 = .ok (.aload_n 0, 1) := by decide +kernel
theorem dX10_run_116 : decode cX10_run 116 = .ok (.getfield 96, 3) := by decide +kernel
theorem dX10_run_119 : decode cX10_run 119 = .ok (.iconst 4, 1) := by decide +kernel
theorem dX10_run_120 : decode cX10_run 120 = .ok (.aload_n 0, 1) := by decide +kernel
theorem dX10_run_121 : decode cX10_run 121 = .ok (.getfield 302, 3) := by decide +kernel
theorem dX10_run_124 : decode cX10_run 124 = .ok (.iastore, 1) := by decide +kernel
theorem dX10_run_125 : decode cX10_run 125 = .ok (.aload_n 0, 1) := by decide +kernel
theorem dX10_run_126 : decode cX10_run 126 = .ok (.dup, 1) := by decide +kernel
theorem dX10_run_127 : decode cX10_run 127 = .ok (.getfield 354, 3) := by decide +kernel
theorem dX10_run_130 : decode cX10_run 130 = .ok (.aload_n 0, 1) := by decide +kernel
theorem dX10_run_131 : decode cX10_run 131 = .ok (.getfield 302, 3) := by decide +kernel
theorem dX10_run_134 : decode cX10_run 134 = .ok (.iadd, 1) := by decide +kernel
theorem dX10_run_135 : decode cX10_run 135 = .ok (.putfield 354, 3) := by decide +kernel
theorem dX10_run_138 : decode cX10_run 138 = .ok (.aload_n 0, 1) := by decide +kernel
theorem dX10_run_139 : decode cX10_run 139 = .ok (.aload_n 0, 1) := by decide +kernel
theorem dX10_run_140 : decode cX10_run 140 = .ok (.getfield 285, 3) := by decide +kernel
theorem dX10_run_143 : decode cX10_run 143 = .ok (.ifCond .le 7, 3) := by decide +kernel
theorem dX10_run_146 : decode cX10_run 146 = .ok (.iload_n 3, 1) := by decide +kernel
theorem dX10_run_147 : decode cX10_run 147 = .ok (.goto 7, 3) := by decide +kernel
theorem dX10_run_150 : decode cX10_run 150 = .ok (.aload_n 0, 1) := by decide +kernel
theorem dX10_run_151 : decode cX10_run 151 = .ok (.getfield 317, 3) := by decide +kernel
theorem dX10_run_154 : decode cX10_run 154 = .ok (.putfield 317, 3) := by decide +kernel
theorem dX10_run_157 : decode cX10_run 157 = .ok (.aload_n 0, 1) := by decide +kernel
theorem dX10_run_158 : decode cX10_run 158 = .ok (.getfield 285, 3) := by decide +kernel
theorem dX10_run_161 : decode cX10_run 161 = .ok (.ifCond .le 14, 3) := by decide +kernel
theorem dX10_run_164 : decode cX10_run 164 = .ok (.sipush (-200), 3) := by decide +kernel
theorem dX10_run_167 : decode cX10_run 167 = .ok (.aload_n 0, 1) := by decide +kernel
theorem dX10_run_168 : decode cX10_run 168 = .ok (.getfield 285, 3) := by decide +kernel
theorem dX10_run_171 : decode cX10_run 171 = .ok (.isub, 1) := by decide +kernel
theorem dX10_run_172 : decode cX10_run 172 = .ok (.goto 7, 3) := by decide +kernel
theorem dX10_run_175 : decode cX10_run 175 = .ok (.aload_n 0, 1) := by decide +kernel
theorem dX10_run_176 : decode cX10_run 176 = .ok (.invokevirtual 357, 3) := by decide +kernel
theorem dX10_run_179 : decode cX10_run 179 = .ok (.istore_n 2, 1) := by decide +kernel
theorem dX10_run_180 : decode cX10_run 180 = .ok (.aload_n 0, 1) := by decide +kernel
theorem dX10_run_181 : decode cX10_run 181 = .ok (.iconst 0, 1) := by decide +kernel
theorem dX10_run_182 : decode cX10_run 182 = .ok (.putfield 164, 3) := by decide +kernel
theorem dX10_run_185 : decode cX10_run 185 = .ok (.iload_n 2, 1) := by decide +kernel
theorem dX10_run_186 : decode cX10_run 186 = .ok (.ireturn, 1) := by decide +kernel
theorem dX10_thrown__0 : decode cX10_thrown_ 0 = .ok (.iload_n 1, 1) := by decide +kernel
theorem dX10_thrown__1 : decode cX10_thrown_ 1 = .ok (.iconst 0, 1) := by decide +kernel
theorem dX10_thrown__2 : decode cX10_thrown_ 2 = .ok (.iconst 4, 1) := by decide +kernel
theorem dX10_thrown__3 : decode cX10_thrown_ 3 = .ok (.invokestatic 160, 3) := by decide +kernel
theorem dX10_thrown__6 : decode cX10_thrown_ 6 = .ok (.ifCond .eq 12, 3) := by decide +kernel
theorem dX10_thrown__9 : decode cX10_thrown_ 9 = .ok (.aload_n 0, 1) := by decide +kernel
theorem dX10_thrown__10 : decode cX10_thrown_ 10 = .ok (.getfield 96, 3) := by decide +kernel
theorem dX10_thrown__13 : decode cX10_thrown_ 13 = .ok (.iload_n 1, 1) := by decide +kernel
theorem dX10_thrown__14 : decode cX10_thrown_ 14 = .ok (.iaload, 1) := by decide +kernel
theorem dX10_thrown__15 : decode cX10_thrown_ 15 = .ok (.goto 5, 3) := by decide +kernel
theorem dX10_thrown__18 : decode cX10_thrown_ 18 = .ok (.bipush (-2), 2) := by decide +kernel
theorem dX10_thrown__20 : decode cX10_thrown_ 20 = .ok (.ireturn, 1) := by decide +kernel
theorem dX10_kind_0 : decode cX10_kind 0 = .ok (.aload_n 0, 1) := by decide +kernel
theorem dX10_kind_1 : decode cX10_kind 1 = .ok (.iconst 0, 1) := by decide +kernel
theorem dX10_kind_2 : decode cX10_kind 2 = .ok (.putfield 154, 3) := by decide +kernel
theorem dX10_kind_5 : decode cX10_kind 5 = .ok (.iload_n 1, 1) := by decide +kernel
theorem dX10_kind_6 : decode cX10_kind 6 = .ok (.iconst 1, 1) := by decide +kernel
theorem dX10_kind_7 : decode cX10_kind 7 = .ok (.aload_n 0, 1) := by decide +kernel
theorem dX10_kind_8 : decode cX10_kind 8 = .ok (.getfield 305, 3) := by decide +kernel
theorem dX10_kind_11 : decode cX10_kind 11 = .ok (.invokestatic 160, 3) := by decide +kernel
theorem dX10_kind_14 : decode cX10_kind 14 = .ok (.ifCond .eq 12, 3) := by decide +kernel
theorem dX10_kind_17 : decode cX10_kind 17 = .ok (.aload_n 0, 1) := by decide +kernel
theorem dX10_kind_18 : decode cX10_kind 18 = .ok (.getfield 80, 3) := by decide +kernel
theorem dX10_kind_21 : decode cX10_kind 21 = .ok (.iload_n 1, 1) := by decide +kernel
theorem dX10_kind_22 : decode cX10_kind 22 = .ok (.iaload, 1) := by decide +kernel
theorem dX10_kind_23 : decode cX10_kind 23 = .ok (.goto 4, 3) := by decide +kernel
theorem dX10_kind_26 : decode cX10_kind 26 = .ok (.iconst (-1), 1) := by decide +kernel
theorem dX10_kind_27 : decode cX10_kind 27 = .ok (.ireturn, 1) := by decide +kernel
theorem dX10_whole_0 : decode cX10_whole 0 = .ok (.aload_n 0, 1) := by decide +kernel
theorem dX10_whole_1 : decode cX10_whole 1 = .ok (.iload_n 1, 1) := by decide +kernel
theorem dX10_whole_2 : decode cX10_whole 2 = .ok (.iconst 1, 1) := by decide +kernel
theorem dX10_whole_3 : decode cX10_whole 3 = .ok (.aload_n 0, 1) := by decide +kernel
theorem dX10_whole_4 : decode cX10_whole 4 = .ok (.getfield 305, 3) := by decide +kernel
theorem dX10_whole_7 : decode cX10_whole 7 = .ok (.invokestatic 160, 3) := by decide +kernel
theorem dX10_whole_10 : decode cX10_whole 10 = .ok (.ifCond .eq 12, 3) := by decide +kernel
theorem dX10_whole_13 : decode cX10_whole 13 = .ok (.aload_n 0, 1) := by decide +kernel
theorem dX10_whole_14 : decode cX10_whole 14 = .ok (.getfield 80, 3) := by decide +kernel
theorem dX10_whole_17 : decode cX10_whole 17 = .ok (.iload_n 1, 1) := by decide +kernel
theorem dX10_whole_18 : decode cX10_whole 18 = .ok (.iaload, 1) := by decide +kernel
theorem dX10_whole_19 : decode cX10_whole 19 = .ok (.ifCond .ne 7, 3) := by decide +kernel
theorem dX10_whole_22 : decode cX10_whole 22 = .ok (.iconst 1, 1) := by decide +kernel
theorem dX10_whole_23 : decode cX10_whole 23 = .ok (.goto 18, 3) := by decide +kernel
theorem dX10_whole_26 : decode cX10_whole 26 = .ok (.aload_n 0, 1) := by decide +kernel
theorem dX10_whole_27 : decode cX10_whole 27 = .ok (.getfield 80, 3) := by decide +kernel
theorem dX10_whole_30 : decode cX10_whole 30 = .ok (.iload_n 1, 1) := by decide +kernel
theorem dX10_whole_31 : decode cX10_whole 31 = .ok (.iaload, 1) := by decide +kernel
theorem dX10_whole_32 : decode cX10_whole 32 = .ok (.iconst 2, 1) := by decide +kernel
theorem dX10_whole_33 : decode cX10_whole 33 = .ok (.if_icmp .ne 7, 3) := by decide +kernel
theorem dX10_whole_36 : decode cX10_whole 36 = .ok (.iconst 2, 1) := by decide +kernel
theorem dX10_whole_37 : decode cX10_whole 37 = .ok (.goto 4, 3) := by decide +kernel
theorem dX10_whole_40 : decode cX10_whole 40 = .ok (.iconst 0, 1) := by decide +kernel
theorem dX10_whole_41 : decode cX10_whole 41 = .ok (.putfield 154, 3) := by decide +kernel
theorem dX10_whole_44 : decode cX10_whole 44 = .ok (.aload_n 0, 1) := by decide +kernel
theorem dX10_whole_45 : decode cX10_whole 45 = .ok (.getfield 154, 3) := by decide +kernel
theorem dX10_whole_48 : decode cX10_whole 48 = .ok (.ifCond .ne 12, 3) := by decide +kernel
theorem dX10_whole_51 : decode cX10_whole 51 = .ok (.aload_n 0, 1) := by decide +kernel
theorem dX10_whole_52 : decode cX10_whole 52 = .ok (.getfield 83, 3) := by decide +kernel
theorem dX10_whole_55 : decode cX10_whole 55 = .ok (.iload_n 1, 1) := by decide +kernel
theorem dX10_whole_56 : decode cX10_whole 56 = .ok (.laload, 1) := by decide +kernel
theorem dX10_whole_57 : decode cX10_whole 57 = .ok (.goto 4, 3) := by decide +kernel
theorem dX10_whole_60 : decode cX10_whole 60 = .ok (.lconst 0, 1) := by decide +kernel
theorem dX10_whole_61 : decode cX10_whole 61 = .ok (.lreturn, 1) := by decide +kernel
theorem dX10_thing_0 : decode cX10_thing 0 = .ok (.aload_n 0, 1) := by decide +kernel
theorem dX10_thing_1 : decode cX10_thing 1 = .ok (.iconst 0, 1) := by decide +kernel
theorem dX10_thing_2 : decode cX10_thing 2 = .ok (.putfield 154, 3) := by decide +kernel
theorem dX10_thing_5 : decode cX10_thing 5 = .ok (.iload_n 1, 1) := by decide +kernel
theorem dX10_thing_6 : decode cX10_thing 6 = .ok (.iconst 1, 1) := by decide +kernel
theorem dX10_thing_7 : decode cX10_thing 7 = .ok (.aload_n 0, 1) := by decide +kernel
theorem dX10_thing_8 : decode cX10_thing 8 = .ok (.getfield 305, 3) := by decide +kernel
theorem dX10_thing_11 : decode cX10_thing 11 = .ok (.invokestatic 160, 3) := by decide +kernel
theorem dX10_thing_14 : decode cX10_thing 14 = .ok (.ifCond .eq 13, 3) := by decide +kernel
theorem dX10_thing_17 : decode cX10_thing 17 = .ok (.aload_n 0, 1) := by decide +kernel
theorem dX10_thing_18 : decode cX10_thing 18 = .ok (.getfield 80, 3) := by decide +kernel
theorem dX10_thing_21 : decode cX10_thing 21 = .ok (.iload_n 1, 1) := by decide +kernel
theorem dX10_thing_22 : decode cX10_thing 22 = .ok (.iaload, 1) := by decide +kernel
theorem dX10_thing_23 : decode cX10_thing 23 = .ok (.iconst 2, 1) := by decide +kernel
theorem dX10_thing_24 : decode cX10_thing 24 = .ok (.if_icmp .eq 5, 3) := by decide +kernel
theorem dX10_thing_27 : decode cX10_thing 27 = .ok (.iconst (-1), 1) := by decide +kernel
theorem dX10_thing_28 : decode cX10_thing 28 = .ok (.ireturn, 1) := by decide +kernel
theorem dX10_thing_29 : decode cX10_thing 29 = .ok (.aload_n 0, 1) := by decide +kernel
theorem dX10_thing_30 : decode cX10_thing 30 = .ok (.getfield 83, 3) := by decide +kernel
theorem dX10_thing_33 : decode cX10_thing 33 = .ok (.iload_n 1, 1) := by decide +kernel
theorem dX10_thing_34 : decode cX10_thing 34 = .ok (.laload, 1) := by decide +kernel
theorem dX10_thing_35 : decode cX10_thing 35 = .ok (.l2i, 1) := by decide +kernel
theorem dX10_thing_36 : decode cX10_thing 36 = .ok (.istore_n 3, 1) := by decide +kernel
theorem dX10_thing_37 : decode cX10_thing 37 = .ok (.aload_n 0, 1) := by decide +kernel
theorem dX10_thing_38 : decode cX10_thing 38 = .ok (.getfield 86, 3) := by decide +kernel
theorem dX10_thing_41 : decode cX10_thing 41 = .ok (.iload_n 3, 1) := by decide +kernel
theorem dX10_thing_42 : decode cX10_thing 42 = .ok (.iaload, 1) := by decide +kernel
theorem dX10_thing_43 : decode cX10_thing 43 = .ok (.istore 4, 2) := by decide +kernel
theorem dX10_thing_45 : decode cX10_thing 45 = .ok (.iload_n 2, 1) := by decide +kernel
theorem dX10_thing_46 : decode cX10_thing 46 = .ok (.tableswitch 111 0 6 #[42, 50, 58, 66, 80, 80, 80], 42) := by decide +kernel
theorem dX10_thing_88 : decode cX10_thing 88 = .ok (.aload_n 0, 1) := by decide +kernel
theorem dX10_thing_89 : decode cX10_thing 89 = .ok (.getfield 35, 3) := by decide +kernel
theorem dX10_thing_92 : decode cX10_thing 92 = .ok (.iload 4, 2) := by decide +kernel
theorem dX10_thing_94 : decode cX10_thing 94 = .ok (.iaload, 1) := by decide +kernel
theorem dX10_thing_95 : decode cX10_thing 95 = .ok (.ireturn, 1) := by decide +kernel
theorem dX10_thing_96 : decode cX10_thing 96 = .ok (.aload_n 0, 1) := by decide +kernel
theorem dX10_thing_97 : decode cX10_thing 97 = .ok (.getfield 44, 3) := by decide +kernel
theorem dX10_thing_100 : decode cX10_thing 100 = .ok (.iload 4, 2) := by decide +kernel
theorem dX10_thing_102 : decode cX10_thing 102 = .ok (.iaload, 1) := by decide +kernel
theorem dX10_thing_103 : decode cX10_thing 103 = .ok (.ireturn, 1) := by decide +kernel
theorem dX10_thing_104 : decode cX10_thing 104 = .ok (.aload_n 0, 1) := by decide +kernel
theorem dX10_thing_105 : decode cX10_thing 105 = .ok (.getfield 38, 3) := by decide +kernel
theorem dX10_thing_108 : decode cX10_thing 108 = .ok (.iload 4, 2) := by decide +kernel
theorem dX10_thing_110 : decode cX10_thing 110 = .ok (.iaload, 1) := by decide +kernel
theorem dX10_thing_111 : decode cX10_thing 111 = .ok (.ireturn, 1) := by decide +kernel
theorem dX10_thing_112 : decode cX10_thing 112 = .ok (.aload_n 0, 1) := by decide +kernel
theorem dX10_thing_113 : decode cX10_thing 113 = .ok (.iload_n 3, 1) := by decide +kernel
theorem dX10_thing_114 : decode cX10_thing 114 = .ok (.invokevirtual 320, 3) := by decide +kernel
theorem dX10_thing_117 : decode cX10_thing 117 = .ok (.ifCond .eq 7, 3) := by decide +kernel
theorem dX10_thing_120 : decode cX10_thing 120 = .ok (.iconst 1, 1) := by decide +kernel
theorem dX10_thing_121 : decode cX10_thing 121 = .ok (.goto 4, 3) := by decide +kernel
theorem dX10_thing_124 : decode cX10_thing 124 = .ok (.iconst 0, 1) := by decide +kernel
theorem dX10_thing_125 : decode cX10_thing 125 = .ok (.ireturn, 1) := by decide +kernel
theorem dX10_thing_126 : decode cX10_thing 126 = .ok (.iload_n 2, 1) := by decide +kernel
theorem dX10_thing_127 : decode cX10_thing 127 = .ok (.iconst 4, 1) := by decide +kernel
theorem dX10_thing_128 : decode cX10_thing 128 = .ok (.isub, 1) := by decide +kernel
theorem dX10_thing_129 : decode cX10_thing 129 = .ok (.aload_n 0, 1) := by decide +kernel
theorem dX10_thing_130 : decode cX10_thing 130 = .ok (.getfield 38, 3) := by decide +kernel
theorem dX10_thing_133 : decode cX10_thing 133 = .ok (.iload 4, 2) := by decide +kernel
theorem dX10_thing_135 : decode cX10_thing 135 = .ok (.iaload, 1) := by decide +kernel
theorem dX10_thing_136 : decode cX10_thing 136 = .ok (.if_icmp .ge 18, 3) := by decide +kernel
theorem dX10_thing_139 : decode cX10_thing 139 = .ok (.aload_n 0, 1) := by decide +kernel
theorem dX10_thing_140 : decode cX10_thing 140 = .ok (.getfield 90, 3) := by decide +kernel
theorem dX10_thing_143 : decode cX10_thing 143 = .ok (.iconst 3, 1) := by decide +kernel
theorem dX10_thing_144 : decode cX10_thing 144 = .ok (.iload_n 3, 1) := by decide +kernel
theorem dX10_thing_145 : decode cX10_thing 145 = .ok (.imul, 1) := by decide +kernel
theorem dX10_thing_146 : decode cX10_thing 146 = .ok (.iload_n 2, 1) := by decide +kernel
theorem dX10_thing_147 : decode cX10_thing 147 = .ok (.iadd, 1) := by decide +kernel
theorem dX10_thing_148 : decode cX10_thing 148 = .ok (.iconst 4, 1) := by decide +kernel
theorem dX10_thing_149 : decode cX10_thing 149 = .ok (.isub, 1) := by decide +kernel
theorem dX10_thing_150 : decode cX10_thing 150 = .ok (.iaload, 1) := by decide +kernel
theorem dX10_thing_151 : decode cX10_thing 151 = .ok (.goto 5, 3) := by decide +kernel
theorem dX10_thing_154 : decode cX10_thing 154 = .ok (.bipush (-5), 2) := by decide +kernel
theorem dX10_thing_156 : decode cX10_thing 156 = .ok (.ireturn, 1) := by decide +kernel
theorem dX10_thing_157 : decode cX10_thing 157 = .ok (.bipush (-2), 2) := by decide +kernel
theorem dX10_thing_159 : decode cX10_thing 159 = .ok (.ireturn, 1) := by decide +kernel
theorem dX10_name_0 : decode cX10_name 0 = .ok (.aload_n 0, 1) := by decide +kernel
theorem dX10_name_1 : decode cX10_name 1 = .ok (.iconst 0, 1) := by decide +kernel
theorem dX10_name_2 : decode cX10_name 2 = .ok (.putfield 154, 3) := by decide +kernel
theorem dX10_name_5 : decode cX10_name 5 = .ok (.lconst 0, 1) := by decide +kernel
theorem dX10_name_6 : decode cX10_name 6 = .ok (.lstore_n 3, 1) := by decide +kernel
theorem dX10_name_7 : decode cX10_name 7 = .ok (.bipush 56, 2) := by decide +kernel
theorem dX10_name_9 : decode cX10_name 9 = .ok (.istore 5, 2) := by decide +kernel
theorem dX10_name_11 : decode cX10_name 11 = .ok (.iload 5, 2) := by decide +kernel
theorem dX10_name_13 : decode cX10_name 13 = .ok (.ifCond .lt 40, 3) := by decide +kernel
theorem dX10_name_16 : decode cX10_name 16 = .ok (.lload_n 1, 1) := by decide +kernel
theorem dX10_name_17 : decode cX10_name 17 = .ok (.iload 5, 2) := by decide +kernel
theorem dX10_name_19 : decode cX10_name 19 = .ok (.lshr, 1) := by decide +kernel
theorem dX10_name_20 : decode cX10_name 20 = .ok (.ldc2_w 158, 3) := by decide +kernel
theorem dX10_name_23 : decode cX10_name 23 = .ok (.land, 1) := by decide +kernel
theorem dX10_name_24 : decode cX10_name 24 = .ok (.lconst 0, 1) := by decide +kernel
theorem dX10_name_25 : decode cX10_name 25 = .ok (.lcmp, 1) := by decide +kernel
theorem dX10_name_26 : decode cX10_name 26 = .ok (.ifCond .eq 19, 3) := by decide +kernel
theorem dX10_name_29 : decode cX10_name 29 = .ok (.lload_n 3, 1) := by decide +kernel
theorem dX10_name_30 : decode cX10_name 30 = .ok (.bipush 8, 2) := by decide +kernel
theorem dX10_name_32 : decode cX10_name 32 = .ok (.lshl, 1) := by decide +kernel
theorem dX10_name_33 : decode cX10_name 33 = .ok (.lload_n 1, 1) := by decide +kernel
theorem dX10_name_34 : decode cX10_name 34 = .ok (.iload 5, 2) := by decide +kernel
theorem dX10_name_36 : decode cX10_name 36 = .ok (.lshr, 1) := by decide +kernel
theorem dX10_name_37 : decode cX10_name 37 = .ok (.ldc2_w 158, 3) := by decide +kernel
theorem dX10_name_40 : decode cX10_name 40 = .ok (.land, 1) := by decide +kernel
theorem dX10_name_41 : decode cX10_name 41 = .ok (.lor, 1) := by decide +kernel
theorem dX10_name_42 : decode cX10_name 42 = .ok (.goto 4, 3) := by decide +kernel
theorem dX10_name_45 : decode cX10_name 45 = .ok (.lload_n 3, 1) := by decide +kernel
theorem dX10_name_46 : decode cX10_name 46 = .ok (.lstore_n 3, 1) := by decide +kernel
theorem dX10_name_47 : decode cX10_name 47 = .ok (.iinc 5 (-8), 3) := by decide +kernel
theorem dX10_name_50 : decode cX10_name 50 = .ok (.goto (-39), 3) := by decide +kernel
theorem dX10_name_53 : decode cX10_name 53 = .ok (.lload_n 3, 1) := by decide +kernel
theorem dX10_name_54 : decode cX10_name 54 = .ok (.lconst 0, 1) := by decide +kernel
theorem dX10_name_55 : decode cX10_name 55 = .ok (.lcmp, 1) := by decide +kernel
theorem dX10_name_56 : decode cX10_name 56 = .ok (.ifCond .ne 8, 3) := by decide +kernel
theorem dX10_name_59 : decode cX10_name 59 = .ok (.bipush (-5), 2) := by decide +kernel
theorem dX10_name_61 : decode cX10_name 61 = .ok (.goto 8, 3) := by decide +kernel
theorem dX10_name_64 : decode cX10_name 64 = .ok (.aload_n 0, 1) := by decide +kernel
theorem dX10_name_65 : decode cX10_name 65 = .ok (.lload_n 3, 1) := by decide +kernel
theorem dX10_name_66 : decode cX10_name 66 = .ok (.invokevirtual 276, 3) := by decide +kernel
theorem dX10_name_69 : decode cX10_name 69 = .ok (.ireturn, 1) := by decide +kernel
theorem dX10_isName_0 : decode cX10_isName 0 = .ok (.iload_n 1, 1) := by decide +kernel
theorem dX10_isName_1 : decode cX10_isName 1 = .ok (.iconst 0, 1) := by decide +kernel
theorem dX10_isName_2 : decode cX10_isName 2 = .ok (.aload_n 0, 1) := by decide +kernel
theorem dX10_isName_3 : decode cX10_isName 3 = .ok (.getfield 273, 3) := by decide +kernel
theorem dX10_isName_6 : decode cX10_isName 6 = .ok (.iconst 1, 1) := by decide +kernel
theorem dX10_isName_7 : decode cX10_isName 7 = .ok (.isub, 1) := by decide +kernel
theorem dX10_isName_8 : decode cX10_isName 8 = .ok (.invokestatic 160, 3) := by decide +kernel
theorem dX10_isName_11 : decode cX10_isName 11 = .ok (.ireturn, 1) := by decide +kernel
theorem dX10_letter_0 : decode cX10_letter 0 = .ok (.aload_n 0, 1) := by decide +kernel
theorem dX10_letter_1 : decode cX10_letter 1 = .ok (.iconst 0, 1) := by decide +kernel
theorem dX10_letter_2 : decode cX10_letter 2 = .ok (.putfield 154, 3) := by decide +kernel
theorem dX10_letter_5 : decode cX10_letter 5 = .ok (.aload_n 0, 1) := by decide +kernel
theorem dX10_letter_6 : decode cX10_letter 6 = .ok (.iload_n 1, 1) := by decide +kernel
theorem dX10_letter_7 : decode cX10_letter 7 = .ok (.invokevirtual 360, 3) := by decide +kernel
theorem dX10_letter_10 : decode cX10_letter 10 = .ok (.ifCond .ne 5, 3) := by decide +kernel
theorem dX10_letter_13 : decode cX10_letter 13 = .ok (.iconst (-1), 1) := by decide +kernel
theorem dX10_letter_14 : decode cX10_letter 14 = .ok (.ireturn, 1) := by decide +kernel
theorem dX10_letter_15 : decode cX10_letter 15 = .ok (.iconst 0, 1) := by decide +kernel
theorem dX10_letter_16 : decode cX10_letter 16 = .ok (.istore_n 3, 1) := by decide +kernel
theorem dX10_letter_17 : decode cX10_letter 17 = .ok (.iconst 0, 1) := by decide +kernel
theorem dX10_letter_18 : decode cX10_letter 18 = .ok (.istore 4, 2) := by decide +kernel
theorem dX10_letter_20 : decode cX10_letter 20 = .ok (.iload 4, 2) := by decide +kernel
theorem dX10_letter_22 : decode cX10_letter 22 = .ok (.bipush 8, 2) := by decide +kernel
theorem dX10_letter_24 : decode cX10_letter 24 = .ok (.if_icmp .ge 38, 3) := by decide +kernel
theorem dX10_letter_27 : decode cX10_letter 27 = .ok (.iload_n 3, 1) := by decide +kernel
theorem dX10_letter_28 : decode cX10_letter 28 = .ok (.aload_n 0, 1) := by decide +kernel
theorem dX10_letter_29 : decode cX10_letter 29 = .ok (.getfield 13, 3) := by decide +kernel
theorem dX10_letter_32 : decode cX10_letter 32 = .ok (.iload_n 1, 1) := by decide +kernel
theorem dX10_letter_33 : decode cX10_letter 33 = .ok (.laload, 1) := by decide +kernel
theorem dX10_letter_34 : decode cX10_letter 34 = .ok (.bipush 8, 2) := by decide +kernel
theorem dX10_letter_36 : decode cX10_letter 36 = .ok (.iload 4, 2) := by decide +kernel
theorem dX10_letter_38 : decode cX10_letter 38 = .ok (.imul, 1) := by decide +kernel
theorem dX10_letter_39 : decode cX10_letter 39 = .ok (.lshr, 1) := by decide +kernel
theorem dX10_letter_40 : decode cX10_letter 40 = .ok (.ldc2_w 158, 3) := by decide +kernel
theorem dX10_letter_43 : decode cX10_letter 43 = .ok (.land, 1) := by decide +kernel
theorem dX10_letter_44 : decode cX10_letter 44 = .ok (.lconst 0, 1) := by decide +kernel
theorem dX10_letter_45 : decode cX10_letter 45 = .ok (.lcmp, 1) := by decide +kernel
theorem dX10_letter_46 : decode cX10_letter 46 = .ok (.ifCond .eq 7, 3) := by decide +kernel
theorem dX10_letter_49 : decode cX10_letter 49 = .ok (.iconst 1, 1) := by decide +kernel
theorem dX10_letter_50 : decode cX10_letter 50 = .ok (.goto 4, 3) := by decide +kernel
theorem dX10_letter_53 : decode cX10_letter 53 = .ok (.iconst 0, 1) := by decide +kernel
theorem dX10_letter_54 : decode cX10_letter 54 = .ok (.iadd, 1) := by decide +kernel
theorem dX10_letter_55 : decode cX10_letter 55 = .ok (.istore_n 3, 1) := by decide +kernel
theorem dX10_letter_56 : decode cX10_letter 56 = .ok (.iinc 4 1, 3) := by decide +kernel
theorem dX10_letter_59 : decode cX10_letter 59 = .ok (.goto (-39), 3) := by decide +kernel
theorem dX10_letter_62 : decode cX10_letter 62 = .ok (.iload_n 2, 1) := by decide +kernel
theorem dX10_letter_63 : decode cX10_letter 63 = .ok (.iconst 0, 1) := by decide +kernel
theorem dX10_letter_64 : decode cX10_letter 64 = .ok (.iload_n 3, 1) := by decide +kernel
theorem dX10_letter_65 : decode cX10_letter 65 = .ok (.iconst 1, 1) := by decide +kernel
theorem dX10_letter_66 : decode cX10_letter 66 = .ok (.isub, 1) := by decide +kernel
theorem dX10_letter_67 : decode cX10_letter 67 = .ok (.invokestatic 160, 3) := by decide +kernel
theorem dX10_letter_70 : decode cX10_letter 70 = .ok (.ifCond .eq 26, 3) := by decide +kernel
theorem dX10_letter_73 : decode cX10_letter 73 = .ok (.aload_n 0, 1) := by decide +kernel
theorem dX10_letter_74 : decode cX10_letter 74 = .ok (.getfield 13, 3) := by decide +kernel
theorem dX10_letter_77 : decode cX10_letter 77 = .ok (.iload_n 1, 1) := by decide +kernel
theorem dX10_letter_78 : decode cX10_letter 78 = .ok (.laload, 1) := by decide +kernel
theorem dX10_letter_79 : decode cX10_letter 79 = .ok (.bipush 8, 2) := by decide +kernel
theorem dX10_letter_81 : decode cX10_letter 81 = .ok (.iload_n 3, 1) := by decide +kernel
theorem dX10_letter_82 : decode cX10_letter 82 = .ok (.iconst 1, 1) := by decide +kernel
theorem dX10_letter_83 : decode cX10_letter 83 = .ok (.isub, 1) := by decide +kernel
theorem dX10_letter_84 : decode cX10_letter 84 = .ok (.iload_n 2, 1) := by decide +kernel
theorem dX10_letter_85 : decode cX10_letter 85 = .ok (.isub, 1) := by decide +kernel
theorem dX10_letter_86 : decode cX10_letter 86 = .ok (.imul, 1) := by decide +kernel
theorem dX10_letter_87 : decode cX10_letter 87 = .ok (.lshr, 1) := by decide +kernel
theorem dX10_letter_88 : decode cX10_letter 88 = .ok (.ldc2_w 158, 3) := by decide +kernel
theorem dX10_letter_91 : decode cX10_letter 91 = .ok (.land, 1) := by decide +kernel
theorem dX10_letter_92 : decode cX10_letter 92 = .ok (.l2i, 1) := by decide +kernel
theorem dX10_letter_93 : decode cX10_letter 93 = .ok (.goto 5, 3) := by decide +kernel
theorem dX10_letter_96 : decode cX10_letter 96 = .ok (.bipush (-5), 2) := by decide +kernel
theorem dX10_letter_98 : decode cX10_letter 98 = .ok (.ireturn, 1) := by decide +kernel
theorem dX10_what_0 : decode cX10_what 0 = .ok (.aload_n 0, 1) := by decide +kernel
theorem dX10_what_1 : decode cX10_what 1 = .ok (.iconst 0, 1) := by decide +kernel
theorem dX10_what_2 : decode cX10_what 2 = .ok (.putfield 154, 3) := by decide +kernel
theorem dX10_what_5 : decode cX10_what 5 = .ok (.aload_n 0, 1) := by decide +kernel
theorem dX10_what_6 : decode cX10_what 6 = .ok (.iload_n 1, 1) := by decide +kernel
theorem dX10_what_7 : decode cX10_what 7 = .ok (.invokevirtual 360, 3) := by decide +kernel
theorem dX10_what_10 : decode cX10_what 10 = .ok (.ifCond .eq 12, 3) := by decide +kernel
theorem dX10_what_13 : decode cX10_what 13 = .ok (.aload_n 0, 1) := by decide +kernel
theorem dX10_what_14 : decode cX10_what 14 = .ok (.getfield 17, 3) := by decide +kernel
theorem dX10_what_17 : decode cX10_what 17 = .ok (.iload_n 1, 1) := by decide +kernel
theorem dX10_what_18 : decode cX10_what 18 = .ok (.iaload, 1) := by decide +kernel
theorem dX10_what_19 : decode cX10_what 19 = .ok (.goto 4, 3) := by decide +kernel
theorem dX10_what_22 : decode cX10_what 22 = .ok (.iconst (-1), 1) := by decide +kernel
theorem dX10_what_23 : decode cX10_what 23 = .ok (.ireturn, 1) := by decide +kernel
theorem dX10_by_0 : decode cX10_by 0 = .ok (.aload_n 0, 1) := by decide +kernel
theorem dX10_by_1 : decode cX10_by 1 = .ok (.iconst 0, 1) := by decide +kernel
theorem dX10_by_2 : decode cX10_by 2 = .ok (.putfield 154, 3) := by decide +kernel
theorem dX10_by_5 : decode cX10_by 5 = .ok (.aload_n 0, 1) := by decide +kernel
theorem dX10_by_6 : decode cX10_by 6 = .ok (.iload_n 1, 1) := by decide +kernel
theorem dX10_by_7 : decode cX10_by 7 = .ok (.invokevirtual 360, 3) := by decide +kernel
theorem dX10_by_10 : decode cX10_by 10 = .ok (.ifCond .eq 12, 3) := by decide +kernel
theorem dX10_by_13 : decode cX10_by 13 = .ok (.aload_n 0, 1) := by decide +kernel
theorem dX10_by_14 : decode cX10_by 14 = .ok (.getfield 20, 3) := by decide +kernel
theorem dX10_by_17 : decode cX10_by 17 = .ok (.iload_n 1, 1) := by decide +kernel
theorem dX10_by_18 : decode cX10_by 18 = .ok (.iaload, 1) := by decide +kernel
theorem dX10_by_19 : decode cX10_by 19 = .ok (.goto 4, 3) := by decide +kernel
theorem dX10_by_22 : decode cX10_by 22 = .ok (.iconst (-1), 1) := by decide +kernel
theorem dX10_by_23 : decode cX10_by 23 = .ok (.ireturn, 1) := by decide +kernel
theorem dX10_edition_0 : decode cX10_edition 0 = .ok (.aload_n 0, 1) := by decide +kernel
theorem dX10_edition_1 : decode cX10_edition 1 = .ok (.iconst 0, 1) := by decide +kernel
theorem dX10_edition_2 : decode cX10_edition 2 = .ok (.putfield 154, 3) := by decide +kernel
theorem dX10_edition_5 : decode cX10_edition 5 = .ok (.aload_n 0, 1) := by decide +kernel
theorem dX10_edition_6 : decode cX10_edition 6 = .ok (.iload_n 1, 1) := by decide +kernel
theorem dX10_edition_7 : decode cX10_edition 7 = .ok (.invokevirtual 360, 3) := by decide +kernel
theorem dX10_edition_10 : decode cX10_edition 10 = .ok (.ifCond .eq 12, 3) := by decide +kernel
theorem dX10_edition_13 : decode cX10_edition 13 = .ok (.aload_n 0, 1) := by decide +kernel
theorem dX10_edition_14 : decode cX10_edition 14 = .ok (.getfield 23, 3) := by decide +kernel
theorem dX10_edition_17 : decode cX10_edition 17 = .ok (.iload_n 1, 1) := by decide +kernel
theorem dX10_edition_18 : decode cX10_edition 18 = .ok (.iaload, 1) := by decide +kernel
theorem dX10_edition_19 : decode cX10_edition 19 = .ok (.goto 4, 3) := by decide +kernel
theorem dX10_edition_22 : decode cX10_edition 22 = .ok (.iconst (-1), 1) := by decide +kernel
theorem dX10_edition_23 : decode cX10_edition 23 = .ok (.ireturn, 1) := by decide +kernel
theorem dX10_tells_0 : decode cX10_tells 0 = .ok (.aload_n 0, 1) := by decide +kernel
theorem dX10_tells_1 : decode cX10_tells 1 = .ok (.getfield 56, 3) := by decide +kernel
theorem dX10_tells_4 : decode cX10_tells 4 = .ok (.iload_n 2, 1) := by decide +kernel
theorem dX10_tells_5 : decode cX10_tells 5 = .ok (.iaload, 1) := by decide +kernel
theorem dX10_tells_6 : decode cX10_tells 6 = .ok (.iconst 3, 1) := by decide +kernel
theorem dX10_tells_7 : decode cX10_tells 7 = .ok (.if_icmp .eq 28, 3) := by decide +kernel
theorem dX10_tells_10 : decode cX10_tells 10 = .ok (.aload_n 0, 1) := by decide +kernel
theorem dX10_tells_11 : decode cX10_tells 11 = .ok (.getfield 56, 3) := by decide +kernel
theorem dX10_tells_14 : decode cX10_tells 14 = .ok (.iload_n 2, 1) := by decide +kernel
theorem dX10_tells_15 : decode cX10_tells 15 = .ok (.iaload, 1) := by decide +kernel
theorem dX10_tells_16 : decode cX10_tells 16 = .ok (.iconst 2, 1) := by decide +kernel
theorem dX10_tells_17 : decode cX10_tells 17 = .ok (.if_icmp .ne 22, 3) := by decide +kernel
theorem dX10_tells_20 : decode cX10_tells 20 = .ok (.aload_n 0, 1) := by decide +kernel
theorem dX10_tells_21 : decode cX10_tells 21 = .ok (.iload_n 1, 1) := by decide +kernel
theorem dX10_tells_22 : decode cX10_tells 22 = .ok (.aload_n 0, 1) := by decide +kernel
theorem dX10_tells_23 : decode cX10_tells 23 = .ok (.getfield 77, 3) := by decide +kernel
theorem dX10_tells_26 : decode cX10_tells 26 = .ok (.iload_n 2, 1) := by decide +kernel
theorem dX10_tells_27 : decode cX10_tells 27 = .ok (.laload, 1) := by decide +kernel
theorem dX10_tells_28 : decode cX10_tells 28 = .ok (.l2i, 1) := by decide +kernel
theorem dX10_tells_29 : decode cX10_tells 29 = .ok (.invokevirtual 291, 3) := by decide +kernel
theorem dX10_tells_32 : decode cX10_tells 32 = .ok (.ifCond .ge 7, 3) := by decide +kernel
theorem dX10_tells_35 : decode cX10_tells 35 = .ok (.iconst 1, 1) := by decide +kernel
theorem dX10_tells_36 : decode cX10_tells 36 = .ok (.goto 4, 3) := by decide +kernel
theorem dX10_tells_39 : decode cX10_tells 39 = .ok (.iconst 0, 1) := by decide +kernel
theorem dX10_tells_40 : decode cX10_tells 40 = .ok (.ireturn, 1) := by decide +kernel
theorem dX10_reach_0 : decode cX10_reach 0 = .ok (.iconst 0, 1) := by decide +kernel
theorem dX10_reach_1 : decode cX10_reach 1 = .ok (.istore_n 2, 1) := by decide +kernel
theorem dX10_reach_2 : decode cX10_reach 2 = .ok (.iload_n 2, 1) := by decide +kernel
theorem dX10_reach_3 : decode cX10_reach 3 = .ok (.bipush 64, 2) := by decide +kernel
theorem dX10_reach_5 : decode cX10_reach 5 = .ok (.if_icmp .ge 16, 3) := by decide +kernel
theorem dX10_reach_8 : decode cX10_reach 8 = .ok (.aload_n 0, 1) := by decide +kernel
theorem dX10_reach_9 : decode cX10_reach 9 = .ok (.getfield 150, 3) := by decide +kernel
theorem dX10_reach_12 : decode cX10_reach 12 = .ok (.iload_n 2, 1) := by decide +kernel
theorem dX10_reach_13 : decode cX10_reach 13 = .ok (.iconst 0, 1) := by decide +kernel
theorem dX10_reach_14 : decode cX10_reach 14 = .ok (.bastore, 1) := by decide +kernel
theorem dX10_reach_15 : decode cX10_reach 15 = .ok (.iinc 2 1, 3) := by decide +kernel
theorem dX10_reach_18 : decode cX10_reach 18 = .ok (.goto (-16), 3) := by decide +kernel
theorem dX10_reach_21 : decode cX10_reach 21 = .ok (.aload_n 0, 1) := by decide +kernel
theorem dX10_reach_22 : decode cX10_reach 22 = .ok (.getfield 150, 3) := by decide +kernel
theorem dX10_reach_25 : decode cX10_reach 25 = .ok (.aload_n 0, 1) := by decide +kernel
theorem dX10_reach_26 : decode cX10_reach 26 = .ok (.getfield 47, 3) := by decide +kernel
theorem dX10_reach_29 : decode cX10_reach 29 = .ok (.iload_n 1, 1) := by decide +kernel
theorem dX10_reach_30 : decode cX10_reach 30 = .ok (.iaload, 1) := by decide +kernel
theorem dX10_reach_31 : decode cX10_reach 31 = .ok (.bipush 64, 2) := by decide +kernel
theorem dX10_reach_33 : decode cX10_reach 33 = .ok (.iload_n 1, 1) := by decide +kernel
theorem dX10_reach_34 : decode cX10_reach 34 = .ok (.imul, 1) := by decide +kernel
theorem dX10_reach_35 : decode cX10_reach 35 = .ok (.isub, 1) := by decide +kernel
theorem dX10_reach_36 : decode cX10_reach 36 = .ok (.iconst 1, 1) := by decide +kernel
theorem dX10_reach_37 : decode cX10_reach 37 = .ok (.bastore, 1) := by decide +kernel
theorem dX10_reach_38 : decode cX10_reach 38 = .ok (.iconst 0, 1) := by decide +kernel
theorem dX10_reach_39 : decode cX10_reach 39 = .ok (.istore_n 2, 1) := by decide +kernel
theorem dX10_reach_40 : decode cX10_reach 40 = .ok (.iload_n 2, 1) := by decide +kernel
theorem dX10_reach_41 : decode cX10_reach 41 = .ok (.bipush 64, 2) := by decide +kernel
theorem dX10_reach_43 : decode cX10_reach 43 = .ok (.if_icmp .ge 75, 3) := by decide +kernel
theorem dX10_reach_46 : decode cX10_reach 46 = .ok (.bipush 63, 2) := by decide +kernel
theorem dX10_reach_48 : decode cX10_reach 48 = .ok (.istore_n 3, 1) := by decide +kernel
theorem dX10_reach_49 : decode cX10_reach 49 = .ok (.iload_n 3, 1) := by decide +kernel
theorem dX10_reach_50 : decode cX10_reach 50 = .ok (.ifCond .lt 62, 3) := by decide +kernel
theorem dX10_reach_53 : decode cX10_reach 53 = .ok (.bipush 64, 2) := by decide +kernel
theorem dX10_reach_55 : decode cX10_reach 55 = .ok (.iload_n 1, 1) := by decide +kernel
theorem dX10_reach_56 : decode cX10_reach 56 = .ok (.imul, 1) := by decide +kernel
theorem dX10_reach_57 : decode cX10_reach 57 = .ok (.iload_n 3, 1) := by decide +kernel
theorem dX10_reach_58 : decode cX10_reach 58 = .ok (.iadd, 1) := by decide +kernel
theorem dX10_reach_59 : decode cX10_reach 59 = .ok (.istore 4, 2) := by decide +kernel
theorem dX10_reach_61 : decode cX10_reach 61 = .ok (.aload_n 0, 1) := by decide +kernel
theorem dX10_reach_62 : decode cX10_reach 62 = .ok (.getfield 150, 3) := by decide +kernel
theorem dX10_reach_65 : decode cX10_reach 65 = .ok (.iload_n 3, 1) := by decide +kernel
theorem dX10_reach_66 : decode cX10_reach 66 = .ok (.baload, 1) := by decide +kernel
theorem dX10_reach_67 : decode cX10_reach 67 = .ok (.ifCond .eq 39, 3) := by decide +kernel
theorem dX10_reach_70 : decode cX10_reach 70 = .ok (.aload_n 0, 1) := by decide +kernel
theorem dX10_reach_71 : decode cX10_reach 71 = .ok (.iload_n 1, 1) := by decide +kernel
theorem dX10_reach_72 : decode cX10_reach 72 = .ok (.aload_n 0, 1) := by decide +kernel
theorem dX10_reach_73 : decode cX10_reach 73 = .ok (.getfield 59, 3) := by decide +kernel
theorem dX10_reach_76 : decode cX10_reach 76 = .ok (.iload 4, 2) := by decide +kernel
theorem dX10_reach_78 : decode cX10_reach 78 = .ok (.iaload, 1) := by decide +kernel
theorem dX10_reach_79 : decode cX10_reach 79 = .ok (.invokevirtual 363, 3) := by decide +kernel
theorem dX10_reach_82 : decode cX10_reach 82 = .ok (.aload_n 0, 1) := by decide +kernel
theorem dX10_reach_83 : decode cX10_reach 83 = .ok (.iload_n 1, 1) := by decide +kernel
theorem dX10_reach_84 : decode cX10_reach 84 = .ok (.aload_n 0, 1) := by decide +kernel
theorem dX10_reach_85 : decode cX10_reach 85 = .ok (.getfield 62, 3) := by decide +kernel
theorem dX10_reach_88 : decode cX10_reach 88 = .ok (.iload 4, 2) := by decide +kernel
theorem dX10_reach_90 : decode cX10_reach 90 = .ok (.iaload, 1) := by decide +kernel
theorem dX10_reach_91 : decode cX10_reach 91 = .ok (.invokevirtual 363, 3) := by decide +kernel
theorem dX10_reach_94 : decode cX10_reach 94 = .ok (.aload_n 0, 1) := by decide +kernel
theorem dX10_reach_95 : decode cX10_reach 95 = .ok (.iload_n 1, 1) := by decide +kernel
theorem dX10_reach_96 : decode cX10_reach 96 = .ok (.aload_n 0, 1) := by decide +kernel
theorem dX10_reach_97 : decode cX10_reach 97 = .ok (.getfield 65, 3) := by decide +kernel
theorem dX10_reach_100 : decode cX10_reach 100 = .ok (.iload 4, 2) := by decide +kernel
theorem dX10_reach_102 : decode cX10_reach 102 = .ok (.iaload, 1) := by decide +kernel
theorem dX10_reach_103 : decode cX10_reach 103 = .ok (.invokevirtual 363, 3) := by decide +kernel
theorem dX10_reach_106 : decode cX10_reach 106 = .ok (.iinc 3 (-1), 3) := by decide +kernel
theorem dX10_reach_109 : decode cX10_reach 109 = .ok (.goto (-60), 3) := by decide +kernel
theorem dX10_reach_112 : decode cX10_reach 112 = .ok (.iinc 2 1, 3) := by decide +kernel
theorem dX10_reach_115 : decode cX10_reach 115 = .ok (.goto (-75), 3) := by decide +kernel
theorem dX10_reach_118 : decode cX10_reach 118 = .ok (.return_, 1) := by decide +kernel
theorem dX10_mark_0 : decode cX10_mark 0 = .ok (.iload_n 2, 1) := by decide +kernel
theorem dX10_mark_1 : decode cX10_mark 1 = .ok (.bipush (-5), 2) := by decide +kernel
theorem dX10_mark_3 : decode cX10_mark 3 = .ok (.if_icmp .eq 15, 3) := by decide +kernel
theorem dX10_mark_6 : decode cX10_mark 6 = .ok (.aload_n 0, 1) := by decide +kernel
theorem dX10_mark_7 : decode cX10_mark 7 = .ok (.getfield 150, 3) := by decide +kernel
theorem dX10_mark_10 : decode cX10_mark 10 = .ok (.iload_n 2, 1) := by decide +kernel
theorem dX10_mark_11 : decode cX10_mark 11 = .ok (.bipush 64, 2) := by decide +kernel
theorem dX10_mark_13 : decode cX10_mark 13 = .ok (.iload_n 1, 1) := by decide +kernel
theorem dX10_mark_14 : decode cX10_mark 14 = .ok (.imul, 1) := by decide +kernel
theorem dX10_mark_15 : decode cX10_mark 15 = .ok (.isub, 1) := by decide +kernel
theorem dX10_mark_16 : decode cX10_mark 16 = .ok (.iconst 1, 1) := by decide +kernel
theorem dX10_mark_17 : decode cX10_mark 17 = .ok (.bastore, 1) := by decide +kernel
theorem dX10_mark_18 : decode cX10_mark 18 = .ok (.return_, 1) := by decide +kernel
theorem dX10_state_0 : decode cX10_state 0 = .ok (.aload_n 0, 1) := by decide +kernel
theorem dX10_state_1 : decode cX10_state 1 = .ok (.iconst 0, 1) := by decide +kernel
theorem dX10_state_2 : decode cX10_state 2 = .ok (.putfield 154, 3) := by decide +kernel
theorem dX10_state_5 : decode cX10_state 5 = .ok (.iload_n 1, 1) := by decide +kernel
theorem dX10_state_6 : decode cX10_state 6 = .ok (.iconst 0, 1) := by decide +kernel
theorem dX10_state_7 : decode cX10_state 7 = .ok (.aload_n 0, 1) := by decide +kernel
theorem dX10_state_8 : decode cX10_state 8 = .ok (.getfield 220, 3) := by decide +kernel
theorem dX10_state_11 : decode cX10_state 11 = .ok (.iconst 1, 1) := by decide +kernel
theorem dX10_state_12 : decode cX10_state 12 = .ok (.isub, 1) := by decide +kernel
theorem dX10_state_13 : decode cX10_state 13 = .ok (.invokestatic 160, 3) := by decide +kernel
theorem dX10_state_16 : decode cX10_state 16 = .ok (.ifCond .ne 5, 3) := by decide +kernel
theorem dX10_state_19 : decode cX10_state 19 = .ok (.iconst (-1), 1) := by decide +kernel
theorem dX10_state_20 : decode cX10_state 20 = .ok (.ireturn, 1) := by decide +kernel
theorem dX10_state_21 : decode cX10_state 21 = .ok (.aload_n 0, 1) := by decide +kernel
theorem dX10_state_22 : decode cX10_state 22 = .ok (.getfield 32, 3) := by decide +kernel
theorem dX10_state_25 : decode cX10_state 25 = .ok (.iload_n 1, 1) := by decide +kernel
theorem dX10_state_26 : decode cX10_state 26 = .ok (.iaload, 1) := by decide +kernel
theorem dX10_state_27 : decode cX10_state 27 = .ok (.ifCond .le 20, 3) := by decide +kernel
theorem dX10_state_30 : decode cX10_state 30 = .ok (.aload_n 0, 1) := by decide +kernel
theorem dX10_state_31 : decode cX10_state 31 = .ok (.getfield 20, 3) := by decide +kernel
theorem dX10_state_34 : decode cX10_state 34 = .ok (.aload_n 0, 1) := by decide +kernel
theorem dX10_state_35 : decode cX10_state 35 = .ok (.getfield 35, 3) := by decide +kernel
theorem dX10_state_38 : decode cX10_state 38 = .ok (.iload_n 1, 1) := by decide +kernel
theorem dX10_state_39 : decode cX10_state 39 = .ok (.iaload, 1) := by decide +kernel
theorem dX10_state_40 : decode cX10_state 40 = .ok (.iaload, 1) := by decide +kernel
theorem dX10_state_41 : decode cX10_state 41 = .ok (.iload_n 1, 1) := by decide +kernel
theorem dX10_state_42 : decode cX10_state 42 = .ok (.if_icmp .eq 5, 3) := by decide +kernel
theorem dX10_state_45 : decode cX10_state 45 = .ok (.iconst 2, 1) := by decide +kernel
theorem dX10_state_46 : decode cX10_state 46 = .ok (.ireturn, 1) := by decide +kernel
theorem dX10_state_47 : decode cX10_state 47 = .ok (.aload_n 0, 1) := by decide +kernel
theorem dX10_state_48 : decode cX10_state 48 = .ok (.getfield 32, 3) := by decide +kernel
theorem dX10_state_51 : decode cX10_state 51 = .ok (.iload_n 1, 1) := by decide +kernel
theorem dX10_state_52 : decode cX10_state 52 = .ok (.iaload, 1) := by decide +kernel
theorem dX10_state_53 : decode cX10_state 53 = .ok (.iconst 2, 1) := by decide +kernel
theorem dX10_state_54 : decode cX10_state 54 = .ok (.if_icmp .eq 5, 3) := by decide +kernel
theorem dX10_state_57 : decode cX10_state 57 = .ok (.iconst 0, 1) := by decide +kernel
theorem dX10_state_58 : decode cX10_state 58 = .ok (.ireturn, 1) := by decide +kernel
theorem dX10_state_59 : decode cX10_state 59 = .ok (.aload_n 0, 1) := by decide +kernel
theorem dX10_state_60 : decode cX10_state 60 = .ok (.iload_n 1, 1) := by decide +kernel
theorem dX10_state_61 : decode cX10_state 61 = .ok (.invokevirtual 366, 3) := by decide +kernel
theorem dX10_state_64 : decode cX10_state 64 = .ok (.iconst 0, 1) := by decide +kernel
theorem dX10_state_65 : decode cX10_state 65 = .ok (.istore_n 2, 1) := by decide +kernel
theorem dX10_state_66 : decode cX10_state 66 = .ok (.iconst 0, 1) := by decide +kernel
theorem dX10_state_67 : decode cX10_state 67 = .ok (.istore_n 3, 1) := by decide +kernel
theorem dX10_state_68 : decode cX10_state 68 = .ok (.iload_n 3, 1) := by decide +kernel
theorem dX10_state_69 : decode cX10_state 69 = .ok (.bipush 64, 2) := by decide +kernel
theorem dX10_state_71 : decode cX10_state 71 = .ok (.if_icmp .ge 87, 3) := by decide +kernel
theorem dX10_state_74 : decode cX10_state 74 = .ok (.bipush 64, 2) := by decide +kernel
theorem dX10_state_76 : decode cX10_state 76 = .ok (.iload_n 1, 1) := by decide +kernel
theorem dX10_state_77 : decode cX10_state 77 = .ok (.imul, 1) := by decide +kernel
theorem dX10_state_78 : decode cX10_state 78 = .ok (.iload_n 3, 1) := by decide +kernel
theorem dX10_state_79 : decode cX10_state 79 = .ok (.iadd, 1) := by decide +kernel
theorem dX10_state_80 : decode cX10_state 80 = .ok (.istore 4, 2) := by decide +kernel
theorem dX10_state_82 : decode cX10_state 82 = .ok (.aload_n 0, 1) := by decide +kernel
theorem dX10_state_83 : decode cX10_state 83 = .ok (.getfield 150, 3) := by decide +kernel
theorem dX10_state_86 : decode cX10_state 86 = .ok (.iload_n 3, 1) := by decide +kernel
theorem dX10_state_87 : decode cX10_state 87 = .ok (.baload, 1) := by decide +kernel
theorem dX10_state_88 : decode cX10_state 88 = .ok (.ifCond .eq 64, 3) := by decide +kernel
theorem dX10_state_91 : decode cX10_state 91 = .ok (.aload_n 0, 1) := by decide +kernel
theorem dX10_state_92 : decode cX10_state 92 = .ok (.iload_n 1, 1) := by decide +kernel
theorem dX10_state_93 : decode cX10_state 93 = .ok (.iload 4, 2) := by decide +kernel
theorem dX10_state_95 : decode cX10_state 95 = .ok (.invokevirtual 369, 3) := by decide +kernel
theorem dX10_state_98 : decode cX10_state 98 = .ok (.ifCond .eq 54, 3) := by decide +kernel
theorem dX10_state_101 : decode cX10_state 101 = .ok (.aload_n 0, 1) := by decide +kernel
theorem dX10_state_102 : decode cX10_state 102 = .ok (.getfield 17, 3) := by decide +kernel
theorem dX10_state_105 : decode cX10_state 105 = .ok (.aload_n 0, 1) := by decide +kernel
theorem dX10_state_106 : decode cX10_state 106 = .ok (.getfield 77, 3) := by decide +kernel
theorem dX10_state_109 : decode cX10_state 109 = .ok (.iload 4, 2) := by decide +kernel
theorem dX10_state_111 : decode cX10_state 111 = .ok (.laload, 1) := by decide +kernel
theorem dX10_state_112 : decode cX10_state 112 = .ok (.l2i, 1) := by decide +kernel
theorem dX10_state_113 : decode cX10_state 113 = .ok (.iaload, 1) := by decide +kernel
theorem dX10_state_114 : decode cX10_state 114 = .ok (.istore 5, 2) := by decide +kernel
theorem dX10_state_116 : decode cX10_state 116 = .ok (.iload_n 2, 1) := by decide +kernel
theorem dX10_state_117 : decode cX10_state 117 = .ok (.ifCond .ne 29, 3) := by decide +kernel
theorem dX10_state_120 : decode cX10_state 120 = .ok (.aload_n 0, 1) := by decide +kernel
theorem dX10_state_121 : decode cX10_state 121 = .ok (.getfield 56, 3) := by decide +kernel
theorem dX10_state_124 : decode cX10_state 124 = .ok (.iload 4, 2) := by decide +kernel
theorem dX10_state_126 : decode cX10_state 126 = .ok (.iaload, 1) := by decide +kernel
theorem dX10_state_127 : decode cX10_state 127 = .ok (.iconst 3, 1) := by decide +kernel
theorem dX10_state_128 : decode cX10_state 128 = .ok (.if_icmp .ne 12, 3) := by decide +kernel
theorem dX10_state_131 : decode cX10_state 131 = .ok (.iload 5, 2) := by decide +kernel
theorem dX10_state_133 : decode cX10_state 133 = .ok (.iconst 2, 1) := by decide +kernel
theorem dX10_state_134 : decode cX10_state 134 = .ok (.if_icmp .ge 16, 3) := by decide +kernel
theorem dX10_state_137 : decode cX10_state 137 = .ok (.goto 9, 3) := by decide +kernel
theorem dX10_state_140 : decode cX10_state 140 = .ok (.iload 5, 2) := by decide +kernel
theorem dX10_state_142 : decode cX10_state 142 = .ok (.iconst 1, 1) := by decide +kernel
theorem dX10_state_143 : decode cX10_state 143 = .ok (.if_icmp .eq 7, 3) := by decide +kernel
theorem dX10_state_146 : decode cX10_state 146 = .ok (.iconst 1, 1) := by decide +kernel
theorem dX10_state_147 : decode cX10_state 147 = .ok (.goto 4, 3) := by decide +kernel
theorem dX10_state_150 : decode cX10_state 150 = .ok (.iconst 0, 1) := by decide +kernel
theorem dX10_state_151 : decode cX10_state 151 = .ok (.istore_n 2, 1) := by decide +kernel
theorem dX10_state_152 : decode cX10_state 152 = .ok (.iinc 3 1, 3) := by decide +kernel
theorem dX10_state_155 : decode cX10_state 155 = .ok (.goto (-87), 3) := by decide +kernel
theorem dX10_state_158 : decode cX10_state 158 = .ok (.iload_n 2, 1) := by decide +kernel
theorem dX10_state_159 : decode cX10_state 159 = .ok (.ifCond .eq 7, 3) := by decide +kernel
theorem dX10_state_162 : decode cX10_state 162 = .ok (.iconst 1, 1) := by decide +kernel
theorem dX10_state_163 : decode cX10_state 163 = .ok (.goto 4, 3) := by decide +kernel
theorem dX10_state_166 : decode cX10_state 166 = .ok (.iconst 0, 1) := by decide +kernel
theorem dX10_state_167 : decode cX10_state 167 = .ok (.ireturn, 1) := by decide +kernel
theorem dX10_text_0 : decode cX10_text 0 = .ok (.aload_n 0, 1) := by decide +kernel
theorem dX10_text_1 : decode cX10_text 1 = .ok (.iload_n 1, 1) := by decide +kernel
theorem dX10_text_2 : decode cX10_text 2 = .ok (.iconst 0, 1) := by decide +kernel
theorem dX10_text_3 : decode cX10_text 3 = .ok (.aload_n 0, 1) := by decide +kernel
theorem dX10_text_4 : decode cX10_text 4 = .ok (.getfield 220, 3) := by decide +kernel
theorem dX10_text_7 : decode cX10_text 7 = .ok (.iconst 1, 1) := by decide +kernel
theorem dX10_text_8 : decode cX10_text 8 = .ok (.isub, 1) := by decide +kernel
theorem dX10_text_9 : decode cX10_text 9 = .ok (.invokestatic 160, 3) := by decide +kernel
theorem dX10_text_12 : decode cX10_text 12 = .ok (.ifCond .eq 23, 3) := by decide +kernel
theorem dX10_text_15 : decode cX10_text 15 = .ok (.iload_n 2, 1) := by decide +kernel
theorem dX10_text_16 : decode cX10_text 16 = .ok (.iconst 0, 1) := by decide +kernel
theorem dX10_text_17 : decode cX10_text 17 = .ok (.aload_n 0, 1) := by decide +kernel
theorem dX10_text_18 : decode cX10_text 18 = .ok (.getfield 50, 3) := by decide +kernel
theorem dX10_text_21 : decode cX10_text 21 = .ok (.iload_n 1, 1) := by decide +kernel
theorem dX10_text_22 : decode cX10_text 22 = .ok (.iaload, 1) := by decide +kernel
theorem dX10_text_23 : decode cX10_text 23 = .ok (.iconst 1, 1) := by decide +kernel
theorem dX10_text_24 : decode cX10_text 24 = .ok (.isub, 1) := by decide +kernel
theorem dX10_text_25 : decode cX10_text 25 = .ok (.invokestatic 160, 3) := by decide +kernel
theorem dX10_text_28 : decode cX10_text 28 = .ok (.ifCond .eq 7, 3) := by decide +kernel
theorem dX10_text_31 : decode cX10_text 31 = .ok (.iconst 0, 1) := by decide +kernel
theorem dX10_text_32 : decode cX10_text 32 = .ok (.goto 4, 3) := by decide +kernel
theorem dX10_text_35 : decode cX10_text 35 = .ok (.iconst 1, 1) := by decide +kernel
theorem dX10_text_36 : decode cX10_text 36 = .ok (.putfield 154, 3) := by decide +kernel
theorem dX10_text_39 : decode cX10_text 39 = .ok (.aload_n 0, 1) := by decide +kernel
theorem dX10_text_40 : decode cX10_text 40 = .ok (.getfield 154, 3) := by decide +kernel
theorem dX10_text_43 : decode cX10_text 43 = .ok (.ifCond .ne 17, 3) := by decide +kernel
theorem dX10_text_46 : decode cX10_text 46 = .ok (.aload_n 0, 1) := by decide +kernel
theorem dX10_text_47 : decode cX10_text 47 = .ok (.getfield 53, 3) := by decide +kernel
theorem dX10_text_50 : decode cX10_text 50 = .ok (.bipush 120, 2) := by decide +kernel
theorem dX10_text_52 : decode cX10_text 52 = .ok (.iload_n 1, 1) := by decide +kernel
theorem dX10_text_53 : decode cX10_text 53 = .ok (.imul, 1) := by decide +kernel
theorem dX10_text_54 : decode cX10_text 54 = .ok (.iload_n 2, 1) := by decide +kernel
theorem dX10_text_55 : decode cX10_text 55 = .ok (.iadd, 1) := by decide +kernel
theorem dX10_text_56 : decode cX10_text 56 = .ok (.iaload, 1) := by decide +kernel
theorem dX10_text_57 : decode cX10_text 57 = .ok (.goto 4, 3) := by decide +kernel
theorem dX10_text_60 : decode cX10_text 60 = .ok (.iconst 0, 1) := by decide +kernel
theorem dX10_text_61 : decode cX10_text 61 = .ok (.ireturn, 1) := by decide +kernel
theorem dX10_user_0 : decode cX10_user 0 = .ok (.aload_n 0, 1) := by decide +kernel
theorem dX10_user_1 : decode cX10_user 1 = .ok (.iconst 0, 1) := by decide +kernel
theorem dX10_user_2 : decode cX10_user 2 = .ok (.putfield 154, 3) := by decide +kernel
theorem dX10_user_5 : decode cX10_user 5 = .ok (.aload_n 0, 1) := by decide +kernel
theorem dX10_user_6 : decode cX10_user 6 = .ok (.iload_n 1, 1) := by decide +kernel
theorem dX10_user_7 : decode cX10_user 7 = .ok (.invokevirtual 360, 3) := by decide +kernel
theorem dX10_user_10 : decode cX10_user 10 = .ok (.ifCond .ne 5, 3) := by decide +kernel
theorem dX10_user_13 : decode cX10_user 13 = .ok (.iconst (-1), 1) := by decide +kernel
theorem dX10_user_14 : decode cX10_user 14 = .ok (.ireturn, 1) := by decide +kernel
theorem dX10_user_15 : decode cX10_user 15 = .ok (.iload_n 2, 1) := by decide +kernel
theorem dX10_user_16 : decode cX10_user 16 = .ok (.istore_n 3, 1) := by decide +kernel
theorem dX10_user_17 : decode cX10_user 17 = .ok (.iconst 0, 1) := by decide +kernel
theorem dX10_user_18 : decode cX10_user 18 = .ok (.istore 4, 2) := by decide +kernel
theorem dX10_user_20 : decode cX10_user 20 = .ok (.iload 4, 2) := by decide +kernel
theorem dX10_user_22 : decode cX10_user 22 = .ok (.aload_n 0, 1) := by decide +kernel
theorem dX10_user_23 : decode cX10_user 23 = .ok (.getfield 220, 3) := by decide +kernel
theorem dX10_user_26 : decode cX10_user 26 = .ok (.if_icmp .ge 145, 3) := by decide +kernel
theorem dX10_user_29 : decode cX10_user 29 = .ok (.aload_n 0, 1) := by decide +kernel
theorem dX10_user_30 : decode cX10_user 30 = .ok (.getfield 32, 3) := by decide +kernel
theorem dX10_user_33 : decode cX10_user 33 = .ok (.iload 4, 2) := by decide +kernel
theorem dX10_user_35 : decode cX10_user 35 = .ok (.iaload, 1) := by decide +kernel
theorem dX10_user_36 : decode cX10_user 36 = .ok (.iconst 2, 1) := by decide +kernel
theorem dX10_user_37 : decode cX10_user 37 = .ok (.if_icmp .ne 128, 3) := by decide +kernel
theorem dX10_user_40 : decode cX10_user 40 = .ok (.aload_n 0, 1) := by decide +kernel
theorem dX10_user_41 : decode cX10_user 41 = .ok (.getfield 20, 3) := by decide +kernel
theorem dX10_user_44 : decode cX10_user 44 = .ok (.aload_n 0, 1) := by decide +kernel
theorem dX10_user_45 : decode cX10_user 45 = .ok (.getfield 35, 3) := by decide +kernel
theorem dX10_user_48 : decode cX10_user 48 = .ok (.iload 4, 2) := by decide +kernel
theorem dX10_user_50 : decode cX10_user 50 = .ok (.iaload, 1) := by decide +kernel
theorem dX10_user_51 : decode cX10_user 51 = .ok (.iaload, 1) := by decide +kernel
theorem dX10_user_52 : decode cX10_user 52 = .ok (.iload 4, 2) := by decide +kernel
theorem dX10_user_54 : decode cX10_user 54 = .ok (.if_icmp .ne 111, 3) := by decide +kernel
theorem dX10_user_57 : decode cX10_user 57 = .ok (.aload_n 0, 1) := by decide +kernel
theorem dX10_user_58 : decode cX10_user 58 = .ok (.iload 4, 2) := by decide +kernel
theorem dX10_user_60 : decode cX10_user 60 = .ok (.invokevirtual 366, 3) := by decide +kernel
theorem dX10_user_63 : decode cX10_user 63 = .ok (.iconst 0, 1) := by decide +kernel
theorem dX10_user_64 : decode cX10_user 64 = .ok (.istore 5, 2) := by decide +kernel
theorem dX10_user_66 : decode cX10_user 66 = .ok (.iconst 0, 1) := by decide +kernel
theorem dX10_user_67 : decode cX10_user 67 = .ok (.istore 6, 2) := by decide +kernel
theorem dX10_user_69 : decode cX10_user 69 = .ok (.iload 6, 2) := by decide +kernel
theorem dX10_user_71 : decode cX10_user 71 = .ok (.bipush 64, 2) := by decide +kernel
theorem dX10_user_73 : decode cX10_user 73 = .ok (.if_icmp .ge 67, 3) := by decide +kernel
theorem dX10_user_76 : decode cX10_user 76 = .ok (.iload 5, 2) := by decide +kernel
theorem dX10_user_78 : decode cX10_user 78 = .ok (.ifCond .ne 49, 3) := by decide +kernel
theorem dX10_user_81 : decode cX10_user 81 = .ok (.aload_n 0, 1) := by decide +kernel
theorem dX10_user_82 : decode cX10_user 82 = .ok (.getfield 150, 3) := by decide +kernel
theorem dX10_user_85 : decode cX10_user 85 = .ok (.iload 6, 2) := by decide +kernel
theorem dX10_user_87 : decode cX10_user 87 = .ok (.baload, 1) := by decide +kernel
theorem dX10_user_88 : decode cX10_user 88 = .ok (.ifCond .eq 43, 3) := by decide +kernel
theorem dX10_user_91 : decode cX10_user 91 = .ok (.aload_n 0, 1) := by decide +kernel
theorem dX10_user_92 : decode cX10_user 92 = .ok (.iload 4, 2) := by decide +kernel
theorem dX10_user_94 : decode cX10_user 94 = .ok (.bipush 64, 2) := by decide +kernel
theorem dX10_user_96 : decode cX10_user 96 = .ok (.iload 4, 2) := by decide +kernel
theorem dX10_user_98 : decode cX10_user 98 = .ok (.imul, 1) := by decide +kernel
theorem dX10_user_99 : decode cX10_user 99 = .ok (.iload 6, 2) := by decide +kernel
theorem dX10_user_101 : decode cX10_user 101 = .ok (.iadd, 1) := by decide +kernel
theorem dX10_user_102 : decode cX10_user 102 = .ok (.invokevirtual 369, 3) := by decide +kernel
theorem dX10_user_105 : decode cX10_user 105 = .ok (.ifCond .eq 26, 3) := by decide +kernel
theorem dX10_user_108 : decode cX10_user 108 = .ok (.aload_n 0, 1) := by decide +kernel
theorem dX10_user_109 : decode cX10_user 109 = .ok (.getfield 77, 3) := by decide +kernel
theorem dX10_user_112 : decode cX10_user 112 = .ok (.bipush 64, 2) := by decide +kernel
theorem dX10_user_114 : decode cX10_user 114 = .ok (.iload 4, 2) := by decide +kernel
theorem dX10_user_116 : decode cX10_user 116 = .ok (.imul, 1) := by decide +kernel
theorem dX10_user_117 : decode cX10_user 117 = .ok (.iload 6, 2) := by decide +kernel
theorem dX10_user_119 : decode cX10_user 119 = .ok (.iadd, 1) := by decide +kernel
theorem dX10_user_120 : decode cX10_user 120 = .ok (.laload, 1) := by decide +kernel
theorem dX10_user_121 : decode cX10_user 121 = .ok (.iload_n 1, 1) := by decide +kernel
theorem dX10_user_122 : decode cX10_user 122 = .ok (.i2l, 1) := by decide +kernel
theorem dX10_user_123 : decode cX10_user 123 = .ok (.lcmp, 1) := by decide +kernel
theorem dX10_user_124 : decode cX10_user 124 = .ok (.ifCond .ne 7, 3) := by decide +kernel
theorem dX10_user_127 : decode cX10_user 127 = .ok (.iconst 1, 1) := by decide +kernel
theorem dX10_user_128 : decode cX10_user 128 = .ok (.goto 4, 3) := by decide +kernel
theorem dX10_user_131 : decode cX10_user 131 = .ok (.iconst 0, 1) := by decide +kernel
theorem dX10_user_132 : decode cX10_user 132 = .ok (.istore 5, 2) := by decide +kernel
theorem dX10_user_134 : decode cX10_user 134 = .ok (.iinc 6 1, 3) := by decide +kernel
theorem dX10_user_137 : decode cX10_user 137 = .ok (.goto (-68), 3) := by decide +kernel
theorem dX10_user_140 : decode cX10_user 140 = .ok (.iload 5, 2) := by decide +kernel
theorem dX10_user_142 : decode cX10_user 142 = .ok (.ifCond .eq 10, 3) := by decide +kernel
theorem dX10_user_145 : decode cX10_user 145 = .ok (.iload_n 3, 1) := by decide +kernel
theorem dX10_user_146 : decode cX10_user 146 = .ok (.ifCond .ne 6, 3) := by decide +kernel
theorem dX10_user_149 : decode cX10_user 149 = .ok (.iload 4, 2) := by decide +kernel
theorem dX10_user_151 : decode cX10_user 151 = .ok (.ireturn, 1) := by decide +kernel
theorem dX10_user_152 : decode cX10_user 152 = .ok (.iload_n 3, 1) := by decide +kernel
theorem dX10_user_153 : decode cX10_user 153 = .ok (.iload 5, 2) := by decide +kernel
theorem dX10_user_155 : decode cX10_user 155 = .ok (.ifCond .eq 7, 3) := by decide +kernel
theorem dX10_user_158 : decode cX10_user 158 = .ok (.iconst 1, 1) := by decide +kernel
theorem dX10_user_159 : decode cX10_user 159 = .ok (.goto 4, 3) := by decide +kernel
theorem dX10_user_162 : decode cX10_user 162 = .ok (.iconst 0, 1) := by decide +kernel
theorem dX10_user_163 : decode cX10_user 163 = .ok (.isub, 1) := by decide +kernel
theorem dX10_user_164 : decode cX10_user 164 = .ok (.istore_n 3, 1) := by decide +kernel
theorem dX10_user_165 : decode cX10_user 165 = .ok (.iinc 4 1, 3) := by decide +kernel
theorem dX10_user_168 : decode cX10_user 168 = .ok (.goto (-148), 3) := by decide +kernel
theorem dX10_user_171 : decode cX10_user 171 = .ok (.bipush (-5), 2) := by decide +kernel
theorem dX10_user_173 : decode cX10_user 173 = .ok (.ireturn, 1) := by decide +kernel
theorem dX10_count_0 : decode cX10_count 0 = .ok (.aload_n 0, 1) := by decide +kernel
theorem dX10_count_1 : decode cX10_count 1 = .ok (.iconst 0, 1) := by decide +kernel
theorem dX10_count_2 : decode cX10_count 2 = .ok (.putfield 154, 3) := by decide +kernel
theorem dX10_count_5 : decode cX10_count 5 = .ok (.iconst 0, 1) := by decide +kernel
theorem dX10_count_6 : decode cX10_count 6 = .ok (.istore_n 2, 1) := by decide +kernel
theorem dX10_count_7 : decode cX10_count 7 = .ok (.iload_n 1, 1) := by decide +kernel
theorem dX10_count_8 : decode cX10_count 8 = .ok (.tableswitch 154 0 6 #[44, 49, 54, 59, 64, 99, 149], 44) := by decide +kernel
theorem dX10_count_52 : decode cX10_count 52 = .ok (.aload_n 0, 1) := by decide +kernel
theorem dX10_count_53 : decode cX10_count 53 = .ok (.getfield 220, 3) := by decide +kernel
theorem dX10_count_56 : decode cX10_count 56 = .ok (.ireturn, 1) := by decide +kernel
theorem dX10_count_57 : decode cX10_count 57 = .ok (.aload_n 0, 1) := by decide +kernel
theorem dX10_count_58 : decode cX10_count 58 = .ok (.getfield 305, 3) := by decide +kernel
theorem dX10_count_61 : decode cX10_count 61 = .ok (.ireturn, 1) := by decide +kernel
theorem dX10_count_62 : decode cX10_count 62 = .ok (.aload_n 0, 1) := by decide +kernel
theorem dX10_count_63 : decode cX10_count 63 = .ok (.getfield 273, 3) := by decide +kernel
theorem dX10_count_66 : decode cX10_count 66 = .ok (.ireturn, 1) := by decide +kernel
theorem dX10_count_67 : decode cX10_count 67 = .ok (.aload_n 0, 1) := by decide +kernel
theorem dX10_count_68 : decode cX10_count 68 = .ok (.getfield 164, 3) := by decide +kernel
theorem dX10_count_71 : decode cX10_count 71 = .ok (.ireturn, 1) := by decide +kernel
theorem dX10_count_72 : decode cX10_count 72 = .ok (.iconst 0, 1) := by decide +kernel
theorem dX10_count_73 : decode cX10_count 73 = .ok (.istore_n 3, 1) := by decide +kernel
theorem dX10_count_74 : decode cX10_count 74 = .ok (.iload_n 3, 1) := by decide +kernel
theorem dX10_count_75 : decode cX10_count 75 = .ok (.aload_n 0, 1) := by decide +kernel
theorem dX10_count_76 : decode cX10_count 76 = .ok (.getfield 220, 3) := by decide +kernel
theorem dX10_count_79 : decode cX10_count 79 = .ok (.if_icmp .ge 26, 3) := by decide +kernel
theorem dX10_count_82 : decode cX10_count 82 = .ok (.iload_n 2, 1) := by decide +kernel
theorem dX10_count_83 : decode cX10_count 83 = .ok (.aload_n 0, 1) := by decide +kernel
theorem dX10_count_84 : decode cX10_count 84 = .ok (.iload_n 3, 1) := by decide +kernel
theorem dX10_count_85 : decode cX10_count 85 = .ok (.invokevirtual 373, 3) := by decide +kernel
theorem dX10_count_88 : decode cX10_count 88 = .ok (.iconst 1, 1) := by decide +kernel
theorem dX10_count_89 : decode cX10_count 89 = .ok (.if_icmp .ne 7, 3) := by decide +kernel
theorem dX10_count_92 : decode cX10_count 92 = .ok (.iconst 1, 1) := by decide +kernel
theorem dX10_count_93 : decode cX10_count 93 = .ok (.goto 4, 3) := by decide +kernel
theorem dX10_count_96 : decode cX10_count 96 = .ok (.iconst 0, 1) := by decide +kernel
theorem dX10_count_97 : decode cX10_count 97 = .ok (.iadd, 1) := by decide +kernel
theorem dX10_count_98 : decode cX10_count 98 = .ok (.istore_n 2, 1) := by decide +kernel
theorem dX10_count_99 : decode cX10_count 99 = .ok (.iinc 3 1, 3) := by decide +kernel
theorem dX10_count_102 : decode cX10_count 102 = .ok (.goto (-28), 3) := by decide +kernel
theorem dX10_count_105 : decode cX10_count 105 = .ok (.iload_n 2, 1) := by decide +kernel
theorem dX10_count_106 : decode cX10_count 106 = .ok (.ireturn, 1) := by decide +kernel
theorem dX10_count_107 : decode cX10_count 107 = .ok (.iconst 1, 1) := by decide +kernel
theorem dX10_count_108 : decode cX10_count 108 = .ok (.istore_n 3, 1) := by decide +kernel
theorem dX10_count_109 : decode cX10_count 109 = .ok (.iload_n 3, 1) := by decide +kernel
theorem dX10_count_110 : decode cX10_count 110 = .ok (.aload_n 0, 1) := by decide +kernel
theorem dX10_count_111 : decode cX10_count 111 = .ok (.getfield 305, 3) := by decide +kernel
theorem dX10_count_114 : decode cX10_count 114 = .ok (.if_icmp .gt 41, 3) := by decide +kernel
theorem dX10_count_117 : decode cX10_count 117 = .ok (.iload_n 2, 1) := by decide +kernel
theorem dX10_count_118 : decode cX10_count 118 = .ok (.aload_n 0, 1) := by decide +kernel
theorem dX10_count_119 : decode cX10_count 119 = .ok (.getfield 80, 3) := by decide +kernel
theorem dX10_count_122 : decode cX10_count 122 = .ok (.iload_n 3, 1) := by decide +kernel
theorem dX10_count_123 : decode cX10_count 123 = .ok (.iaload, 1) := by decide +kernel
theorem dX10_count_124 : decode cX10_count 124 = .ok (.iconst 2, 1) := by decide +kernel
theorem dX10_count_125 : decode cX10_count 125 = .ok (.if_icmp .ne 21, 3) := by decide +kernel
theorem dX10_count_128 : decode cX10_count 128 = .ok (.aload_n 0, 1) := by decide +kernel
theorem dX10_count_129 : decode cX10_count 129 = .ok (.aload_n 0, 1) := by decide +kernel
theorem dX10_count_130 : decode cX10_count 130 = .ok (.getfield 83, 3) := by decide +kernel
theorem dX10_count_133 : decode cX10_count 133 = .ok (.iload_n 3, 1) := by decide +kernel
theorem dX10_count_134 : decode cX10_count 134 = .ok (.laload, 1) := by decide +kernel
theorem dX10_count_135 : decode cX10_count 135 = .ok (.l2i, 1) := by decide +kernel
theorem dX10_count_136 : decode cX10_count 136 = .ok (.invokevirtual 320, 3) := by decide +kernel
theorem dX10_count_139 : decode cX10_count 139 = .ok (.ifCond .eq 7, 3) := by decide +kernel
theorem dX10_count_142 : decode cX10_count 142 = .ok (.iconst 1, 1) := by decide +kernel
theorem dX10_count_143 : decode cX10_count 143 = .ok (.goto 4, 3) := by decide +kernel
theorem dX10_count_146 : decode cX10_count 146 = .ok (.iconst 0, 1) := by decide +kernel
theorem dX10_count_147 : decode cX10_count 147 = .ok (.iadd, 1) := by decide +kernel
theorem dX10_count_148 : decode cX10_count 148 = .ok (.istore_n 2, 1) := by decide +kernel
theorem dX10_count_149 : decode cX10_count 149 = .ok (.iinc 3 1, 3) := by decide +kernel
theorem dX10_count_152 : decode cX10_count 152 = .ok (.goto (-43), 3) := by decide +kernel
theorem dX10_count_155 : decode cX10_count 155 = .ok (.iload_n 2, 1) := by decide +kernel
theorem dX10_count_156 : decode cX10_count 156 = .ok (.ireturn, 1) := by decide +kernel
theorem dX10_count_157 : decode cX10_count 157 = .ok (.aload_n 0, 1) := by decide +kernel
theorem dX10_count_158 : decode cX10_count 158 = .ok (.getfield 354, 3) := by decide +kernel
theorem dX10_count_161 : decode cX10_count 161 = .ok (.ireturn, 1) := by decide +kernel
theorem dX10_count_162 : decode cX10_count 162 = .ok (.bipush (-2), 2) := by decide +kernel
theorem dX10_count_164 : decode cX10_count 164 = .ok (.ireturn, 1) := by decide +kernel
theorem dX10_erase_0 : decode cX10_erase 0 = .ok (.aload_n 0, 1) := by decide +kernel
theorem dX10_erase_1 : decode cX10_erase 1 = .ok (.iconst 0, 1) := by decide +kernel
theorem dX10_erase_2 : decode cX10_erase 2 = .ok (.putfield 154, 3) := by decide +kernel
theorem dX10_erase_5 : decode cX10_erase 5 = .ok (.aload_n 0, 1) := by decide +kernel
theorem dX10_erase_6 : decode cX10_erase 6 = .ok (.getfield 164, 3) := by decide +kernel
theorem dX10_erase_9 : decode cX10_erase 9 = .ok (.istore_n 1, 1) := by decide +kernel
theorem dX10_erase_10 : decode cX10_erase 10 = .ok (.aload_n 0, 1) := by decide +kernel
theorem dX10_erase_11 : decode cX10_erase 11 = .ok (.iconst 0, 1) := by decide +kernel
theorem dX10_erase_12 : decode cX10_erase 12 = .ok (.putfield 164, 3) := by decide +kernel
theorem dX10_erase_15 : decode cX10_erase 15 = .ok (.iload_n 1, 1) := by decide +kernel
theorem dX10_erase_16 : decode cX10_erase 16 = .ok (.ireturn, 1) := by decide +kernel
theorem dX10_reset_0 : decode cX10_reset 0 = .ok (.aload_n 0, 1) := by decide +kernel
theorem dX10_reset_1 : decode cX10_reset 1 = .ok (.iconst 0, 1) := by decide +kernel
theorem dX10_reset_2 : decode cX10_reset 2 = .ok (.putfield 154, 3) := by decide +kernel
theorem dX10_reset_5 : decode cX10_reset 5 = .ok (.aload_n 0, 1) := by decide +kernel
theorem dX10_reset_6 : decode cX10_reset 6 = .ok (.getfield 220, 3) := by decide +kernel
theorem dX10_reset_9 : decode cX10_reset 9 = .ok (.istore_n 1, 1) := by decide +kernel
theorem dX10_reset_10 : decode cX10_reset 10 = .ok (.aload_n 0, 1) := by decide +kernel
theorem dX10_reset_11 : decode cX10_reset 11 = .ok (.iconst 0, 1) := by decide +kernel
theorem dX10_reset_12 : decode cX10_reset 12 = .ok (.putfield 164, 3) := by decide +kernel
theorem dX10_reset_15 : decode cX10_reset 15 = .ok (.aload_n 0, 1) := by decide +kernel
theorem dX10_reset_16 : decode cX10_reset 16 = .ok (.iconst 0, 1) := by decide +kernel
theorem dX10_reset_17 : decode cX10_reset 17 = .ok (.putfield 220, 3) := by decide +kernel
theorem dX10_reset_20 : decode cX10_reset 20 = .ok (.aload_n 0, 1) := by decide +kernel
theorem dX10_reset_21 : decode cX10_reset 21 = .ok (.iconst 0, 1) := by decide +kernel
theorem dX10_reset_22 : decode cX10_reset 22 = .ok (.putfield 305, 3) := by decide +kernel
theorem dX10_reset_25 : decode cX10_reset 25 = .ok (.aload_n 0, 1) := by decide +kernel
theorem dX10_reset_26 : decode cX10_reset 26 = .ok (.iconst 0, 1) := by decide +kernel
theorem dX10_reset_27 : decode cX10_reset 27 = .ok (.putfield 273, 3) := by decide +kernel
theorem dX10_reset_30 : decode cX10_reset 30 = .ok (.aload_n 0, 1) := by decide +kernel
theorem dX10_reset_31 : decode cX10_reset 31 = .ok (.iconst 0, 1) := by decide +kernel
theorem dX10_reset_32 : decode cX10_reset 32 = .ok (.putfield 317, 3) := by decide +kernel
theorem dX10_reset_35 : decode cX10_reset 35 = .ok (.aload_n 0, 1) := by decide +kernel
theorem dX10_reset_36 : decode cX10_reset 36 = .ok (.iconst 0, 1) := by decide +kernel
theorem dX10_reset_37 : decode cX10_reset 37 = .ok (.putfield 354, 3) := by decide +kernel
theorem dX10_reset_40 : decode cX10_reset 40 = .ok (.iconst 0, 1) := by decide +kernel
theorem dX10_reset_41 : decode cX10_reset 41 = .ok (.istore_n 2, 1) := by decide +kernel
theorem dX10_reset_42 : decode cX10_reset 42 = .ok (.iload_n 2, 1) := by decide +kernel
theorem dX10_reset_43 : decode cX10_reset 43 = .ok (.iconst 5, 1) := by decide +kernel
theorem dX10_reset_44 : decode cX10_reset 44 = .ok (.if_icmp .ge 16, 3) := by decide +kernel
theorem dX10_reset_47 : decode cX10_reset 47 = .ok (.aload_n 0, 1) := by decide +kernel
theorem dX10_reset_48 : decode cX10_reset 48 = .ok (.getfield 96, 3) := by decide +kernel
theorem dX10_reset_51 : decode cX10_reset 51 = .ok (.iload_n 2, 1) := by decide +kernel
theorem dX10_reset_52 : decode cX10_reset 52 = .ok (.iconst 0, 1) := by decide +kernel
theorem dX10_reset_53 : decode cX10_reset 53 = .ok (.iastore, 1) := by decide +kernel
theorem dX10_reset_54 : decode cX10_reset 54 = .ok (.iinc 2 1, 3) := by decide +kernel
theorem dX10_reset_57 : decode cX10_reset 57 = .ok (.goto (-15), 3) := by decide +kernel
theorem dX10_reset_60 : decode cX10_reset 60 = .ok (.iload_n 1, 1) := by decide +kernel
theorem dX10_reset_61 : decode cX10_reset 61 = .ok (.ireturn, 1) := by decide +kernel
theorem dJ7_fill_53178_0 : decode cJ7_fill_53178 0 = .ok (.iconst 0, 1) := by decide +kernel
theorem dJ7_fill_53178_1 : decode cJ7_fill_53178 1 = .ok (.istore_n 2, 1) := by decide +kernel
theorem dJ7_fill_53178_2 : decode cJ7_fill_53178 2 = .ok (.aload_n 0, 1) := by decide +kernel
theorem dJ7_fill_53178_3 : decode cJ7_fill_53178 3 = .ok (.arraylength, 1) := by decide +kernel
theorem dJ7_fill_53178_4 : decode cJ7_fill_53178 4 = .ok (.istore_n 3, 1) := by decide +kernel
theorem dJ7_fill_53178_5 : decode cJ7_fill_53178 5 = .ok (.iload_n 2, 1) := by decide +kernel
theorem dJ7_fill_53178_6 : decode cJ7_fill_53178 6 = .ok (.iload_n 3, 1) := by decide +kernel
theorem dJ7_fill_53178_7 : decode cJ7_fill_53178 7 = .ok (.if_icmp .ge 13, 3) := by decide +kernel
theorem dJ7_fill_53178_10 : decode cJ7_fill_53178 10 = .ok (.aload_n 0, 1) := by decide +kernel
theorem dJ7_fill_53178_11 : decode cJ7_fill_53178 11 = .ok (.iload_n 2, 1) := by decide +kernel
theorem dJ7_fill_53178_12 : decode cJ7_fill_53178 12 = .ok (.iload_n 1, 1) := by decide +kernel
theorem dJ7_fill_53178_13 : decode cJ7_fill_53178 13 = .ok (.iastore, 1) := by decide +kernel
theorem dJ7_fill_53178_14 : decode cJ7_fill_53178 14 = .ok (.iinc 2 1, 3) := by decide +kernel
theorem dJ7_fill_53178_17 : decode cJ7_fill_53178 17 = .ok (.goto (-12), 3) := by decide +kernel
theorem dJ7_fill_53178_20 : decode cJ7_fill_53178 20 = .ok (.return_, 1) := by decide +kernel
theorem dJ7_copyOf_9075b_0 : decode cJ7_copyOf_9075b 0 = .ok (.iload_n 1, 1) := by decide +kernel
theorem dJ7_copyOf_9075b_1 : decode cJ7_copyOf_9075b 1 = .ok (.aload_n 0, 1) := by decide +kernel
theorem dJ7_copyOf_9075b_2 : decode cJ7_copyOf_9075b 2 = .ok (.arraylength, 1) := by decide +kernel
theorem dJ7_copyOf_9075b_3 : decode cJ7_copyOf_9075b 3 = .ok (.if_icmp .ne 11, 3) := by decide +kernel
theorem dJ7_copyOf_9075b_6 : decode cJ7_copyOf_9075b 6 = .ok (.aload_n 0, 1) := by decide +kernel
theorem dJ7_copyOf_9075b_7 : decode cJ7_copyOf_9075b 7 = .ok (.invokevirtual 310, 3) := by decide +kernel
theorem dJ7_copyOf_9075b_10 : decode cJ7_copyOf_9075b 10 = .ok (.checkcast 311, 3) := by decide +kernel
theorem dJ7_copyOf_9075b_13 : decode cJ7_copyOf_9075b 13 = .ok (.areturn, 1) := by decide +kernel
theorem dJ7_copyOf_9075b_14 : decode cJ7_copyOf_9075b 14 = .ok (.iload_n 1, 1) := by decide +kernel
theorem dJ7_copyOf_9075b_15 : decode cJ7_copyOf_9075b 15 = .ok (.newarray .byte, 2) := by decide +kernel
theorem dJ7_copyOf_9075b_17 : decode cJ7_copyOf_9075b 17 = .ok (.astore_n 2, 1) := by decide +kernel
theorem dJ7_copyOf_9075b_18 : decode cJ7_copyOf_9075b 18 = .ok (.aload_n 0, 1) := by decide +kernel
theorem dJ7_copyOf_9075b_19 : decode cJ7_copyOf_9075b 19 = .ok (.iconst 0, 1) := by decide +kernel
theorem dJ7_copyOf_9075b_20 : decode cJ7_copyOf_9075b 20 = .ok (.aload_n 2, 1) := by decide +kernel
theorem dJ7_copyOf_9075b_21 : decode cJ7_copyOf_9075b 21 = .ok (.iconst 0, 1) := by decide +kernel
theorem dJ7_copyOf_9075b_22 : decode cJ7_copyOf_9075b 22 = .ok (.aload_n 0, 1) := by decide +kernel
theorem dJ7_copyOf_9075b_23 : decode cJ7_copyOf_9075b 23 = .ok (.arraylength, 1) := by decide +kernel
theorem dJ7_copyOf_9075b_24 : decode cJ7_copyOf_9075b 24 = .ok (.iload_n 1, 1) := by decide +kernel
theorem dJ7_copyOf_9075b_25 : decode cJ7_copyOf_9075b 25 = .ok (.invokestatic 304, 3) := by decide +kernel
theorem dJ7_copyOf_9075b_28 : decode cJ7_copyOf_9075b 28 = .ok (.invokestatic 150, 3) := by decide +kernel
theorem dJ7_copyOf_9075b_31 : decode cJ7_copyOf_9075b 31 = .ok (.aload_n 2, 1) := by decide +kernel
theorem dJ7_copyOf_9075b_32 : decode cJ7_copyOf_9075b 32 = .ok (.areturn, 1) := by decide +kernel
theorem dJ7_copyOf_59c91_0 : decode cJ7_copyOf_59c91 0 = .ok (.iload_n 1, 1) := by decide +kernel
theorem dJ7_copyOf_59c91_1 : decode cJ7_copyOf_59c91 1 = .ok (.aload_n 0, 1) := by decide +kernel
theorem dJ7_copyOf_59c91_2 : decode cJ7_copyOf_59c91 2 = .ok (.arraylength, 1) := by decide +kernel
theorem dJ7_copyOf_59c91_3 : decode cJ7_copyOf_59c91 3 = .ok (.if_icmp .ne 11, 3) := by decide +kernel
theorem dJ7_copyOf_59c91_14 : decode cJ7_copyOf_59c91 14 = .ok (.iload_n 1, 1) := by decide +kernel
theorem dJ7_copyOf_59c91_15 : decode cJ7_copyOf_59c91 15 = .ok (.newarray .int, 2) := by decide +kernel
theorem dJ7_copyOf_59c91_17 : decode cJ7_copyOf_59c91 17 = .ok (.astore_n 2, 1) := by decide +kernel
theorem dJ7_copyOf_59c91_18 : decode cJ7_copyOf_59c91 18 = .ok (.aload_n 0, 1) := by decide +kernel
theorem dJ7_copyOf_59c91_19 : decode cJ7_copyOf_59c91 19 = .ok (.iconst 0, 1) := by decide +kernel
theorem dJ7_copyOf_59c91_20 : decode cJ7_copyOf_59c91 20 = .ok (.aload_n 2, 1) := by decide +kernel
theorem dJ7_copyOf_59c91_21 : decode cJ7_copyOf_59c91 21 = .ok (.iconst 0, 1) := by decide +kernel
theorem dJ7_copyOf_59c91_22 : decode cJ7_copyOf_59c91 22 = .ok (.aload_n 0, 1) := by decide +kernel
theorem dJ7_copyOf_59c91_23 : decode cJ7_copyOf_59c91 23 = .ok (.arraylength, 1) := by decide +kernel
theorem dJ7_copyOf_59c91_24 : decode cJ7_copyOf_59c91 24 = .ok (.iload_n 1, 1) := by decide +kernel
theorem dJ7_copyOf_59c91_25 : decode cJ7_copyOf_59c91 25 = .ok (.invokestatic 304, 3) := by decide +kernel
theorem dJ7_copyOf_59c91_28 : decode cJ7_copyOf_59c91 28 = .ok (.invokestatic 150, 3) := by decide +kernel
theorem dJ7_copyOf_59c91_31 : decode cJ7_copyOf_59c91 31 = .ok (.aload_n 2, 1) := by decide +kernel
theorem dJ7_copyOf_59c91_32 : decode cJ7_copyOf_59c91 32 = .ok (.areturn, 1) := by decide +kernel
theorem dJ7_copyOf_c38d5_0 : decode cJ7_copyOf_c38d5 0 = .ok (.iload_n 1, 1) := by decide +kernel
theorem dJ7_copyOf_c38d5_1 : decode cJ7_copyOf_c38d5 1 = .ok (.aload_n 0, 1) := by decide +kernel
theorem dJ7_copyOf_c38d5_2 : decode cJ7_copyOf_c38d5 2 = .ok (.arraylength, 1) := by decide +kernel
theorem dJ7_copyOf_c38d5_3 : decode cJ7_copyOf_c38d5 3 = .ok (.if_icmp .ne 11, 3) := by decide +kernel
theorem dJ7_copyOf_c38d5_14 : decode cJ7_copyOf_c38d5 14 = .ok (.iload_n 1, 1) := by decide +kernel
theorem dJ7_copyOf_c38d5_15 : decode cJ7_copyOf_c38d5 15 = .ok (.newarray .long, 2) := by decide +kernel
theorem dJ7_copyOf_c38d5_17 : decode cJ7_copyOf_c38d5 17 = .ok (.astore_n 2, 1) := by decide +kernel
theorem dJ7_copyOf_c38d5_18 : decode cJ7_copyOf_c38d5 18 = .ok (.aload_n 0, 1) := by decide +kernel
theorem dJ7_copyOf_c38d5_19 : decode cJ7_copyOf_c38d5 19 = .ok (.iconst 0, 1) := by decide +kernel
theorem dJ7_copyOf_c38d5_20 : decode cJ7_copyOf_c38d5 20 = .ok (.aload_n 2, 1) := by decide +kernel
theorem dJ7_copyOf_c38d5_21 : decode cJ7_copyOf_c38d5 21 = .ok (.iconst 0, 1) := by decide +kernel
theorem dJ7_copyOf_c38d5_22 : decode cJ7_copyOf_c38d5 22 = .ok (.aload_n 0, 1) := by decide +kernel
theorem dJ7_copyOf_c38d5_23 : decode cJ7_copyOf_c38d5 23 = .ok (.arraylength, 1) := by decide +kernel
theorem dJ7_copyOf_c38d5_24 : decode cJ7_copyOf_c38d5 24 = .ok (.iload_n 1, 1) := by decide +kernel
theorem dJ7_copyOf_c38d5_25 : decode cJ7_copyOf_c38d5 25 = .ok (.invokestatic 304, 3) := by decide +kernel
theorem dJ7_copyOf_c38d5_28 : decode cJ7_copyOf_c38d5 28 = .ok (.invokestatic 150, 3) := by decide +kernel
theorem dJ7_copyOf_c38d5_31 : decode cJ7_copyOf_c38d5 31 = .ok (.aload_n 2, 1) := by decide +kernel
theorem dJ7_copyOf_c38d5_32 : decode cJ7_copyOf_c38d5 32 = .ok (.areturn, 1) := by decide +kernel
theorem dL_whole_0 : decode cL_whole 0 = .ok (.aload_n 2, 1) := by decide +kernel
theorem dL_whole_1 : decode cL_whole 1 = .ok (.iconst 0, 1) := by decide +kernel
theorem dL_whole_2 : decode cL_whole 2 = .ok (.aload_n 0, 1) := by decide +kernel
theorem dL_whole_3 : decode cL_whole 3 = .ok (.iload_n 1, 1) := by decide +kernel
theorem dL_whole_4 : decode cL_whole 4 = .ok (.invokevirtual 7, 3) := by decide +kernel
theorem dL_whole_7 : decode cL_whole 7 = .ok (.lastore, 1) := by decide +kernel
theorem dL_whole_8 : decode cL_whole 8 = .ok (.goto 9, 3) := by decide +kernel
theorem dL_whole_11 : decode cL_whole 11 = .ok (.astore_n 3, 1) := by decide +kernel
theorem dL_whole_12 : decode cL_whole 12 = .ok (.iconst 1, 1) := by decide +kernel
theorem dL_whole_13 : decode cL_whole 13 = .ok (.ireturn, 1) := by decide +kernel
theorem dL_whole_14 : decode cL_whole 14 = .ok (.astore_n 3, 1) := by decide +kernel
theorem dL_whole_15 : decode cL_whole 15 = .ok (.iconst 2, 1) := by decide +kernel
theorem dL_whole_16 : decode cL_whole 16 = .ok (.ireturn, 1) := by decide +kernel
theorem dL_whole_17 : decode cL_whole 17 = .ok (.iconst 0, 1) := by decide +kernel
theorem dL_whole_18 : decode cL_whole 18 = .ok (.ireturn, 1) := by decide +kernel
theorem dL_text_0 : decode cL_text 0 = .ok (.aload_n 3, 1) := by decide +kernel
theorem dL_text_1 : decode cL_text 1 = .ok (.iconst 0, 1) := by decide +kernel
theorem dL_text_2 : decode cL_text 2 = .ok (.aload_n 0, 1) := by decide +kernel
theorem dL_text_3 : decode cL_text 3 = .ok (.iload_n 1, 1) := by decide +kernel
theorem dL_text_4 : decode cL_text 4 = .ok (.iload_n 2, 1) := by decide +kernel
theorem dL_text_5 : decode cL_text 5 = .ok (.invokevirtual 17, 3) := by decide +kernel
theorem dL_text_8 : decode cL_text 8 = .ok (.i2l, 1) := by decide +kernel
theorem dL_text_9 : decode cL_text 9 = .ok (.lastore, 1) := by decide +kernel
theorem dL_text_10 : decode cL_text 10 = .ok (.goto 7, 3) := by decide +kernel
theorem dL_text_13 : decode cL_text 13 = .ok (.astore 4, 2) := by decide +kernel
theorem dL_text_15 : decode cL_text 15 = .ok (.iconst 1, 1) := by decide +kernel
theorem dL_text_16 : decode cL_text 16 = .ok (.ireturn, 1) := by decide +kernel
theorem dL_text_17 : decode cL_text 17 = .ok (.iconst 0, 1) := by decide +kernel
theorem dL_text_18 : decode cL_text 18 = .ok (.ireturn, 1) := by decide +kernel
theorem dL_law_0 : decode cL_law 0 = .ok (.new 8, 3) := by decide +kernel
theorem dL_law_3 : decode cL_law 3 = .ok (.dup, 1) := by decide +kernel
theorem dL_law_4 : decode cL_law 4 = .ok (.invokespecial 23, 3) := by decide +kernel
theorem dL_law_7 : decode cL_law 7 = .ok (.astore_n 1, 1) := by decide +kernel
theorem dL_law_8 : decode cL_law 8 = .ok (.new 24, 3) := by decide +kernel
theorem dL_law_11 : decode cL_law 11 = .ok (.dup, 1) := by decide +kernel
theorem dL_law_12 : decode cL_law 12 = .ok (.invokespecial 26, 3) := by decide +kernel
theorem dL_law_15 : decode cL_law 15 = .ok (.astore_n 2, 1) := by decide +kernel
theorem dL_law_16 : decode cL_law 16 = .ok (.iconst 1, 1) := by decide +kernel
theorem dL_law_17 : decode cL_law 17 = .ok (.newarray .long, 2) := by decide +kernel
theorem dL_law_19 : decode cL_law 19 = .ok (.astore_n 3, 1) := by decide +kernel
theorem dL_law_20 : decode cL_law 20 = .ok (.iconst 0, 1) := by decide +kernel
theorem dL_law_21 : decode cL_law 21 = .ok (.istore 4, 2) := by decide +kernel
theorem dL_law_23 : decode cL_law 23 = .ok (.iload 4, 2) := by decide +kernel
theorem dL_law_25 : decode cL_law 25 = .ok (.aload_n 0, 1) := by decide +kernel
theorem dL_law_26 : decode cL_law 26 = .ok (.arraylength, 1) := by decide +kernel
theorem dL_law_27 : decode cL_law 27 = .ok (.iconst 3, 1) := by decide +kernel
theorem dL_law_28 : decode cL_law 28 = .ok (.isub, 1) := by decide +kernel
theorem dL_law_29 : decode cL_law 29 = .ok (.if_icmp .gt 632, 3) := by decide +kernel
theorem dL_law_32 : decode cL_law 32 = .ok (.aload_n 0, 1) := by decide +kernel
theorem dL_law_33 : decode cL_law 33 = .ok (.iload 4, 2) := by decide +kernel
theorem dL_law_35 : decode cL_law 35 = .ok (.iaload, 1) := by decide +kernel
theorem dL_law_36 : decode cL_law 36 = .ok (.bipush 31, 2) := by decide +kernel
theorem dL_law_38 : decode cL_law 38 = .ok (.iand, 1) := by decide +kernel
theorem dL_law_39 : decode cL_law 39 = .ok (.tableswitch 616 0 16 #[81, 138, 151, 176, 201, 229, 266, 323, 360, 385, 410, 435, 460, 528, 565, 590, 603], 81) := by decide +kernel
theorem dL_law_120 : decode cL_law 120 = .ok (.aload_n 1, 1) := by decide +kernel
theorem dL_law_121 : decode cL_law 121 = .ok (.aload_n 0, 1) := by decide +kernel
theorem dL_law_122 : decode cL_law 122 = .ok (.iload 4, 2) := by decide +kernel
theorem dL_law_124 : decode cL_law 124 = .ok (.iconst 1, 1) := by decide +kernel
theorem dL_law_125 : decode cL_law 125 = .ok (.iadd, 1) := by decide +kernel
theorem dL_law_126 : decode cL_law 126 = .ok (.iaload, 1) := by decide +kernel
theorem dL_law_127 : decode cL_law 127 = .ok (.i2l, 1) := by decide +kernel
theorem dL_law_128 : decode cL_law 128 = .ok (.bipush 32, 2) := by decide +kernel
theorem dL_law_130 : decode cL_law 130 = .ok (.lshl, 1) := by decide +kernel
theorem dL_law_131 : decode cL_law 131 = .ok (.aload_n 0, 1) := by decide +kernel
theorem dL_law_132 : decode cL_law 132 = .ok (.iload 4, 2) := by decide +kernel
theorem dL_law_134 : decode cL_law 134 = .ok (.iconst 2, 1) := by decide +kernel
theorem dL_law_135 : decode cL_law 135 = .ok (.iadd, 1) := by decide +kernel
theorem dL_law_136 : decode cL_law 136 = .ok (.iaload, 1) := by decide +kernel
theorem dL_law_137 : decode cL_law 137 = .ok (.i2l, 1) := by decide +kernel
theorem dL_law_138 : decode cL_law 138 = .ok (.ldc2_w 27, 3) := by decide +kernel
theorem dL_law_141 : decode cL_law 141 = .ok (.land, 1) := by decide +kernel
theorem dL_law_142 : decode cL_law 142 = .ok (.lor, 1) := by decide +kernel
theorem dL_law_143 : decode cL_law 143 = .ok (.invokevirtual 29, 3) := by decide +kernel
theorem dL_law_146 : decode cL_law 146 = .ok (.pop, 1) := by decide +kernel
theorem dL_law_147 : decode cL_law 147 = .ok (.aload_n 2, 1) := by decide +kernel
theorem dL_law_148 : decode cL_law 148 = .ok (.aload_n 0, 1) := by decide +kernel
theorem dL_law_149 : decode cL_law 149 = .ok (.iload 4, 2) := by decide +kernel
theorem dL_law_151 : decode cL_law 151 = .ok (.iconst 1, 1) := by decide +kernel
theorem dL_law_152 : decode cL_law 152 = .ok (.iadd, 1) := by decide +kernel
theorem dL_law_153 : decode cL_law 153 = .ok (.iaload, 1) := by decide +kernel
theorem dL_law_154 : decode cL_law 154 = .ok (.i2l, 1) := by decide +kernel
theorem dL_law_155 : decode cL_law 155 = .ok (.bipush 32, 2) := by decide +kernel
theorem dL_law_157 : decode cL_law 157 = .ok (.lshl, 1) := by decide +kernel
theorem dL_law_158 : decode cL_law 158 = .ok (.aload_n 0, 1) := by decide +kernel
theorem dL_law_159 : decode cL_law 159 = .ok (.iload 4, 2) := by decide +kernel
theorem dL_law_161 : decode cL_law 161 = .ok (.iconst 2, 1) := by decide +kernel
theorem dL_law_162 : decode cL_law 162 = .ok (.iadd, 1) := by decide +kernel
theorem dL_law_163 : decode cL_law 163 = .ok (.iaload, 1) := by decide +kernel
theorem dL_law_164 : decode cL_law 164 = .ok (.i2l, 1) := by decide +kernel
theorem dL_law_165 : decode cL_law 165 = .ok (.ldc2_w 27, 3) := by decide +kernel
theorem dL_law_168 : decode cL_law 168 = .ok (.land, 1) := by decide +kernel
theorem dL_law_169 : decode cL_law 169 = .ok (.lor, 1) := by decide +kernel
theorem dL_law_170 : decode cL_law 170 = .ok (.invokevirtual 33, 3) := by decide +kernel
theorem dL_law_173 : decode cL_law 173 = .ok (.pop, 1) := by decide +kernel
theorem dL_law_174 : decode cL_law 174 = .ok (.goto 481, 3) := by decide +kernel
theorem dL_law_177 : decode cL_law 177 = .ok (.aload_n 1, 1) := by decide +kernel
theorem dL_law_178 : decode cL_law 178 = .ok (.invokevirtual 34, 3) := by decide +kernel
theorem dL_law_181 : decode cL_law 181 = .ok (.pop, 1) := by decide +kernel
theorem dL_law_182 : decode cL_law 182 = .ok (.aload_n 2, 1) := by decide +kernel
theorem dL_law_183 : decode cL_law 183 = .ok (.invokevirtual 38, 3) := by decide +kernel
theorem dL_law_186 : decode cL_law 186 = .ok (.pop, 1) := by decide +kernel
theorem dL_law_187 : decode cL_law 187 = .ok (.goto 468, 3) := by decide +kernel
theorem dL_law_190 : decode cL_law 190 = .ok (.aload_n 1, 1) := by decide +kernel
theorem dL_law_191 : decode cL_law 191 = .ok (.aload_n 0, 1) := by decide +kernel
theorem dL_law_192 : decode cL_law 192 = .ok (.iload 4, 2) := by decide +kernel
theorem dL_law_194 : decode cL_law 194 = .ok (.iconst 1, 1) := by decide +kernel
theorem dL_law_195 : decode cL_law 195 = .ok (.iadd, 1) := by decide +kernel
theorem dL_law_196 : decode cL_law 196 = .ok (.iaload, 1) := by decide +kernel
theorem dL_law_197 : decode cL_law 197 = .ok (.invokevirtual 39, 3) := by decide +kernel
theorem dL_law_200 : decode cL_law 200 = .ok (.pop, 1) := by decide +kernel
theorem dL_law_201 : decode cL_law 201 = .ok (.aload_n 2, 1) := by decide +kernel
theorem dL_law_202 : decode cL_law 202 = .ok (.aload_n 0, 1) := by decide +kernel
theorem dL_law_203 : decode cL_law 203 = .ok (.iload 4, 2) := by decide +kernel
theorem dL_law_205 : decode cL_law 205 = .ok (.iconst 1, 1) := by decide +kernel
theorem dL_law_206 : decode cL_law 206 = .ok (.iadd, 1) := by decide +kernel
theorem dL_law_207 : decode cL_law 207 = .ok (.iaload, 1) := by decide +kernel
theorem dL_law_208 : decode cL_law 208 = .ok (.invokevirtual 43, 3) := by decide +kernel
theorem dL_law_211 : decode cL_law 211 = .ok (.pop, 1) := by decide +kernel
theorem dL_law_212 : decode cL_law 212 = .ok (.goto 443, 3) := by decide +kernel
theorem dL_law_215 : decode cL_law 215 = .ok (.aload_n 1, 1) := by decide +kernel
theorem dL_law_216 : decode cL_law 216 = .ok (.aload_n 0, 1) := by decide +kernel
theorem dL_law_217 : decode cL_law 217 = .ok (.iload 4, 2) := by decide +kernel
theorem dL_law_219 : decode cL_law 219 = .ok (.iconst 1, 1) := by decide +kernel
theorem dL_law_220 : decode cL_law 220 = .ok (.iadd, 1) := by decide +kernel
theorem dL_law_221 : decode cL_law 221 = .ok (.iaload, 1) := by decide +kernel
theorem dL_law_222 : decode cL_law 222 = .ok (.invokevirtual 44, 3) := by decide +kernel
theorem dL_law_225 : decode cL_law 225 = .ok (.pop, 1) := by decide +kernel
theorem dL_law_226 : decode cL_law 226 = .ok (.aload_n 2, 1) := by decide +kernel
theorem dL_law_227 : decode cL_law 227 = .ok (.aload_n 0, 1) := by decide +kernel
theorem dL_law_228 : decode cL_law 228 = .ok (.iload 4, 2) := by decide +kernel
theorem dL_law_230 : decode cL_law 230 = .ok (.iconst 1, 1) := by decide +kernel
theorem dL_law_231 : decode cL_law 231 = .ok (.iadd, 1) := by decide +kernel
theorem dL_law_232 : decode cL_law 232 = .ok (.iaload, 1) := by decide +kernel
theorem dL_law_233 : decode cL_law 233 = .ok (.invokevirtual 47, 3) := by decide +kernel
theorem dL_law_236 : decode cL_law 236 = .ok (.pop, 1) := by decide +kernel
theorem dL_law_237 : decode cL_law 237 = .ok (.goto 418, 3) := by decide +kernel
theorem dL_law_240 : decode cL_law 240 = .ok (.aload_n 1, 1) := by decide +kernel
theorem dL_law_241 : decode cL_law 241 = .ok (.aload_n 0, 1) := by decide +kernel
theorem dL_law_242 : decode cL_law 242 = .ok (.iload 4, 2) := by decide +kernel
theorem dL_law_244 : decode cL_law 244 = .ok (.iconst 1, 1) := by decide +kernel
theorem dL_law_245 : decode cL_law 245 = .ok (.iadd, 1) := by decide +kernel
theorem dL_law_246 : decode cL_law 246 = .ok (.iaload, 1) := by decide +kernel
theorem dL_law_247 : decode cL_law 247 = .ok (.aload_n 3, 1) := by decide +kernel
theorem dL_law_248 : decode cL_law 248 = .ok (.invokestatic 48, 3) := by decide +kernel
theorem dL_law_251 : decode cL_law 251 = .ok (.istore 5, 2) := by decide +kernel
theorem dL_law_253 : decode cL_law 253 = .ok (.aload_n 2, 1) := by decide +kernel
theorem dL_law_254 : decode cL_law 254 = .ok (.aload_n 0, 1) := by decide +kernel
theorem dL_law_255 : decode cL_law 255 = .ok (.iload 4, 2) := by decide +kernel
theorem dL_law_257 : decode cL_law 257 = .ok (.iconst 1, 1) := by decide +kernel
theorem dL_law_258 : decode cL_law 258 = .ok (.iadd, 1) := by decide +kernel
theorem dL_law_259 : decode cL_law 259 = .ok (.iaload, 1) := by decide +kernel
theorem dL_law_260 : decode cL_law 260 = .ok (.invokevirtual 53, 3) := by decide +kernel
theorem dL_law_263 : decode cL_law 263 = .ok (.lstore 6, 2) := by decide +kernel
theorem dL_law_265 : decode cL_law 265 = .ok (.goto 390, 3) := by decide +kernel
theorem dL_law_268 : decode cL_law 268 = .ok (.aload_n 1, 1) := by decide +kernel
theorem dL_law_269 : decode cL_law 269 = .ok (.aload_n 0, 1) := by decide +kernel
theorem dL_law_270 : decode cL_law 270 = .ok (.iload 4, 2) := by decide +kernel
theorem dL_law_272 : decode cL_law 272 = .ok (.iconst 1, 1) := by decide +kernel
theorem dL_law_273 : decode cL_law 273 = .ok (.iadd, 1) := by decide +kernel
theorem dL_law_274 : decode cL_law 274 = .ok (.iaload, 1) := by decide +kernel
theorem dL_law_275 : decode cL_law 275 = .ok (.aload_n 0, 1) := by decide +kernel
theorem dL_law_276 : decode cL_law 276 = .ok (.iload 4, 2) := by decide +kernel
theorem dL_law_278 : decode cL_law 278 = .ok (.iconst 2, 1) := by decide +kernel
theorem dL_law_279 : decode cL_law 279 = .ok (.iadd, 1) := by decide +kernel
theorem dL_law_280 : decode cL_law 280 = .ok (.iaload, 1) := by decide +kernel
theorem dL_law_281 : decode cL_law 281 = .ok (.invokevirtual 54, 3) := by decide +kernel
theorem dL_law_284 : decode cL_law 284 = .ok (.pop, 1) := by decide +kernel
theorem dL_law_285 : decode cL_law 285 = .ok (.aload_n 2, 1) := by decide +kernel
theorem dL_law_286 : decode cL_law 286 = .ok (.aload_n 0, 1) := by decide +kernel
theorem dL_law_287 : decode cL_law 287 = .ok (.iload 4, 2) := by decide +kernel
theorem dL_law_289 : decode cL_law 289 = .ok (.iconst 1, 1) := by decide +kernel
theorem dL_law_290 : decode cL_law 290 = .ok (.iadd, 1) := by decide +kernel
theorem dL_law_291 : decode cL_law 291 = .ok (.iaload, 1) := by decide +kernel
theorem dL_law_292 : decode cL_law 292 = .ok (.aload_n 0, 1) := by decide +kernel
theorem dL_law_293 : decode cL_law 293 = .ok (.iload 4, 2) := by decide +kernel
theorem dL_law_295 : decode cL_law 295 = .ok (.iconst 2, 1) := by decide +kernel
theorem dL_law_296 : decode cL_law 296 = .ok (.iadd, 1) := by decide +kernel
theorem dL_law_297 : decode cL_law 297 = .ok (.iaload, 1) := by decide +kernel
theorem dL_law_298 : decode cL_law 298 = .ok (.invokevirtual 57, 3) := by decide +kernel
theorem dL_law_301 : decode cL_law 301 = .ok (.pop, 1) := by decide +kernel
theorem dL_law_302 : decode cL_law 302 = .ok (.goto 353, 3) := by decide +kernel
theorem dL_law_305 : decode cL_law 305 = .ok (.aload_n 1, 1) := by decide +kernel
theorem dL_law_306 : decode cL_law 306 = .ok (.aload_n 0, 1) := by decide +kernel
theorem dL_law_307 : decode cL_law 307 = .ok (.iload 4, 2) := by decide +kernel
theorem dL_law_309 : decode cL_law 309 = .ok (.iconst 1, 1) := by decide +kernel
theorem dL_law_310 : decode cL_law 310 = .ok (.iadd, 1) := by decide +kernel
theorem dL_law_311 : decode cL_law 311 = .ok (.iaload, 1) := by decide +kernel
theorem dL_law_312 : decode cL_law 312 = .ok (.i2l, 1) := by decide +kernel
theorem dL_law_313 : decode cL_law 313 = .ok (.bipush 32, 2) := by decide +kernel
theorem dL_law_315 : decode cL_law 315 = .ok (.lshl, 1) := by decide +kernel
theorem dL_law_316 : decode cL_law 316 = .ok (.aload_n 0, 1) := by decide +kernel
theorem dL_law_317 : decode cL_law 317 = .ok (.iload 4, 2) := by decide +kernel
theorem dL_law_319 : decode cL_law 319 = .ok (.iconst 2, 1) := by decide +kernel
theorem dL_law_320 : decode cL_law 320 = .ok (.iadd, 1) := by decide +kernel
theorem dL_law_321 : decode cL_law 321 = .ok (.iaload, 1) := by decide +kernel
theorem dL_law_322 : decode cL_law 322 = .ok (.i2l, 1) := by decide +kernel
theorem dL_law_323 : decode cL_law 323 = .ok (.ldc2_w 27, 3) := by decide +kernel
theorem dL_law_326 : decode cL_law 326 = .ok (.land, 1) := by decide +kernel
theorem dL_law_327 : decode cL_law 327 = .ok (.lor, 1) := by decide +kernel
theorem dL_law_328 : decode cL_law 328 = .ok (.invokevirtual 58, 3) := by decide +kernel
theorem dL_law_331 : decode cL_law 331 = .ok (.pop, 1) := by decide +kernel
theorem dL_law_332 : decode cL_law 332 = .ok (.aload_n 2, 1) := by decide +kernel
theorem dL_law_333 : decode cL_law 333 = .ok (.aload_n 0, 1) := by decide +kernel
theorem dL_law_334 : decode cL_law 334 = .ok (.iload 4, 2) := by decide +kernel
theorem dL_law_336 : decode cL_law 336 = .ok (.iconst 1, 1) := by decide +kernel
theorem dL_law_337 : decode cL_law 337 = .ok (.iadd, 1) := by decide +kernel
theorem dL_law_338 : decode cL_law 338 = .ok (.iaload, 1) := by decide +kernel
theorem dL_law_339 : decode cL_law 339 = .ok (.i2l, 1) := by decide +kernel
theorem dL_law_340 : decode cL_law 340 = .ok (.bipush 32, 2) := by decide +kernel
theorem dL_law_342 : decode cL_law 342 = .ok (.lshl, 1) := by decide +kernel
theorem dL_law_343 : decode cL_law 343 = .ok (.aload_n 0, 1) := by decide +kernel
theorem dL_law_344 : decode cL_law 344 = .ok (.iload 4, 2) := by decide +kernel
theorem dL_law_346 : decode cL_law 346 = .ok (.iconst 2, 1) := by decide +kernel
theorem dL_law_347 : decode cL_law 347 = .ok (.iadd, 1) := by decide +kernel
theorem dL_law_348 : decode cL_law 348 = .ok (.iaload, 1) := by decide +kernel
theorem dL_law_349 : decode cL_law 349 = .ok (.i2l, 1) := by decide +kernel
theorem dL_law_350 : decode cL_law 350 = .ok (.ldc2_w 27, 3) := by decide +kernel
theorem dL_law_353 : decode cL_law 353 = .ok (.land, 1) := by decide +kernel
theorem dL_law_354 : decode cL_law 354 = .ok (.lor, 1) := by decide +kernel
theorem dL_law_355 : decode cL_law 355 = .ok (.invokevirtual 61, 3) := by decide +kernel
theorem dL_law_358 : decode cL_law 358 = .ok (.pop, 1) := by decide +kernel
theorem dL_law_359 : decode cL_law 359 = .ok (.goto 296, 3) := by decide +kernel
theorem dL_law_362 : decode cL_law 362 = .ok (.aload_n 1, 1) := by decide +kernel
theorem dL_law_363 : decode cL_law 363 = .ok (.aload_n 0, 1) := by decide +kernel
theorem dL_law_364 : decode cL_law 364 = .ok (.iload 4, 2) := by decide +kernel
theorem dL_law_366 : decode cL_law 366 = .ok (.iconst 1, 1) := by decide +kernel
theorem dL_law_367 : decode cL_law 367 = .ok (.iadd, 1) := by decide +kernel
theorem dL_law_368 : decode cL_law 368 = .ok (.iaload, 1) := by decide +kernel
theorem dL_law_369 : decode cL_law 369 = .ok (.aload_n 0, 1) := by decide +kernel
theorem dL_law_370 : decode cL_law 370 = .ok (.iload 4, 2) := by decide +kernel
theorem dL_law_372 : decode cL_law 372 = .ok (.iconst 2, 1) := by decide +kernel
theorem dL_law_373 : decode cL_law 373 = .ok (.iadd, 1) := by decide +kernel
theorem dL_law_374 : decode cL_law 374 = .ok (.iaload, 1) := by decide +kernel
theorem dL_law_375 : decode cL_law 375 = .ok (.invokevirtual 62, 3) := by decide +kernel
theorem dL_law_378 : decode cL_law 378 = .ok (.pop, 1) := by decide +kernel
theorem dL_law_379 : decode cL_law 379 = .ok (.aload_n 2, 1) := by decide +kernel
theorem dL_law_380 : decode cL_law 380 = .ok (.aload_n 0, 1) := by decide +kernel
theorem dL_law_381 : decode cL_law 381 = .ok (.iload 4, 2) := by decide +kernel
theorem dL_law_383 : decode cL_law 383 = .ok (.iconst 1, 1) := by decide +kernel
theorem dL_law_384 : decode cL_law 384 = .ok (.iadd, 1) := by decide +kernel
theorem dL_law_385 : decode cL_law 385 = .ok (.iaload, 1) := by decide +kernel
theorem dL_law_386 : decode cL_law 386 = .ok (.aload_n 0, 1) := by decide +kernel
theorem dL_law_387 : decode cL_law 387 = .ok (.iload 4, 2) := by decide +kernel
theorem dL_law_389 : decode cL_law 389 = .ok (.iconst 2, 1) := by decide +kernel
theorem dL_law_390 : decode cL_law 390 = .ok (.iadd, 1) := by decide +kernel
theorem dL_law_391 : decode cL_law 391 = .ok (.iaload, 1) := by decide +kernel
theorem dL_law_392 : decode cL_law 392 = .ok (.invokevirtual 65, 3) := by decide +kernel
theorem dL_law_395 : decode cL_law 395 = .ok (.pop, 1) := by decide +kernel
theorem dL_law_396 : decode cL_law 396 = .ok (.goto 259, 3) := by decide +kernel
theorem dL_law_399 : decode cL_law 399 = .ok (.aload_n 1, 1) := by decide +kernel
theorem dL_law_400 : decode cL_law 400 = .ok (.aload_n 0, 1) := by decide +kernel
theorem dL_law_401 : decode cL_law 401 = .ok (.iload 4, 2) := by decide +kernel
theorem dL_law_403 : decode cL_law 403 = .ok (.iconst 1, 1) := by decide +kernel
theorem dL_law_404 : decode cL_law 404 = .ok (.iadd, 1) := by decide +kernel
theorem dL_law_405 : decode cL_law 405 = .ok (.iaload, 1) := by decide +kernel
theorem dL_law_406 : decode cL_law 406 = .ok (.invokevirtual 66, 3) := by decide +kernel
theorem dL_law_409 : decode cL_law 409 = .ok (.pop, 1) := by decide +kernel
theorem dL_law_410 : decode cL_law 410 = .ok (.aload_n 2, 1) := by decide +kernel
theorem dL_law_411 : decode cL_law 411 = .ok (.aload_n 0, 1) := by decide +kernel
theorem dL_law_412 : decode cL_law 412 = .ok (.iload 4, 2) := by decide +kernel
theorem dL_law_414 : decode cL_law 414 = .ok (.iconst 1, 1) := by decide +kernel
theorem dL_law_415 : decode cL_law 415 = .ok (.iadd, 1) := by decide +kernel
theorem dL_law_416 : decode cL_law 416 = .ok (.iaload, 1) := by decide +kernel
theorem dL_law_417 : decode cL_law 417 = .ok (.invokevirtual 69, 3) := by decide +kernel
theorem dL_law_420 : decode cL_law 420 = .ok (.pop, 1) := by decide +kernel
theorem dL_law_421 : decode cL_law 421 = .ok (.goto 234, 3) := by decide +kernel
theorem dL_law_424 : decode cL_law 424 = .ok (.aload_n 1, 1) := by decide +kernel
theorem dL_law_425 : decode cL_law 425 = .ok (.aload_n 0, 1) := by decide +kernel
theorem dL_law_426 : decode cL_law 426 = .ok (.iload 4, 2) := by decide +kernel
theorem dL_law_428 : decode cL_law 428 = .ok (.iconst 1, 1) := by decide +kernel
theorem dL_law_429 : decode cL_law 429 = .ok (.iadd, 1) := by decide +kernel
theorem dL_law_430 : decode cL_law 430 = .ok (.iaload, 1) := by decide +kernel
theorem dL_law_431 : decode cL_law 431 = .ok (.invokevirtual 70, 3) := by decide +kernel
theorem dL_law_434 : decode cL_law 434 = .ok (.pop, 1) := by decide +kernel
theorem dL_law_435 : decode cL_law 435 = .ok (.aload_n 2, 1) := by decide +kernel
theorem dL_law_436 : decode cL_law 436 = .ok (.aload_n 0, 1) := by decide +kernel
theorem dL_law_437 : decode cL_law 437 = .ok (.iload 4, 2) := by decide +kernel
theorem dL_law_439 : decode cL_law 439 = .ok (.iconst 1, 1) := by decide +kernel
theorem dL_law_440 : decode cL_law 440 = .ok (.iadd, 1) := by decide +kernel
theorem dL_law_441 : decode cL_law 441 = .ok (.iaload, 1) := by decide +kernel
theorem dL_law_442 : decode cL_law 442 = .ok (.invokevirtual 73, 3) := by decide +kernel
theorem dL_law_445 : decode cL_law 445 = .ok (.pop, 1) := by decide +kernel
theorem dL_law_446 : decode cL_law 446 = .ok (.goto 209, 3) := by decide +kernel
theorem dL_law_449 : decode cL_law 449 = .ok (.aload_n 1, 1) := by decide +kernel
theorem dL_law_450 : decode cL_law 450 = .ok (.aload_n 0, 1) := by decide +kernel
theorem dL_law_451 : decode cL_law 451 = .ok (.iload 4, 2) := by decide +kernel
theorem dL_law_453 : decode cL_law 453 = .ok (.iconst 1, 1) := by decide +kernel
theorem dL_law_454 : decode cL_law 454 = .ok (.iadd, 1) := by decide +kernel
theorem dL_law_455 : decode cL_law 455 = .ok (.iaload, 1) := by decide +kernel
theorem dL_law_456 : decode cL_law 456 = .ok (.invokevirtual 74, 3) := by decide +kernel
theorem dL_law_459 : decode cL_law 459 = .ok (.pop, 1) := by decide +kernel
theorem dL_law_460 : decode cL_law 460 = .ok (.aload_n 2, 1) := by decide +kernel
theorem dL_law_461 : decode cL_law 461 = .ok (.aload_n 0, 1) := by decide +kernel
theorem dL_law_462 : decode cL_law 462 = .ok (.iload 4, 2) := by decide +kernel
theorem dL_law_464 : decode cL_law 464 = .ok (.iconst 1, 1) := by decide +kernel
theorem dL_law_465 : decode cL_law 465 = .ok (.iadd, 1) := by decide +kernel
theorem dL_law_466 : decode cL_law 466 = .ok (.iaload, 1) := by decide +kernel
theorem dL_law_467 : decode cL_law 467 = .ok (.invokevirtual 77, 3) := by decide +kernel
theorem dL_law_470 : decode cL_law 470 = .ok (.pop, 1) := by decide +kernel
theorem dL_law_471 : decode cL_law 471 = .ok (.goto 184, 3) := by decide +kernel
theorem dL_law_474 : decode cL_law 474 = .ok (.aload_n 1, 1) := by decide +kernel
theorem dL_law_475 : decode cL_law 475 = .ok (.aload_n 0, 1) := by decide +kernel
theorem dL_law_476 : decode cL_law 476 = .ok (.iload 4, 2) := by decide +kernel
theorem dL_law_478 : decode cL_law 478 = .ok (.iconst 1, 1) := by decide +kernel
theorem dL_law_479 : decode cL_law 479 = .ok (.iadd, 1) := by decide +kernel
theorem dL_law_480 : decode cL_law 480 = .ok (.iaload, 1) := by decide +kernel
theorem dL_law_481 : decode cL_law 481 = .ok (.invokevirtual 78, 3) := by decide +kernel
theorem dL_law_484 : decode cL_law 484 = .ok (.pop, 1) := by decide +kernel
theorem dL_law_485 : decode cL_law 485 = .ok (.aload_n 2, 1) := by decide +kernel
theorem dL_law_486 : decode cL_law 486 = .ok (.aload_n 0, 1) := by decide +kernel
theorem dL_law_487 : decode cL_law 487 = .ok (.iload 4, 2) := by decide +kernel
theorem dL_law_489 : decode cL_law 489 = .ok (.iconst 1, 1) := by decide +kernel
theorem dL_law_490 : decode cL_law 490 = .ok (.iadd, 1) := by decide +kernel
theorem dL_law_491 : decode cL_law 491 = .ok (.iaload, 1) := by decide +kernel
theorem dL_law_492 : decode cL_law 492 = .ok (.invokevirtual 81, 3) := by decide +kernel
theorem dL_law_495 : decode cL_law 495 = .ok (.pop, 1) := by decide +kernel
theorem dL_law_496 : decode cL_law 496 = .ok (.goto 159, 3) := by decide +kernel
theorem dL_law_499 : decode cL_law 499 = .ok (.aload_n 1, 1) := by decide +kernel
theorem dL_law_500 : decode cL_law 500 = .ok (.aload_n 0, 1) := by decide +kernel
theorem dL_law_501 : decode cL_law 501 = .ok (.iload 4, 2) := by decide +kernel
theorem dL_law_503 : decode cL_law 503 = .ok (.iconst 1, 1) := by decide +kernel
theorem dL_law_504 : decode cL_law 504 = .ok (.iadd, 1) := by decide +kernel
theorem dL_law_505 : decode cL_law 505 = .ok (.iaload, 1) := by decide +kernel
theorem dL_law_506 : decode cL_law 506 = .ok (.aload_n 0, 1) := by decide +kernel
theorem dL_law_507 : decode cL_law 507 = .ok (.iload 4, 2) := by decide +kernel
theorem dL_law_509 : decode cL_law 509 = .ok (.iconst 2, 1) := by decide +kernel
theorem dL_law_510 : decode cL_law 510 = .ok (.iadd, 1) := by decide +kernel
theorem dL_law_511 : decode cL_law 511 = .ok (.iaload, 1) := by decide +kernel
theorem dL_law_512 : decode cL_law 512 = .ok (.aload_n 3, 1) := by decide +kernel
theorem dL_law_513 : decode cL_law 513 = .ok (.invokestatic 82, 3) := by decide +kernel
theorem dL_law_516 : decode cL_law 516 = .ok (.istore 5, 2) := by decide +kernel
theorem dL_law_518 : decode cL_law 518 = .ok (.aload_n 2, 1) := by decide +kernel
theorem dL_law_519 : decode cL_law 519 = .ok (.aload_n 0, 1) := by decide +kernel
theorem dL_law_520 : decode cL_law 520 = .ok (.iload 4, 2) := by decide +kernel
theorem dL_law_522 : decode cL_law 522 = .ok (.iconst 1, 1) := by decide +kernel
theorem dL_law_523 : decode cL_law 523 = .ok (.iadd, 1) := by decide +kernel
theorem dL_law_524 : decode cL_law 524 = .ok (.iaload, 1) := by decide +kernel
theorem dL_law_525 : decode cL_law 525 = .ok (.aload_n 0, 1) := by decide +kernel
theorem dL_law_526 : decode cL_law 526 = .ok (.iload 4, 2) := by decide +kernel
theorem dL_law_528 : decode cL_law 528 = .ok (.iconst 2, 1) := by decide +kernel
theorem dL_law_529 : decode cL_law 529 = .ok (.iadd, 1) := by decide +kernel
theorem dL_law_530 : decode cL_law 530 = .ok (.iaload, 1) := by decide +kernel
theorem dL_law_531 : decode cL_law 531 = .ok (.invokevirtual 85, 3) := by decide +kernel
theorem dL_law_534 : decode cL_law 534 = .ok (.istore 6, 2) := by decide +kernel
theorem dL_law_536 : decode cL_law 536 = .ok (.aload_n 2, 1) := by decide +kernel
theorem dL_law_537 : decode cL_law 537 = .ok (.invokevirtual 86, 3) := by decide +kernel
theorem dL_law_540 : decode cL_law 540 = .ok (.iload 5, 2) := by decide +kernel
theorem dL_law_542 : decode cL_law 542 = .ok (.if_icmp .eq 5, 3) := by decide +kernel
theorem dL_law_547 : decode cL_law 547 = .ok (.iload 5, 2) := by decide +kernel
theorem dL_law_549 : decode cL_law 549 = .ok (.ifCond .ne 15, 3) := by decide +kernel
theorem dL_law_552 : decode cL_law 552 = .ok (.aload_n 3, 1) := by decide +kernel
theorem dL_law_553 : decode cL_law 553 = .ok (.iconst 0, 1) := by decide +kernel
theorem dL_law_554 : decode cL_law 554 = .ok (.laload, 1) := by decide +kernel
theorem dL_law_555 : decode cL_law 555 = .ok (.iload 6, 2) := by decide +kernel
theorem dL_law_557 : decode cL_law 557 = .ok (.i2l, 1) := by decide +kernel
theorem dL_law_558 : decode cL_law 558 = .ok (.lcmp, 1) := by decide +kernel
theorem dL_law_559 : decode cL_law 559 = .ok (.ifCond .eq 5, 3) := by decide +kernel
theorem dL_law_564 : decode cL_law 564 = .ok (.goto 91, 3) := by decide +kernel
theorem dL_law_567 : decode cL_law 567 = .ok (.aload_n 1, 1) := by decide +kernel
theorem dL_law_568 : decode cL_law 568 = .ok (.aload_n 0, 1) := by decide +kernel
theorem dL_law_569 : decode cL_law 569 = .ok (.iload 4, 2) := by decide +kernel
theorem dL_law_571 : decode cL_law 571 = .ok (.iconst 1, 1) := by decide +kernel
theorem dL_law_572 : decode cL_law 572 = .ok (.iadd, 1) := by decide +kernel
theorem dL_law_573 : decode cL_law 573 = .ok (.iaload, 1) := by decide +kernel
theorem dL_law_574 : decode cL_law 574 = .ok (.aload_n 0, 1) := by decide +kernel
theorem dL_law_575 : decode cL_law 575 = .ok (.iload 4, 2) := by decide +kernel
theorem dL_law_577 : decode cL_law 577 = .ok (.iconst 2, 1) := by decide +kernel
theorem dL_law_578 : decode cL_law 578 = .ok (.iadd, 1) := by decide +kernel
theorem dL_law_579 : decode cL_law 579 = .ok (.iaload, 1) := by decide +kernel
theorem dL_law_580 : decode cL_law 580 = .ok (.invokevirtual 88, 3) := by decide +kernel
theorem dL_law_583 : decode cL_law 583 = .ok (.pop, 1) := by decide +kernel
theorem dL_law_584 : decode cL_law 584 = .ok (.aload_n 2, 1) := by decide +kernel
theorem dL_law_585 : decode cL_law 585 = .ok (.aload_n 0, 1) := by decide +kernel
theorem dL_law_586 : decode cL_law 586 = .ok (.iload 4, 2) := by decide +kernel
theorem dL_law_588 : decode cL_law 588 = .ok (.iconst 1, 1) := by decide +kernel
theorem dL_law_589 : decode cL_law 589 = .ok (.iadd, 1) := by decide +kernel
theorem dL_law_590 : decode cL_law 590 = .ok (.iaload, 1) := by decide +kernel
theorem dL_law_591 : decode cL_law 591 = .ok (.aload_n 0, 1) := by decide +kernel
theorem dL_law_592 : decode cL_law 592 = .ok (.iload 4, 2) := by decide +kernel
theorem dL_law_594 : decode cL_law 594 = .ok (.iconst 2, 1) := by decide +kernel
theorem dL_law_595 : decode cL_law 595 = .ok (.iadd, 1) := by decide +kernel
theorem dL_law_596 : decode cL_law 596 = .ok (.iaload, 1) := by decide +kernel
theorem dL_law_597 : decode cL_law 597 = .ok (.invokevirtual 91, 3) := by decide +kernel
theorem dL_law_600 : decode cL_law 600 = .ok (.pop, 1) := by decide +kernel
theorem dL_law_601 : decode cL_law 601 = .ok (.goto 54, 3) := by decide +kernel
theorem dL_law_604 : decode cL_law 604 = .ok (.aload_n 1, 1) := by decide +kernel
theorem dL_law_605 : decode cL_law 605 = .ok (.aload_n 0, 1) := by decide +kernel
theorem dL_law_606 : decode cL_law 606 = .ok (.iload 4, 2) := by decide +kernel
theorem dL_law_608 : decode cL_law 608 = .ok (.iconst 1, 1) := by decide +kernel
theorem dL_law_609 : decode cL_law 609 = .ok (.iadd, 1) := by decide +kernel
theorem dL_law_610 : decode cL_law 610 = .ok (.iaload, 1) := by decide +kernel
theorem dL_law_611 : decode cL_law 611 = .ok (.invokevirtual 92, 3) := by decide +kernel
theorem dL_law_614 : decode cL_law 614 = .ok (.pop, 1) := by decide +kernel
theorem dL_law_615 : decode cL_law 615 = .ok (.aload_n 2, 1) := by decide +kernel
theorem dL_law_616 : decode cL_law 616 = .ok (.aload_n 0, 1) := by decide +kernel
theorem dL_law_617 : decode cL_law 617 = .ok (.iload 4, 2) := by decide +kernel
theorem dL_law_619 : decode cL_law 619 = .ok (.iconst 1, 1) := by decide +kernel
theorem dL_law_620 : decode cL_law 620 = .ok (.iadd, 1) := by decide +kernel
theorem dL_law_621 : decode cL_law 621 = .ok (.iaload, 1) := by decide +kernel
theorem dL_law_622 : decode cL_law 622 = .ok (.invokevirtual 95, 3) := by decide +kernel
theorem dL_law_625 : decode cL_law 625 = .ok (.pop, 1) := by decide +kernel
theorem dL_law_626 : decode cL_law 626 = .ok (.goto 29, 3) := by decide +kernel
theorem dL_law_629 : decode cL_law 629 = .ok (.aload_n 1, 1) := by decide +kernel
theorem dL_law_630 : decode cL_law 630 = .ok (.invokevirtual 96, 3) := by decide +kernel
theorem dL_law_633 : decode cL_law 633 = .ok (.pop, 1) := by decide +kernel
theorem dL_law_634 : decode cL_law 634 = .ok (.aload_n 2, 1) := by decide +kernel
theorem dL_law_635 : decode cL_law 635 = .ok (.invokevirtual 99, 3) := by decide +kernel
theorem dL_law_638 : decode cL_law 638 = .ok (.pop, 1) := by decide +kernel
theorem dL_law_639 : decode cL_law 639 = .ok (.goto 16, 3) := by decide +kernel
theorem dL_law_642 : decode cL_law 642 = .ok (.aload_n 1, 1) := by decide +kernel
theorem dL_law_643 : decode cL_law 643 = .ok (.invokevirtual 100, 3) := by decide +kernel
theorem dL_law_646 : decode cL_law 646 = .ok (.pop, 1) := by decide +kernel
theorem dL_law_647 : decode cL_law 647 = .ok (.aload_n 2, 1) := by decide +kernel
theorem dL_law_648 : decode cL_law 648 = .ok (.invokevirtual 103, 3) := by decide +kernel
theorem dL_law_651 : decode cL_law 651 = .ok (.pop, 1) := by decide +kernel
theorem dL_law_652 : decode cL_law 652 = .ok (.goto 3, 3) := by decide +kernel
theorem dL_law_655 : decode cL_law 655 = .ok (.iinc 4 3, 3) := by decide +kernel
theorem dL_law_658 : decode cL_law 658 = .ok (.goto (-635), 3) := by decide +kernel
theorem dL_law_661 : decode cL_law 661 = .ok (.iconst 1, 1) := by decide +kernel
theorem dL_law_662 : decode cL_law 662 = .ok (.ireturn, 1) := by decide +kernel
