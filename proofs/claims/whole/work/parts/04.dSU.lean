theorem d_SU_init_0 : decode b_SU_init 0 = .ok (.aload_n 0, 1) := by decide +kernel
theorem d_SU_init_1 : decode b_SU_init 1 = .ok (.invokespecial 1, 3) := by decide +kernel
theorem d_SU_init_4 : decode b_SU_init 4 = .ok (.aload_n 0, 1) := by decide +kernel
theorem d_SU_init_5 : decode b_SU_init 5 = .ok (.aload_n 1, 1) := by decide +kernel
theorem d_SU_init_6 : decode b_SU_init 6 = .ok (.putfield 7, 3) := by decide +kernel
theorem d_SU_init_9 : decode b_SU_init 9 = .ok (.aload_n 0, 1) := by decide +kernel
theorem d_SU_init_10 : decode b_SU_init 10 = .ok (.aload_n 2, 1) := by decide +kernel
theorem d_SU_init_11 : decode b_SU_init 11 = .ok (.putfield 13, 3) := by decide +kernel
theorem d_SU_init_14 : decode b_SU_init 14 = .ok (.aload_n 0, 1) := by decide +kernel
theorem d_SU_init_15 : decode b_SU_init 15 = .ok (.aload_n 1, 1) := by decide +kernel
theorem d_SU_init_16 : decode b_SU_init 16 = .ok (.getfield 17, 3) := by decide +kernel
theorem d_SU_init_19 : decode b_SU_init 19 = .ok (.bipush 64, 2) := by decide +kernel
theorem d_SU_init_21 : decode b_SU_init 21 = .ok (.iadd, 1) := by decide +kernel
theorem d_SU_init_22 : decode b_SU_init 22 = .ok (.iconst 1, 1) := by decide +kernel
theorem d_SU_init_23 : decode b_SU_init 23 = .ok (.isub, 1) := by decide +kernel
theorem d_SU_init_24 : decode b_SU_init 24 = .ok (.bipush 64, 2) := by decide +kernel
theorem d_SU_init_26 : decode b_SU_init 26 = .ok (.idiv, 1) := by decide +kernel
theorem d_SU_init_27 : decode b_SU_init 27 = .ok (.newarray .long, 2) := by decide +kernel
theorem d_SU_init_29 : decode b_SU_init 29 = .ok (.putfield 23, 3) := by decide +kernel
theorem d_SU_init_32 : decode b_SU_init 32 = .ok (.aload_n 0, 1) := by decide +kernel
theorem d_SU_init_33 : decode b_SU_init 33 = .ok (.bipush 10, 2) := by decide +kernel
theorem d_SU_init_35 : decode b_SU_init 35 = .ok (.newarray .int, 2) := by decide +kernel
theorem d_SU_init_37 : decode b_SU_init 37 = .ok (.putfield 27, 3) := by decide +kernel
theorem d_SU_init_40 : decode b_SU_init 40 = .ok (.aload_n 0, 1) := by decide +kernel
theorem d_SU_init_41 : decode b_SU_init 41 = .ok (.invokevirtual 30, 3) := by decide +kernel
theorem d_SU_init_44 : decode b_SU_init 44 = .ok (.return_, 1) := by decide +kernel
theorem d_SU_add_0 : decode b_SU_add 0 = .ok (.aload_n 0, 1) := by decide +kernel
theorem d_SU_add_1 : decode b_SU_add 1 = .ok (.iload_n 1, 1) := by decide +kernel
theorem d_SU_add_2 : decode b_SU_add 2 = .ok (.invokevirtual 47, 3) := by decide +kernel
theorem d_SU_add_5 : decode b_SU_add 5 = .ok (.ifCond .ne 12, 3) := by decide +kernel
theorem d_SU_add_8 : decode b_SU_add 8 = .ok (.aload_n 0, 1) := by decide +kernel
theorem d_SU_add_9 : decode b_SU_add 9 = .ok (.getfield 38, 3) := by decide +kernel
theorem d_SU_add_12 : decode b_SU_add 12 = .ok (.bipush 10, 2) := by decide +kernel
theorem d_SU_add_14 : decode b_SU_add 14 = .ok (.if_icmp .lt 4, 3) := by decide +kernel
theorem d_SU_add_17 : decode b_SU_add 17 = .ok (.return_, 1) := by decide +kernel
theorem d_SU_add_18 : decode b_SU_add 18 = .ok (.aload_n 0, 1) := by decide +kernel
theorem d_SU_add_19 : decode b_SU_add 19 = .ok (.getfield 27, 3) := by decide +kernel
theorem d_SU_add_22 : decode b_SU_add 22 = .ok (.aload_n 0, 1) := by decide +kernel
theorem d_SU_add_23 : decode b_SU_add 23 = .ok (.getfield 38, 3) := by decide +kernel
theorem d_SU_add_26 : decode b_SU_add 26 = .ok (.iload_n 1, 1) := by decide +kernel
theorem d_SU_add_27 : decode b_SU_add 27 = .ok (.iastore, 1) := by decide +kernel
theorem d_SU_add_28 : decode b_SU_add 28 = .ok (.aload_n 0, 1) := by decide +kernel
theorem d_SU_add_29 : decode b_SU_add 29 = .ok (.dup, 1) := by decide +kernel
theorem d_SU_add_30 : decode b_SU_add 30 = .ok (.getfield 38, 3) := by decide +kernel
theorem d_SU_add_33 : decode b_SU_add 33 = .ok (.iconst 1, 1) := by decide +kernel
theorem d_SU_add_34 : decode b_SU_add 34 = .ok (.iadd, 1) := by decide +kernel
theorem d_SU_add_35 : decode b_SU_add 35 = .ok (.putfield 38, 3) := by decide +kernel
theorem d_SU_add_38 : decode b_SU_add 38 = .ok (.aload_n 0, 1) := by decide +kernel
theorem d_SU_add_39 : decode b_SU_add 39 = .ok (.getfield 37, 3) := by decide +kernel
theorem d_SU_add_42 : decode b_SU_add 42 = .ok (.istore_n 2, 1) := by decide +kernel
theorem d_SU_add_43 : decode b_SU_add 43 = .ok (.aload_n 0, 1) := by decide +kernel
theorem d_SU_add_44 : decode b_SU_add 44 = .ok (.invokevirtual 69, 3) := by decide +kernel
theorem d_SU_add_47 : decode b_SU_add 47 = .ok (.aload_n 0, 1) := by decide +kernel
theorem d_SU_add_48 : decode b_SU_add 48 = .ok (.iload_n 2, 1) := by decide +kernel
theorem d_SU_add_49 : decode b_SU_add 49 = .ok (.iload_n 1, 1) := by decide +kernel
theorem d_SU_add_50 : decode b_SU_add 50 = .ok (.invokevirtual 72, 3) := by decide +kernel
theorem d_SU_add_53 : decode b_SU_add 53 = .ok (.iload_n 2, 1) := by decide +kernel
theorem d_SU_add_54 : decode b_SU_add 54 = .ok (.istore_n 3, 1) := by decide +kernel
theorem d_SU_add_55 : decode b_SU_add 55 = .ok (.iload_n 3, 1) := by decide +kernel
theorem d_SU_add_56 : decode b_SU_add 56 = .ok (.aload_n 0, 1) := by decide +kernel
theorem d_SU_add_57 : decode b_SU_add 57 = .ok (.getfield 37, 3) := by decide +kernel
theorem d_SU_add_60 : decode b_SU_add 60 = .ok (.if_icmp .ge 75, 3) := by decide +kernel
theorem d_SU_add_63 : decode b_SU_add 63 = .ok (.iload_n 3, 1) := by decide +kernel
theorem d_SU_add_64 : decode b_SU_add 64 = .ok (.aload_n 0, 1) := by decide +kernel
theorem d_SU_add_65 : decode b_SU_add 65 = .ok (.getfield 13, 3) := by decide +kernel
theorem d_SU_add_68 : decode b_SU_add 68 = .ok (.arraylength, 1) := by decide +kernel
theorem d_SU_add_69 : decode b_SU_add 69 = .ok (.if_icmp .ge 66, 3) := by decide +kernel
theorem d_SU_add_72 : decode b_SU_add 72 = .ok (.iconst 0, 1) := by decide +kernel
theorem d_SU_add_73 : decode b_SU_add 73 = .ok (.istore 4, 2) := by decide +kernel
theorem d_SU_add_75 : decode b_SU_add 75 = .ok (.iload 4, 2) := by decide +kernel
theorem d_SU_add_77 : decode b_SU_add 77 = .ok (.aload_n 0, 1) := by decide +kernel
theorem d_SU_add_78 : decode b_SU_add 78 = .ok (.getfield 38, 3) := by decide +kernel
theorem d_SU_add_81 : decode b_SU_add 81 = .ok (.if_icmp .ge 47, 3) := by decide +kernel
theorem d_SU_add_84 : decode b_SU_add 84 = .ok (.aload_n 0, 1) := by decide +kernel
theorem d_SU_add_85 : decode b_SU_add 85 = .ok (.getfield 7, 3) := by decide +kernel
theorem d_SU_add_88 : decode b_SU_add 88 = .ok (.aload_n 0, 1) := by decide +kernel
theorem d_SU_add_89 : decode b_SU_add 89 = .ok (.getfield 13, 3) := by decide +kernel
theorem d_SU_add_92 : decode b_SU_add 92 = .ok (.iload_n 3, 1) := by decide +kernel
theorem d_SU_add_93 : decode b_SU_add 93 = .ok (.iaload, 1) := by decide +kernel
theorem d_SU_add_94 : decode b_SU_add 94 = .ok (.aload_n 0, 1) := by decide +kernel
theorem d_SU_add_95 : decode b_SU_add 95 = .ok (.getfield 27, 3) := by decide +kernel
theorem d_SU_add_98 : decode b_SU_add 98 = .ok (.iload 4, 2) := by decide +kernel
theorem d_SU_add_100 : decode b_SU_add 100 = .ok (.iaload, 1) := by decide +kernel
theorem d_SU_add_101 : decode b_SU_add 101 = .ok (.invokevirtual 76, 3) := by decide +kernel
theorem d_SU_add_104 : decode b_SU_add 104 = .ok (.istore 5, 2) := by decide +kernel
theorem d_SU_add_106 : decode b_SU_add 106 = .ok (.aload_n 0, 1) := by decide +kernel
theorem d_SU_add_107 : decode b_SU_add 107 = .ok (.iload 5, 2) := by decide +kernel
theorem d_SU_add_109 : decode b_SU_add 109 = .ok (.invokevirtual 47, 3) := by decide +kernel
theorem d_SU_add_112 : decode b_SU_add 112 = .ok (.ifCond .ne 10, 3) := by decide +kernel
theorem d_SU_add_115 : decode b_SU_add 115 = .ok (.aload_n 0, 1) := by decide +kernel
theorem d_SU_add_116 : decode b_SU_add 116 = .ok (.iload_n 2, 1) := by decide +kernel
theorem d_SU_add_117 : decode b_SU_add 117 = .ok (.iload 5, 2) := by decide +kernel
theorem d_SU_add_119 : decode b_SU_add 119 = .ok (.invokevirtual 72, 3) := by decide +kernel
theorem d_SU_add_122 : decode b_SU_add 122 = .ok (.iinc 4 1, 3) := by decide +kernel
theorem d_SU_add_125 : decode b_SU_add 125 = .ok (.goto (-50), 3) := by decide +kernel
theorem d_SU_add_128 : decode b_SU_add 128 = .ok (.iload_n 3, 1) := by decide +kernel
theorem d_SU_add_129 : decode b_SU_add 129 = .ok (.iload_n 2, 1) := by decide +kernel
theorem d_SU_add_130 : decode b_SU_add 130 = .ok (.iadd, 1) := by decide +kernel
theorem d_SU_add_131 : decode b_SU_add 131 = .ok (.istore_n 3, 1) := by decide +kernel
theorem d_SU_add_132 : decode b_SU_add 132 = .ok (.goto (-77), 3) := by decide +kernel
theorem d_SU_add_135 : decode b_SU_add 135 = .ok (.return_, 1) := by decide +kernel
theorem d_SU_addCoset_0 : decode b_SU_addCoset 0 = .ok (.iconst 0, 1) := by decide +kernel
theorem d_SU_addCoset_1 : decode b_SU_addCoset 1 = .ok (.istore_n 3, 1) := by decide +kernel
theorem d_SU_addCoset_2 : decode b_SU_addCoset 2 = .ok (.iload_n 3, 1) := by decide +kernel
theorem d_SU_addCoset_3 : decode b_SU_addCoset 3 = .ok (.iload_n 1, 1) := by decide +kernel
theorem d_SU_addCoset_4 : decode b_SU_addCoset 4 = .ok (.if_icmp .ge 64, 3) := by decide +kernel
theorem d_SU_addCoset_7 : decode b_SU_addCoset 7 = .ok (.aload_n 0, 1) := by decide +kernel
theorem d_SU_addCoset_8 : decode b_SU_addCoset 8 = .ok (.getfield 37, 3) := by decide +kernel
theorem d_SU_addCoset_11 : decode b_SU_addCoset 11 = .ok (.aload_n 0, 1) := by decide +kernel
theorem d_SU_addCoset_12 : decode b_SU_addCoset 12 = .ok (.getfield 13, 3) := by decide +kernel
theorem d_SU_addCoset_15 : decode b_SU_addCoset 15 = .ok (.arraylength, 1) := by decide +kernel
theorem d_SU_addCoset_16 : decode b_SU_addCoset 16 = .ok (.if_icmp .ge 52, 3) := by decide +kernel
theorem d_SU_addCoset_19 : decode b_SU_addCoset 19 = .ok (.aload_n 0, 1) := by decide +kernel
theorem d_SU_addCoset_20 : decode b_SU_addCoset 20 = .ok (.getfield 7, 3) := by decide +kernel
theorem d_SU_addCoset_23 : decode b_SU_addCoset 23 = .ok (.aload_n 0, 1) := by decide +kernel
theorem d_SU_addCoset_24 : decode b_SU_addCoset 24 = .ok (.getfield 13, 3) := by decide +kernel
theorem d_SU_addCoset_27 : decode b_SU_addCoset 27 = .ok (.iload_n 3, 1) := by decide +kernel
theorem d_SU_addCoset_28 : decode b_SU_addCoset 28 = .ok (.iaload, 1) := by decide +kernel
theorem d_SU_addCoset_29 : decode b_SU_addCoset 29 = .ok (.iload_n 2, 1) := by decide +kernel
theorem d_SU_addCoset_30 : decode b_SU_addCoset 30 = .ok (.invokevirtual 76, 3) := by decide +kernel
theorem d_SU_addCoset_33 : decode b_SU_addCoset 33 = .ok (.istore 4, 2) := by decide +kernel
theorem d_SU_addCoset_35 : decode b_SU_addCoset 35 = .ok (.aload_n 0, 1) := by decide +kernel
theorem d_SU_addCoset_36 : decode b_SU_addCoset 36 = .ok (.getfield 13, 3) := by decide +kernel
theorem d_SU_addCoset_39 : decode b_SU_addCoset 39 = .ok (.aload_n 0, 1) := by decide +kernel
theorem d_SU_addCoset_40 : decode b_SU_addCoset 40 = .ok (.getfield 37, 3) := by decide +kernel
theorem d_SU_addCoset_43 : decode b_SU_addCoset 43 = .ok (.iload 4, 2) := by decide +kernel
theorem d_SU_addCoset_45 : decode b_SU_addCoset 45 = .ok (.iastore, 1) := by decide +kernel
theorem d_SU_addCoset_46 : decode b_SU_addCoset 46 = .ok (.aload_n 0, 1) := by decide +kernel
theorem d_SU_addCoset_47 : decode b_SU_addCoset 47 = .ok (.iload 4, 2) := by decide +kernel
theorem d_SU_addCoset_49 : decode b_SU_addCoset 49 = .ok (.invokevirtual 33, 3) := by decide +kernel
theorem d_SU_addCoset_52 : decode b_SU_addCoset 52 = .ok (.aload_n 0, 1) := by decide +kernel
theorem d_SU_addCoset_53 : decode b_SU_addCoset 53 = .ok (.dup, 1) := by decide +kernel
theorem d_SU_addCoset_54 : decode b_SU_addCoset 54 = .ok (.getfield 37, 3) := by decide +kernel
theorem d_SU_addCoset_57 : decode b_SU_addCoset 57 = .ok (.iconst 1, 1) := by decide +kernel
theorem d_SU_addCoset_58 : decode b_SU_addCoset 58 = .ok (.iadd, 1) := by decide +kernel
theorem d_SU_addCoset_59 : decode b_SU_addCoset 59 = .ok (.putfield 37, 3) := by decide +kernel
theorem d_SU_addCoset_62 : decode b_SU_addCoset 62 = .ok (.iinc 3 1, 3) := by decide +kernel
theorem d_SU_addCoset_65 : decode b_SU_addCoset 65 = .ok (.goto (-63), 3) := by decide +kernel
theorem d_SU_addCoset_68 : decode b_SU_addCoset 68 = .ok (.return_, 1) := by decide +kernel
theorem d_SU_becomeCopyOf_0 : decode b_SU_becomeCopyOf 0 = .ok (.aload_n 1, 1) := by decide +kernel
theorem d_SU_becomeCopyOf_1 : decode b_SU_becomeCopyOf 1 = .ok (.getfield 23, 3) := by decide +kernel
theorem d_SU_becomeCopyOf_4 : decode b_SU_becomeCopyOf 4 = .ok (.iconst 0, 1) := by decide +kernel
theorem d_SU_becomeCopyOf_5 : decode b_SU_becomeCopyOf 5 = .ok (.aload_n 0, 1) := by decide +kernel
theorem d_SU_becomeCopyOf_6 : decode b_SU_becomeCopyOf 6 = .ok (.getfield 23, 3) := by decide +kernel
theorem d_SU_becomeCopyOf_9 : decode b_SU_becomeCopyOf 9 = .ok (.iconst 0, 1) := by decide +kernel
theorem d_SU_becomeCopyOf_10 : decode b_SU_becomeCopyOf 10 = .ok (.aload_n 0, 1) := by decide +kernel
theorem d_SU_becomeCopyOf_11 : decode b_SU_becomeCopyOf 11 = .ok (.getfield 23, 3) := by decide +kernel
theorem d_SU_becomeCopyOf_14 : decode b_SU_becomeCopyOf 14 = .ok (.arraylength, 1) := by decide +kernel
theorem d_SU_becomeCopyOf_15 : decode b_SU_becomeCopyOf 15 = .ok (.invokestatic 41, 3) := by decide +kernel
theorem d_SU_becomeCopyOf_18 : decode b_SU_becomeCopyOf 18 = .ok (.aload_n 1, 1) := by decide +kernel
theorem d_SU_becomeCopyOf_19 : decode b_SU_becomeCopyOf 19 = .ok (.getfield 27, 3) := by decide +kernel
theorem d_SU_becomeCopyOf_22 : decode b_SU_becomeCopyOf 22 = .ok (.iconst 0, 1) := by decide +kernel
theorem d_SU_becomeCopyOf_23 : decode b_SU_becomeCopyOf 23 = .ok (.aload_n 0, 1) := by decide +kernel
theorem d_SU_becomeCopyOf_24 : decode b_SU_becomeCopyOf 24 = .ok (.getfield 27, 3) := by decide +kernel
theorem d_SU_becomeCopyOf_27 : decode b_SU_becomeCopyOf 27 = .ok (.iconst 0, 1) := by decide +kernel
theorem d_SU_becomeCopyOf_28 : decode b_SU_becomeCopyOf 28 = .ok (.aload_n 0, 1) := by decide +kernel
theorem d_SU_becomeCopyOf_29 : decode b_SU_becomeCopyOf 29 = .ok (.getfield 27, 3) := by decide +kernel
theorem d_SU_becomeCopyOf_32 : decode b_SU_becomeCopyOf 32 = .ok (.arraylength, 1) := by decide +kernel
theorem d_SU_becomeCopyOf_33 : decode b_SU_becomeCopyOf 33 = .ok (.invokestatic 41, 3) := by decide +kernel
theorem d_SU_becomeCopyOf_36 : decode b_SU_becomeCopyOf 36 = .ok (.aload_n 0, 1) := by decide +kernel
theorem d_SU_becomeCopyOf_37 : decode b_SU_becomeCopyOf 37 = .ok (.aload_n 1, 1) := by decide +kernel
theorem d_SU_becomeCopyOf_38 : decode b_SU_becomeCopyOf 38 = .ok (.getfield 37, 3) := by decide +kernel
theorem d_SU_becomeCopyOf_41 : decode b_SU_becomeCopyOf 41 = .ok (.putfield 37, 3) := by decide +kernel
theorem d_SU_becomeCopyOf_44 : decode b_SU_becomeCopyOf 44 = .ok (.aload_n 0, 1) := by decide +kernel
theorem d_SU_becomeCopyOf_45 : decode b_SU_becomeCopyOf 45 = .ok (.aload_n 1, 1) := by decide +kernel
theorem d_SU_becomeCopyOf_46 : decode b_SU_becomeCopyOf 46 = .ok (.getfield 38, 3) := by decide +kernel
theorem d_SU_becomeCopyOf_49 : decode b_SU_becomeCopyOf 49 = .ok (.putfield 38, 3) := by decide +kernel
theorem d_SU_becomeCopyOf_52 : decode b_SU_becomeCopyOf 52 = .ok (.return_, 1) := by decide +kernel
theorem d_SU_becomeDerivedOf_0 : decode b_SU_becomeDerivedOf 0 = .ok (.aload_n 0, 1) := by decide +kernel
theorem d_SU_becomeDerivedOf_1 : decode b_SU_becomeDerivedOf 1 = .ok (.invokevirtual 30, 3) := by decide +kernel
theorem d_SU_becomeDerivedOf_4 : decode b_SU_becomeDerivedOf 4 = .ok (.iconst 1, 1) := by decide +kernel
theorem d_SU_becomeDerivedOf_5 : decode b_SU_becomeDerivedOf 5 = .ok (.istore_n 2, 1) := by decide +kernel
theorem d_SU_becomeDerivedOf_6 : decode b_SU_becomeDerivedOf 6 = .ok (.iload_n 2, 1) := by decide +kernel
theorem d_SU_becomeDerivedOf_7 : decode b_SU_becomeDerivedOf 7 = .ok (.aload_n 1, 1) := by decide +kernel
theorem d_SU_becomeDerivedOf_8 : decode b_SU_becomeDerivedOf 8 = .ok (.getfield 38, 3) := by decide +kernel
theorem d_SU_becomeDerivedOf_11 : decode b_SU_becomeDerivedOf 11 = .ok (.if_icmp .ge 45, 3) := by decide +kernel
theorem d_SU_becomeDerivedOf_14 : decode b_SU_becomeDerivedOf 14 = .ok (.iconst 0, 1) := by decide +kernel
theorem d_SU_becomeDerivedOf_15 : decode b_SU_becomeDerivedOf 15 = .ok (.istore_n 3, 1) := by decide +kernel
theorem d_SU_becomeDerivedOf_16 : decode b_SU_becomeDerivedOf 16 = .ok (.iload_n 3, 1) := by decide +kernel
theorem d_SU_becomeDerivedOf_17 : decode b_SU_becomeDerivedOf 17 = .ok (.iload_n 2, 1) := by decide +kernel
theorem d_SU_becomeDerivedOf_18 : decode b_SU_becomeDerivedOf 18 = .ok (.if_icmp .ge 32, 3) := by decide +kernel
theorem d_SU_becomeDerivedOf_21 : decode b_SU_becomeDerivedOf 21 = .ok (.aload_n 0, 1) := by decide +kernel
theorem d_SU_becomeDerivedOf_22 : decode b_SU_becomeDerivedOf 22 = .ok (.aload_n 0, 1) := by decide +kernel
theorem d_SU_becomeDerivedOf_23 : decode b_SU_becomeDerivedOf 23 = .ok (.getfield 7, 3) := by decide +kernel
theorem d_SU_becomeDerivedOf_26 : decode b_SU_becomeDerivedOf 26 = .ok (.aload_n 1, 1) := by decide +kernel
theorem d_SU_becomeDerivedOf_27 : decode b_SU_becomeDerivedOf 27 = .ok (.getfield 27, 3) := by decide +kernel
theorem d_SU_becomeDerivedOf_30 : decode b_SU_becomeDerivedOf 30 = .ok (.iload_n 2, 1) := by decide +kernel
theorem d_SU_becomeDerivedOf_31 : decode b_SU_becomeDerivedOf 31 = .ok (.iaload, 1) := by decide +kernel
theorem d_SU_becomeDerivedOf_32 : decode b_SU_becomeDerivedOf 32 = .ok (.aload_n 1, 1) := by decide +kernel
theorem d_SU_becomeDerivedOf_33 : decode b_SU_becomeDerivedOf 33 = .ok (.getfield 27, 3) := by decide +kernel
theorem d_SU_becomeDerivedOf_36 : decode b_SU_becomeDerivedOf 36 = .ok (.iload_n 3, 1) := by decide +kernel
theorem d_SU_becomeDerivedOf_37 : decode b_SU_becomeDerivedOf 37 = .ok (.iaload, 1) := by decide +kernel
theorem d_SU_becomeDerivedOf_38 : decode b_SU_becomeDerivedOf 38 = .ok (.invokevirtual 58, 3) := by decide +kernel
theorem d_SU_becomeDerivedOf_41 : decode b_SU_becomeDerivedOf 41 = .ok (.invokevirtual 55, 3) := by decide +kernel
theorem d_SU_becomeDerivedOf_44 : decode b_SU_becomeDerivedOf 44 = .ok (.iinc 3 1, 3) := by decide +kernel
theorem d_SU_becomeDerivedOf_47 : decode b_SU_becomeDerivedOf 47 = .ok (.goto (-31), 3) := by decide +kernel
theorem d_SU_becomeDerivedOf_50 : decode b_SU_becomeDerivedOf 50 = .ok (.iinc 2 1, 3) := by decide +kernel
theorem d_SU_becomeDerivedOf_53 : decode b_SU_becomeDerivedOf 53 = .ok (.goto (-47), 3) := by decide +kernel
theorem d_SU_becomeDerivedOf_56 : decode b_SU_becomeDerivedOf 56 = .ok (.aload_n 0, 1) := by decide +kernel
theorem d_SU_becomeDerivedOf_57 : decode b_SU_becomeDerivedOf 57 = .ok (.aload_n 1, 1) := by decide +kernel
theorem d_SU_becomeDerivedOf_58 : decode b_SU_becomeDerivedOf 58 = .ok (.invokevirtual 62, 3) := by decide +kernel
theorem d_SU_becomeDerivedOf_61 : decode b_SU_becomeDerivedOf 61 = .ok (.return_, 1) := by decide +kernel
theorem d_SU_becomeHolderOf_0 : decode b_SU_becomeHolderOf 0 = .ok (.aload_n 0, 1) := by decide +kernel
theorem d_SU_becomeHolderOf_1 : decode b_SU_becomeHolderOf 1 = .ok (.invokevirtual 30, 3) := by decide +kernel
theorem d_SU_becomeHolderOf_4 : decode b_SU_becomeHolderOf 4 = .ok (.iconst 0, 1) := by decide +kernel
theorem d_SU_becomeHolderOf_5 : decode b_SU_becomeHolderOf 5 = .ok (.istore_n 3, 1) := by decide +kernel
theorem d_SU_becomeHolderOf_6 : decode b_SU_becomeHolderOf 6 = .ok (.iload_n 3, 1) := by decide +kernel
theorem d_SU_becomeHolderOf_7 : decode b_SU_becomeHolderOf 7 = .ok (.aload_n 0, 1) := by decide +kernel
theorem d_SU_becomeHolderOf_8 : decode b_SU_becomeHolderOf 8 = .ok (.getfield 7, 3) := by decide +kernel
theorem d_SU_becomeHolderOf_11 : decode b_SU_becomeHolderOf 11 = .ok (.getfield 17, 3) := by decide +kernel
theorem d_SU_becomeHolderOf_14 : decode b_SU_becomeHolderOf 14 = .ok (.if_icmp .ge 34, 3) := by decide +kernel
theorem d_SU_becomeHolderOf_17 : decode b_SU_becomeHolderOf 17 = .ok (.aload_n 2, 1) := by decide +kernel
theorem d_SU_becomeHolderOf_18 : decode b_SU_becomeHolderOf 18 = .ok (.iload_n 3, 1) := by decide +kernel
theorem d_SU_becomeHolderOf_19 : decode b_SU_becomeHolderOf 19 = .ok (.invokevirtual 47, 3) := by decide +kernel
theorem d_SU_becomeHolderOf_22 : decode b_SU_becomeHolderOf 22 = .ok (.ifCond .eq 20, 3) := by decide +kernel
theorem d_SU_becomeHolderOf_25 : decode b_SU_becomeHolderOf 25 = .ok (.aload_n 0, 1) := by decide +kernel
theorem d_SU_becomeHolderOf_26 : decode b_SU_becomeHolderOf 26 = .ok (.getfield 7, 3) := by decide +kernel
theorem d_SU_becomeHolderOf_29 : decode b_SU_becomeHolderOf 29 = .ok (.iload_n 3, 1) := by decide +kernel
theorem d_SU_becomeHolderOf_30 : decode b_SU_becomeHolderOf 30 = .ok (.iload_n 1, 1) := by decide +kernel
theorem d_SU_becomeHolderOf_31 : decode b_SU_becomeHolderOf 31 = .ok (.invokevirtual 51, 3) := by decide +kernel
theorem d_SU_becomeHolderOf_34 : decode b_SU_becomeHolderOf 34 = .ok (.ifCond .eq 8, 3) := by decide +kernel
theorem d_SU_becomeHolderOf_37 : decode b_SU_becomeHolderOf 37 = .ok (.aload_n 0, 1) := by decide +kernel
theorem d_SU_becomeHolderOf_38 : decode b_SU_becomeHolderOf 38 = .ok (.iload_n 3, 1) := by decide +kernel
theorem d_SU_becomeHolderOf_39 : decode b_SU_becomeHolderOf 39 = .ok (.invokevirtual 55, 3) := by decide +kernel
theorem d_SU_becomeHolderOf_42 : decode b_SU_becomeHolderOf 42 = .ok (.iinc 3 1, 3) := by decide +kernel
theorem d_SU_becomeHolderOf_45 : decode b_SU_becomeHolderOf 45 = .ok (.goto (-39), 3) := by decide +kernel
theorem d_SU_becomeHolderOf_48 : decode b_SU_becomeHolderOf 48 = .ok (.return_, 1) := by decide +kernel
theorem d_SU_becomeTrivial_0 : decode b_SU_becomeTrivial 0 = .ok (.iconst 0, 1) := by decide +kernel
theorem d_SU_becomeTrivial_1 : decode b_SU_becomeTrivial 1 = .ok (.istore_n 1, 1) := by decide +kernel
theorem d_SU_becomeTrivial_2 : decode b_SU_becomeTrivial 2 = .ok (.iload_n 1, 1) := by decide +kernel
theorem d_SU_becomeTrivial_3 : decode b_SU_becomeTrivial 3 = .ok (.aload_n 0, 1) := by decide +kernel
theorem d_SU_becomeTrivial_4 : decode b_SU_becomeTrivial 4 = .ok (.getfield 23, 3) := by decide +kernel
theorem d_SU_becomeTrivial_7 : decode b_SU_becomeTrivial 7 = .ok (.arraylength, 1) := by decide +kernel
theorem d_SU_becomeTrivial_8 : decode b_SU_becomeTrivial 8 = .ok (.if_icmp .ge 16, 3) := by decide +kernel
theorem d_SU_becomeTrivial_11 : decode b_SU_becomeTrivial 11 = .ok (.aload_n 0, 1) := by decide +kernel
theorem d_SU_becomeTrivial_12 : decode b_SU_becomeTrivial 12 = .ok (.getfield 23, 3) := by decide +kernel
theorem d_SU_becomeTrivial_15 : decode b_SU_becomeTrivial 15 = .ok (.iload_n 1, 1) := by decide +kernel
theorem d_SU_becomeTrivial_16 : decode b_SU_becomeTrivial 16 = .ok (.lconst 0, 1) := by decide +kernel
theorem d_SU_becomeTrivial_17 : decode b_SU_becomeTrivial 17 = .ok (.lastore, 1) := by decide +kernel
theorem d_SU_becomeTrivial_18 : decode b_SU_becomeTrivial 18 = .ok (.iinc 1 1, 3) := by decide +kernel
theorem d_SU_becomeTrivial_21 : decode b_SU_becomeTrivial 21 = .ok (.goto (-19), 3) := by decide +kernel
theorem d_SU_becomeTrivial_24 : decode b_SU_becomeTrivial 24 = .ok (.aload_n 0, 1) := by decide +kernel
theorem d_SU_becomeTrivial_25 : decode b_SU_becomeTrivial 25 = .ok (.iconst 0, 1) := by decide +kernel
theorem d_SU_becomeTrivial_26 : decode b_SU_becomeTrivial 26 = .ok (.invokevirtual 33, 3) := by decide +kernel
theorem d_SU_becomeTrivial_29 : decode b_SU_becomeTrivial 29 = .ok (.aload_n 0, 1) := by decide +kernel
theorem d_SU_becomeTrivial_30 : decode b_SU_becomeTrivial 30 = .ok (.iconst 1, 1) := by decide +kernel
theorem d_SU_becomeTrivial_31 : decode b_SU_becomeTrivial 31 = .ok (.putfield 37, 3) := by decide +kernel
theorem d_SU_becomeTrivial_34 : decode b_SU_becomeTrivial 34 = .ok (.aload_n 0, 1) := by decide +kernel
theorem d_SU_becomeTrivial_35 : decode b_SU_becomeTrivial 35 = .ok (.iconst 0, 1) := by decide +kernel
theorem d_SU_becomeTrivial_36 : decode b_SU_becomeTrivial 36 = .ok (.putfield 38, 3) := by decide +kernel
theorem d_SU_becomeTrivial_39 : decode b_SU_becomeTrivial 39 = .ok (.return_, 1) := by decide +kernel
theorem d_SU_growUntilKeptBy_0 : decode b_SU_growUntilKeptBy 0 = .ok (.iconst 0, 1) := by decide +kernel
theorem d_SU_growUntilKeptBy_1 : decode b_SU_growUntilKeptBy 1 = .ok (.istore_n 2, 1) := by decide +kernel
theorem d_SU_growUntilKeptBy_2 : decode b_SU_growUntilKeptBy 2 = .ok (.iload_n 2, 1) := by decide +kernel
theorem d_SU_growUntilKeptBy_3 : decode b_SU_growUntilKeptBy 3 = .ok (.aload_n 0, 1) := by decide +kernel
theorem d_SU_growUntilKeptBy_4 : decode b_SU_growUntilKeptBy 4 = .ok (.getfield 38, 3) := by decide +kernel
theorem d_SU_growUntilKeptBy_7 : decode b_SU_growUntilKeptBy 7 = .ok (.if_icmp .ge 54, 3) := by decide +kernel
theorem d_SU_growUntilKeptBy_10 : decode b_SU_growUntilKeptBy 10 = .ok (.iload_n 2, 1) := by decide +kernel
theorem d_SU_growUntilKeptBy_11 : decode b_SU_growUntilKeptBy 11 = .ok (.bipush 10, 2) := by decide +kernel
theorem d_SU_growUntilKeptBy_13 : decode b_SU_growUntilKeptBy 13 = .ok (.if_icmp .ge 48, 3) := by decide +kernel
theorem d_SU_growUntilKeptBy_16 : decode b_SU_growUntilKeptBy 16 = .ok (.iconst 0, 1) := by decide +kernel
theorem d_SU_growUntilKeptBy_17 : decode b_SU_growUntilKeptBy 17 = .ok (.istore_n 3, 1) := by decide +kernel
theorem d_SU_growUntilKeptBy_18 : decode b_SU_growUntilKeptBy 18 = .ok (.iload_n 3, 1) := by decide +kernel
theorem d_SU_growUntilKeptBy_19 : decode b_SU_growUntilKeptBy 19 = .ok (.aload_n 1, 1) := by decide +kernel
theorem d_SU_growUntilKeptBy_20 : decode b_SU_growUntilKeptBy 20 = .ok (.getfield 38, 3) := by decide +kernel
theorem d_SU_growUntilKeptBy_23 : decode b_SU_growUntilKeptBy 23 = .ok (.if_icmp .ge 32, 3) := by decide +kernel
theorem d_SU_growUntilKeptBy_26 : decode b_SU_growUntilKeptBy 26 = .ok (.aload_n 0, 1) := by decide +kernel
theorem d_SU_growUntilKeptBy_27 : decode b_SU_growUntilKeptBy 27 = .ok (.aload_n 0, 1) := by decide +kernel
theorem d_SU_growUntilKeptBy_28 : decode b_SU_growUntilKeptBy 28 = .ok (.getfield 7, 3) := by decide +kernel
theorem d_SU_growUntilKeptBy_31 : decode b_SU_growUntilKeptBy 31 = .ok (.aload_n 0, 1) := by decide +kernel
theorem d_SU_growUntilKeptBy_32 : decode b_SU_growUntilKeptBy 32 = .ok (.getfield 27, 3) := by decide +kernel
theorem d_SU_growUntilKeptBy_35 : decode b_SU_growUntilKeptBy 35 = .ok (.iload_n 2, 1) := by decide +kernel
theorem d_SU_growUntilKeptBy_36 : decode b_SU_growUntilKeptBy 36 = .ok (.iaload, 1) := by decide +kernel
theorem d_SU_growUntilKeptBy_37 : decode b_SU_growUntilKeptBy 37 = .ok (.aload_n 1, 1) := by decide +kernel
theorem d_SU_growUntilKeptBy_38 : decode b_SU_growUntilKeptBy 38 = .ok (.getfield 27, 3) := by decide +kernel
theorem d_SU_growUntilKeptBy_41 : decode b_SU_growUntilKeptBy 41 = .ok (.iload_n 3, 1) := by decide +kernel
theorem d_SU_growUntilKeptBy_42 : decode b_SU_growUntilKeptBy 42 = .ok (.iaload, 1) := by decide +kernel
theorem d_SU_growUntilKeptBy_43 : decode b_SU_growUntilKeptBy 43 = .ok (.invokevirtual 66, 3) := by decide +kernel
theorem d_SU_growUntilKeptBy_46 : decode b_SU_growUntilKeptBy 46 = .ok (.invokevirtual 55, 3) := by decide +kernel
theorem d_SU_growUntilKeptBy_49 : decode b_SU_growUntilKeptBy 49 = .ok (.iinc 3 1, 3) := by decide +kernel
theorem d_SU_growUntilKeptBy_52 : decode b_SU_growUntilKeptBy 52 = .ok (.goto (-34), 3) := by decide +kernel
theorem d_SU_growUntilKeptBy_55 : decode b_SU_growUntilKeptBy 55 = .ok (.iinc 2 1, 3) := by decide +kernel
theorem d_SU_growUntilKeptBy_58 : decode b_SU_growUntilKeptBy 58 = .ok (.goto (-56), 3) := by decide +kernel
theorem d_SU_growUntilKeptBy_61 : decode b_SU_growUntilKeptBy 61 = .ok (.return_, 1) := by decide +kernel
theorem d_SU_has_0 : decode b_SU_has 0 = .ok (.aload_n 0, 1) := by decide +kernel
theorem d_SU_has_1 : decode b_SU_has 1 = .ok (.getfield 23, 3) := by decide +kernel
theorem d_SU_has_4 : decode b_SU_has 4 = .ok (.iload_n 1, 1) := by decide +kernel
theorem d_SU_has_5 : decode b_SU_has 5 = .ok (.bipush 64, 2) := by decide +kernel
theorem d_SU_has_7 : decode b_SU_has 7 = .ok (.idiv, 1) := by decide +kernel
theorem d_SU_has_8 : decode b_SU_has 8 = .ok (.laload, 1) := by decide +kernel
theorem d_SU_has_9 : decode b_SU_has 9 = .ok (.iload_n 1, 1) := by decide +kernel
theorem d_SU_has_10 : decode b_SU_has 10 = .ok (.bipush 64, 2) := by decide +kernel
theorem d_SU_has_12 : decode b_SU_has 12 = .ok (.irem, 1) := by decide +kernel
theorem d_SU_has_13 : decode b_SU_has 13 = .ok (.lushr, 1) := by decide +kernel
theorem d_SU_has_14 : decode b_SU_has 14 = .ok (.lconst 1, 1) := by decide +kernel
theorem d_SU_has_15 : decode b_SU_has 15 = .ok (.land, 1) := by decide +kernel
theorem d_SU_has_16 : decode b_SU_has 16 = .ok (.lconst 0, 1) := by decide +kernel
theorem d_SU_has_17 : decode b_SU_has 17 = .ok (.lcmp, 1) := by decide +kernel
theorem d_SU_has_18 : decode b_SU_has 18 = .ok (.ifCond .eq 7, 3) := by decide +kernel
theorem d_SU_has_21 : decode b_SU_has 21 = .ok (.iconst 1, 1) := by decide +kernel
theorem d_SU_has_22 : decode b_SU_has 22 = .ok (.goto 4, 3) := by decide +kernel
theorem d_SU_has_25 : decode b_SU_has 25 = .ok (.iconst 0, 1) := by decide +kernel
theorem d_SU_has_26 : decode b_SU_has 26 = .ok (.ireturn, 1) := by decide +kernel
theorem d_SU_isKeptBy_0 : decode b_SU_isKeptBy 0 = .ok (.iconst 0, 1) := by decide +kernel
theorem d_SU_isKeptBy_1 : decode b_SU_isKeptBy 1 = .ok (.istore_n 2, 1) := by decide +kernel
theorem d_SU_isKeptBy_2 : decode b_SU_isKeptBy 2 = .ok (.iload_n 2, 1) := by decide +kernel
theorem d_SU_isKeptBy_3 : decode b_SU_isKeptBy 3 = .ok (.aload_n 0, 1) := by decide +kernel
theorem d_SU_isKeptBy_4 : decode b_SU_isKeptBy 4 = .ok (.getfield 38, 3) := by decide +kernel
theorem d_SU_isKeptBy_7 : decode b_SU_isKeptBy 7 = .ok (.if_icmp .ge 53, 3) := by decide +kernel
theorem d_SU_isKeptBy_10 : decode b_SU_isKeptBy 10 = .ok (.iconst 0, 1) := by decide +kernel
theorem d_SU_isKeptBy_11 : decode b_SU_isKeptBy 11 = .ok (.istore_n 3, 1) := by decide +kernel
theorem d_SU_isKeptBy_12 : decode b_SU_isKeptBy 12 = .ok (.iload_n 3, 1) := by decide +kernel
theorem d_SU_isKeptBy_13 : decode b_SU_isKeptBy 13 = .ok (.aload_n 1, 1) := by decide +kernel
theorem d_SU_isKeptBy_14 : decode b_SU_isKeptBy 14 = .ok (.getfield 38, 3) := by decide +kernel
theorem d_SU_isKeptBy_17 : decode b_SU_isKeptBy 17 = .ok (.if_icmp .ge 37, 3) := by decide +kernel
theorem d_SU_isKeptBy_20 : decode b_SU_isKeptBy 20 = .ok (.aload_n 0, 1) := by decide +kernel
theorem d_SU_isKeptBy_21 : decode b_SU_isKeptBy 21 = .ok (.aload_n 0, 1) := by decide +kernel
theorem d_SU_isKeptBy_22 : decode b_SU_isKeptBy 22 = .ok (.getfield 7, 3) := by decide +kernel
theorem d_SU_isKeptBy_25 : decode b_SU_isKeptBy 25 = .ok (.aload_n 0, 1) := by decide +kernel
theorem d_SU_isKeptBy_26 : decode b_SU_isKeptBy 26 = .ok (.getfield 27, 3) := by decide +kernel
theorem d_SU_isKeptBy_29 : decode b_SU_isKeptBy 29 = .ok (.iload_n 2, 1) := by decide +kernel
theorem d_SU_isKeptBy_30 : decode b_SU_isKeptBy 30 = .ok (.iaload, 1) := by decide +kernel
theorem d_SU_isKeptBy_31 : decode b_SU_isKeptBy 31 = .ok (.aload_n 1, 1) := by decide +kernel
theorem d_SU_isKeptBy_32 : decode b_SU_isKeptBy 32 = .ok (.getfield 27, 3) := by decide +kernel
theorem d_SU_isKeptBy_35 : decode b_SU_isKeptBy 35 = .ok (.iload_n 3, 1) := by decide +kernel
theorem d_SU_isKeptBy_36 : decode b_SU_isKeptBy 36 = .ok (.iaload, 1) := by decide +kernel
theorem d_SU_isKeptBy_37 : decode b_SU_isKeptBy 37 = .ok (.invokevirtual 66, 3) := by decide +kernel
theorem d_SU_isKeptBy_40 : decode b_SU_isKeptBy 40 = .ok (.invokevirtual 47, 3) := by decide +kernel
theorem d_SU_isKeptBy_43 : decode b_SU_isKeptBy 43 = .ok (.ifCond .ne 5, 3) := by decide +kernel
theorem d_SU_isKeptBy_46 : decode b_SU_isKeptBy 46 = .ok (.iconst 0, 1) := by decide +kernel
theorem d_SU_isKeptBy_47 : decode b_SU_isKeptBy 47 = .ok (.ireturn, 1) := by decide +kernel
theorem d_SU_isKeptBy_48 : decode b_SU_isKeptBy 48 = .ok (.iinc 3 1, 3) := by decide +kernel
theorem d_SU_isKeptBy_51 : decode b_SU_isKeptBy 51 = .ok (.goto (-39), 3) := by decide +kernel
theorem d_SU_isKeptBy_54 : decode b_SU_isKeptBy 54 = .ok (.iinc 2 1, 3) := by decide +kernel
theorem d_SU_isKeptBy_57 : decode b_SU_isKeptBy 57 = .ok (.goto (-55), 3) := by decide +kernel
theorem d_SU_isKeptBy_60 : decode b_SU_isKeptBy 60 = .ok (.iconst 1, 1) := by decide +kernel
theorem d_SU_isKeptBy_61 : decode b_SU_isKeptBy 61 = .ok (.ireturn, 1) := by decide +kernel
theorem d_SU_leastOfCoset_0 : decode b_SU_leastOfCoset 0 = .ok (.iload_n 1, 1) := by decide +kernel
theorem d_SU_leastOfCoset_1 : decode b_SU_leastOfCoset 1 = .ok (.istore_n 2, 1) := by decide +kernel
theorem d_SU_leastOfCoset_2 : decode b_SU_leastOfCoset 2 = .ok (.iconst 0, 1) := by decide +kernel
theorem d_SU_leastOfCoset_3 : decode b_SU_leastOfCoset 3 = .ok (.istore_n 3, 1) := by decide +kernel
theorem d_SU_leastOfCoset_4 : decode b_SU_leastOfCoset 4 = .ok (.iload_n 3, 1) := by decide +kernel
theorem d_SU_leastOfCoset_5 : decode b_SU_leastOfCoset 5 = .ok (.aload_n 0, 1) := by decide +kernel
theorem d_SU_leastOfCoset_6 : decode b_SU_leastOfCoset 6 = .ok (.getfield 7, 3) := by decide +kernel
theorem d_SU_leastOfCoset_9 : decode b_SU_leastOfCoset 9 = .ok (.getfield 17, 3) := by decide +kernel
theorem d_SU_leastOfCoset_12 : decode b_SU_leastOfCoset 12 = .ok (.if_icmp .ge 31, 3) := by decide +kernel
theorem d_SU_leastOfCoset_15 : decode b_SU_leastOfCoset 15 = .ok (.aload_n 0, 1) := by decide +kernel
theorem d_SU_leastOfCoset_16 : decode b_SU_leastOfCoset 16 = .ok (.iload_n 3, 1) := by decide +kernel
theorem d_SU_leastOfCoset_17 : decode b_SU_leastOfCoset 17 = .ok (.invokevirtual 47, 3) := by decide +kernel
theorem d_SU_leastOfCoset_20 : decode b_SU_leastOfCoset 20 = .ok (.ifCond .eq 17, 3) := by decide +kernel
theorem d_SU_leastOfCoset_23 : decode b_SU_leastOfCoset 23 = .ok (.iload_n 2, 1) := by decide +kernel
theorem d_SU_leastOfCoset_24 : decode b_SU_leastOfCoset 24 = .ok (.aload_n 0, 1) := by decide +kernel
theorem d_SU_leastOfCoset_25 : decode b_SU_leastOfCoset 25 = .ok (.getfield 7, 3) := by decide +kernel
theorem d_SU_leastOfCoset_28 : decode b_SU_leastOfCoset 28 = .ok (.iload_n 1, 1) := by decide +kernel
theorem d_SU_leastOfCoset_29 : decode b_SU_leastOfCoset 29 = .ok (.iload_n 3, 1) := by decide +kernel
theorem d_SU_leastOfCoset_30 : decode b_SU_leastOfCoset 30 = .ok (.invokevirtual 76, 3) := by decide +kernel
theorem d_SU_leastOfCoset_33 : decode b_SU_leastOfCoset 33 = .ok (.invokestatic 79, 3) := by decide +kernel
theorem d_SU_leastOfCoset_36 : decode b_SU_leastOfCoset 36 = .ok (.istore_n 2, 1) := by decide +kernel
theorem d_SU_leastOfCoset_37 : decode b_SU_leastOfCoset 37 = .ok (.iinc 3 1, 3) := by decide +kernel
theorem d_SU_leastOfCoset_40 : decode b_SU_leastOfCoset 40 = .ok (.goto (-36), 3) := by decide +kernel
theorem d_SU_leastOfCoset_43 : decode b_SU_leastOfCoset 43 = .ok (.iload_n 2, 1) := by decide +kernel
theorem d_SU_leastOfCoset_44 : decode b_SU_leastOfCoset 44 = .ok (.ireturn, 1) := by decide +kernel
theorem d_SU_liesIn_0 : decode b_SU_liesIn 0 = .ok (.iconst 0, 1) := by decide +kernel
theorem d_SU_liesIn_1 : decode b_SU_liesIn 1 = .ok (.istore_n 2, 1) := by decide +kernel
theorem d_SU_liesIn_2 : decode b_SU_liesIn 2 = .ok (.iload_n 2, 1) := by decide +kernel
theorem d_SU_liesIn_3 : decode b_SU_liesIn 3 = .ok (.aload_n 0, 1) := by decide +kernel
theorem d_SU_liesIn_4 : decode b_SU_liesIn 4 = .ok (.getfield 23, 3) := by decide +kernel
theorem d_SU_liesIn_7 : decode b_SU_liesIn 7 = .ok (.arraylength, 1) := by decide +kernel
theorem d_SU_liesIn_8 : decode b_SU_liesIn 8 = .ok (.if_icmp .ge 33, 3) := by decide +kernel
theorem d_SU_liesIn_11 : decode b_SU_liesIn 11 = .ok (.aload_n 0, 1) := by decide +kernel
theorem d_SU_liesIn_12 : decode b_SU_liesIn 12 = .ok (.getfield 23, 3) := by decide +kernel
theorem d_SU_liesIn_15 : decode b_SU_liesIn 15 = .ok (.iload_n 2, 1) := by decide +kernel
theorem d_SU_liesIn_16 : decode b_SU_liesIn 16 = .ok (.laload, 1) := by decide +kernel
theorem d_SU_liesIn_17 : decode b_SU_liesIn 17 = .ok (.aload_n 1, 1) := by decide +kernel
theorem d_SU_liesIn_18 : decode b_SU_liesIn 18 = .ok (.getfield 23, 3) := by decide +kernel
theorem d_SU_liesIn_21 : decode b_SU_liesIn 21 = .ok (.iload_n 2, 1) := by decide +kernel
theorem d_SU_liesIn_22 : decode b_SU_liesIn 22 = .ok (.laload, 1) := by decide +kernel
theorem d_SU_liesIn_23 : decode b_SU_liesIn 23 = .ok (.ldc2_w 87, 3) := by decide +kernel
theorem d_SU_liesIn_26 : decode b_SU_liesIn 26 = .ok (.lxor, 1) := by decide +kernel
theorem d_SU_liesIn_27 : decode b_SU_liesIn 27 = .ok (.land, 1) := by decide +kernel
theorem d_SU_liesIn_28 : decode b_SU_liesIn 28 = .ok (.lconst 0, 1) := by decide +kernel
theorem d_SU_liesIn_29 : decode b_SU_liesIn 29 = .ok (.lcmp, 1) := by decide +kernel
theorem d_SU_liesIn_30 : decode b_SU_liesIn 30 = .ok (.ifCond .eq 5, 3) := by decide +kernel
theorem d_SU_liesIn_33 : decode b_SU_liesIn 33 = .ok (.iconst 0, 1) := by decide +kernel
theorem d_SU_liesIn_34 : decode b_SU_liesIn 34 = .ok (.ireturn, 1) := by decide +kernel
theorem d_SU_liesIn_35 : decode b_SU_liesIn 35 = .ok (.iinc 2 1, 3) := by decide +kernel
theorem d_SU_liesIn_38 : decode b_SU_liesIn 38 = .ok (.goto (-36), 3) := by decide +kernel
theorem d_SU_liesIn_41 : decode b_SU_liesIn 41 = .ok (.iconst 1, 1) := by decide +kernel
theorem d_SU_liesIn_42 : decode b_SU_liesIn 42 = .ok (.ireturn, 1) := by decide +kernel
theorem d_SU_listMembers_0 : decode b_SU_listMembers 0 = .ok (.iconst 0, 1) := by decide +kernel
theorem d_SU_listMembers_1 : decode b_SU_listMembers 1 = .ok (.istore_n 1, 1) := by decide +kernel
theorem d_SU_listMembers_2 : decode b_SU_listMembers 2 = .ok (.iconst 0, 1) := by decide +kernel
theorem d_SU_listMembers_3 : decode b_SU_listMembers 3 = .ok (.istore_n 2, 1) := by decide +kernel
theorem d_SU_listMembers_4 : decode b_SU_listMembers 4 = .ok (.iload_n 2, 1) := by decide +kernel
theorem d_SU_listMembers_5 : decode b_SU_listMembers 5 = .ok (.aload_n 0, 1) := by decide +kernel
theorem d_SU_listMembers_6 : decode b_SU_listMembers 6 = .ok (.getfield 7, 3) := by decide +kernel
theorem d_SU_listMembers_9 : decode b_SU_listMembers 9 = .ok (.getfield 17, 3) := by decide +kernel
theorem d_SU_listMembers_12 : decode b_SU_listMembers 12 = .ok (.if_icmp .ge 27, 3) := by decide +kernel
theorem d_SU_listMembers_15 : decode b_SU_listMembers 15 = .ok (.aload_n 0, 1) := by decide +kernel
theorem d_SU_listMembers_16 : decode b_SU_listMembers 16 = .ok (.iload_n 2, 1) := by decide +kernel
theorem d_SU_listMembers_17 : decode b_SU_listMembers 17 = .ok (.invokevirtual 47, 3) := by decide +kernel
theorem d_SU_listMembers_20 : decode b_SU_listMembers 20 = .ok (.ifCond .eq 13, 3) := by decide +kernel
theorem d_SU_listMembers_23 : decode b_SU_listMembers 23 = .ok (.aload_n 0, 1) := by decide +kernel
theorem d_SU_listMembers_24 : decode b_SU_listMembers 24 = .ok (.getfield 13, 3) := by decide +kernel
theorem d_SU_listMembers_27 : decode b_SU_listMembers 27 = .ok (.iload_n 1, 1) := by decide +kernel
theorem d_SU_listMembers_28 : decode b_SU_listMembers 28 = .ok (.iload_n 2, 1) := by decide +kernel
theorem d_SU_listMembers_29 : decode b_SU_listMembers 29 = .ok (.iastore, 1) := by decide +kernel
theorem d_SU_listMembers_30 : decode b_SU_listMembers 30 = .ok (.iinc 1 1, 3) := by decide +kernel
theorem d_SU_listMembers_33 : decode b_SU_listMembers 33 = .ok (.iinc 2 1, 3) := by decide +kernel
theorem d_SU_listMembers_36 : decode b_SU_listMembers 36 = .ok (.goto (-32), 3) := by decide +kernel
theorem d_SU_listMembers_39 : decode b_SU_listMembers 39 = .ok (.return_, 1) := by decide +kernel
theorem d_SU_mark_0 : decode b_SU_mark 0 = .ok (.aload_n 0, 1) := by decide +kernel
theorem d_SU_mark_1 : decode b_SU_mark 1 = .ok (.getfield 23, 3) := by decide +kernel
theorem d_SU_mark_4 : decode b_SU_mark 4 = .ok (.iload_n 1, 1) := by decide +kernel
theorem d_SU_mark_5 : decode b_SU_mark 5 = .ok (.bipush 64, 2) := by decide +kernel
theorem d_SU_mark_7 : decode b_SU_mark 7 = .ok (.idiv, 1) := by decide +kernel
theorem d_SU_mark_8 : decode b_SU_mark 8 = .ok (.dup2, 1) := by decide +kernel
theorem d_SU_mark_9 : decode b_SU_mark 9 = .ok (.laload, 1) := by decide +kernel
theorem d_SU_mark_10 : decode b_SU_mark 10 = .ok (.lconst 1, 1) := by decide +kernel
theorem d_SU_mark_11 : decode b_SU_mark 11 = .ok (.iload_n 1, 1) := by decide +kernel
theorem d_SU_mark_12 : decode b_SU_mark 12 = .ok (.bipush 64, 2) := by decide +kernel
theorem d_SU_mark_14 : decode b_SU_mark 14 = .ok (.irem, 1) := by decide +kernel
theorem d_SU_mark_15 : decode b_SU_mark 15 = .ok (.lshl, 1) := by decide +kernel
theorem d_SU_mark_16 : decode b_SU_mark 16 = .ok (.lor, 1) := by decide +kernel
theorem d_SU_mark_17 : decode b_SU_mark 17 = .ok (.lastore, 1) := by decide +kernel
theorem d_SU_mark_18 : decode b_SU_mark 18 = .ok (.return_, 1) := by decide +kernel
theorem d_SU_member_0 : decode b_SU_member 0 = .ok (.iload_n 1, 1) := by decide +kernel
theorem d_SU_member_1 : decode b_SU_member 1 = .ok (.istore_n 2, 1) := by decide +kernel
theorem d_SU_member_2 : decode b_SU_member 2 = .ok (.iconst 0, 1) := by decide +kernel
theorem d_SU_member_3 : decode b_SU_member 3 = .ok (.istore_n 3, 1) := by decide +kernel
theorem d_SU_member_4 : decode b_SU_member 4 = .ok (.iload_n 3, 1) := by decide +kernel
theorem d_SU_member_5 : decode b_SU_member 5 = .ok (.aload_n 0, 1) := by decide +kernel
theorem d_SU_member_6 : decode b_SU_member 6 = .ok (.getfield 7, 3) := by decide +kernel
theorem d_SU_member_9 : decode b_SU_member 9 = .ok (.getfield 17, 3) := by decide +kernel
theorem d_SU_member_12 : decode b_SU_member 12 = .ok (.if_icmp .ge 26, 3) := by decide +kernel
theorem d_SU_member_15 : decode b_SU_member 15 = .ok (.aload_n 0, 1) := by decide +kernel
theorem d_SU_member_16 : decode b_SU_member 16 = .ok (.iload_n 3, 1) := by decide +kernel
theorem d_SU_member_17 : decode b_SU_member 17 = .ok (.invokevirtual 47, 3) := by decide +kernel
theorem d_SU_member_20 : decode b_SU_member 20 = .ok (.ifCond .eq 12, 3) := by decide +kernel
theorem d_SU_member_23 : decode b_SU_member 23 = .ok (.iload_n 2, 1) := by decide +kernel
theorem d_SU_member_24 : decode b_SU_member 24 = .ok (.ifCond .ne 5, 3) := by decide +kernel
theorem d_SU_member_27 : decode b_SU_member 27 = .ok (.iload_n 3, 1) := by decide +kernel
theorem d_SU_member_28 : decode b_SU_member 28 = .ok (.ireturn, 1) := by decide +kernel
theorem d_SU_member_29 : decode b_SU_member 29 = .ok (.iinc 2 (-1), 3) := by decide +kernel
theorem d_SU_member_32 : decode b_SU_member 32 = .ok (.iinc 3 1, 3) := by decide +kernel
theorem d_SU_member_35 : decode b_SU_member 35 = .ok (.goto (-31), 3) := by decide +kernel
theorem d_SU_member_38 : decode b_SU_member 38 = .ok (.iconst 0, 1) := by decide +kernel
theorem d_SU_member_39 : decode b_SU_member 39 = .ok (.ireturn, 1) := by decide +kernel
theorem d_SU_pointsReachedFrom_0 : decode b_SU_pointsReachedFrom 0 = .ok (.iconst 0, 1) := by decide +kernel
theorem d_SU_pointsReachedFrom_1 : decode b_SU_pointsReachedFrom 1 = .ok (.istore_n 2, 1) := by decide +kernel
theorem d_SU_pointsReachedFrom_2 : decode b_SU_pointsReachedFrom 2 = .ok (.iconst 0, 1) := by decide +kernel
theorem d_SU_pointsReachedFrom_3 : decode b_SU_pointsReachedFrom 3 = .ok (.istore_n 3, 1) := by decide +kernel
theorem d_SU_pointsReachedFrom_4 : decode b_SU_pointsReachedFrom 4 = .ok (.iload_n 3, 1) := by decide +kernel
theorem d_SU_pointsReachedFrom_5 : decode b_SU_pointsReachedFrom 5 = .ok (.aload_n 0, 1) := by decide +kernel
theorem d_SU_pointsReachedFrom_6 : decode b_SU_pointsReachedFrom 6 = .ok (.getfield 7, 3) := by decide +kernel
theorem d_SU_pointsReachedFrom_9 : decode b_SU_pointsReachedFrom 9 = .ok (.getfield 17, 3) := by decide +kernel
theorem d_SU_pointsReachedFrom_12 : decode b_SU_pointsReachedFrom 12 = .ok (.if_icmp .ge 31, 3) := by decide +kernel
theorem d_SU_pointsReachedFrom_15 : decode b_SU_pointsReachedFrom 15 = .ok (.aload_n 0, 1) := by decide +kernel
theorem d_SU_pointsReachedFrom_16 : decode b_SU_pointsReachedFrom 16 = .ok (.iload_n 3, 1) := by decide +kernel
theorem d_SU_pointsReachedFrom_17 : decode b_SU_pointsReachedFrom 17 = .ok (.invokevirtual 47, 3) := by decide +kernel
theorem d_SU_pointsReachedFrom_20 : decode b_SU_pointsReachedFrom 20 = .ok (.ifCond .eq 17, 3) := by decide +kernel
theorem d_SU_pointsReachedFrom_23 : decode b_SU_pointsReachedFrom 23 = .ok (.iload_n 2, 1) := by decide +kernel
theorem d_SU_pointsReachedFrom_24 : decode b_SU_pointsReachedFrom 24 = .ok (.iconst 1, 1) := by decide +kernel
theorem d_SU_pointsReachedFrom_25 : decode b_SU_pointsReachedFrom 25 = .ok (.aload_n 0, 1) := by decide +kernel
theorem d_SU_pointsReachedFrom_26 : decode b_SU_pointsReachedFrom 26 = .ok (.getfield 7, 3) := by decide +kernel
theorem d_SU_pointsReachedFrom_29 : decode b_SU_pointsReachedFrom 29 = .ok (.iload_n 3, 1) := by decide +kernel
theorem d_SU_pointsReachedFrom_30 : decode b_SU_pointsReachedFrom 30 = .ok (.iload_n 1, 1) := by decide +kernel
theorem d_SU_pointsReachedFrom_31 : decode b_SU_pointsReachedFrom 31 = .ok (.invokevirtual 84, 3) := by decide +kernel
theorem d_SU_pointsReachedFrom_34 : decode b_SU_pointsReachedFrom 34 = .ok (.ishl, 1) := by decide +kernel
theorem d_SU_pointsReachedFrom_35 : decode b_SU_pointsReachedFrom 35 = .ok (.ior, 1) := by decide +kernel
theorem d_SU_pointsReachedFrom_36 : decode b_SU_pointsReachedFrom 36 = .ok (.istore_n 2, 1) := by decide +kernel
theorem d_SU_pointsReachedFrom_37 : decode b_SU_pointsReachedFrom 37 = .ok (.iinc 3 1, 3) := by decide +kernel
theorem d_SU_pointsReachedFrom_40 : decode b_SU_pointsReachedFrom 40 = .ok (.goto (-36), 3) := by decide +kernel
theorem d_SU_pointsReachedFrom_43 : decode b_SU_pointsReachedFrom 43 = .ok (.iload_n 2, 1) := by decide +kernel
theorem d_SU_pointsReachedFrom_44 : decode b_SU_pointsReachedFrom 44 = .ok (.ireturn, 1) := by decide +kernel
