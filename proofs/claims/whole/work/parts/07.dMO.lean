theorem d_MO_init_0 : decode b_MO_init 0 = .ok (.aload_n 0, 1) := by decide +kernel
theorem d_MO_init_1 : decode b_MO_init 1 = .ok (.invokespecial 1, 3) := by decide +kernel
theorem d_MO_init_4 : decode b_MO_init 4 = .ok (.aload_n 0, 1) := by decide +kernel
theorem d_MO_init_5 : decode b_MO_init 5 = .ok (.sipush 720, 3) := by decide +kernel
theorem d_MO_init_8 : decode b_MO_init 8 = .ok (.newarray .int, 2) := by decide +kernel
theorem d_MO_init_10 : decode b_MO_init 10 = .ok (.putfield 7, 3) := by decide +kernel
theorem d_MO_init_13 : decode b_MO_init 13 = .ok (.aload_n 0, 1) := by decide +kernel
theorem d_MO_init_14 : decode b_MO_init 14 = .ok (.iconst 1, 1) := by decide +kernel
theorem d_MO_init_15 : decode b_MO_init 15 = .ok (.putfield 13, 3) := by decide +kernel
theorem d_MO_init_18 : decode b_MO_init 18 = .ok (.aload_n 0, 1) := by decide +kernel
theorem d_MO_init_19 : decode b_MO_init 19 = .ok (.bipush 40, 2) := by decide +kernel
theorem d_MO_init_21 : decode b_MO_init 21 = .ok (.newarray .int, 2) := by decide +kernel
theorem d_MO_init_23 : decode b_MO_init 23 = .ok (.putfield 17, 3) := by decide +kernel
theorem d_MO_init_26 : decode b_MO_init 26 = .ok (.aload_n 0, 1) := by decide +kernel
theorem d_MO_init_27 : decode b_MO_init 27 = .ok (.sipush 180, 3) := by decide +kernel
theorem d_MO_init_30 : decode b_MO_init 30 = .ok (.newarray .long, 2) := by decide +kernel
theorem d_MO_init_32 : decode b_MO_init 32 = .ok (.putfield 20, 3) := by decide +kernel
theorem d_MO_init_35 : decode b_MO_init 35 = .ok (.aload_n 0, 1) := by decide +kernel
theorem d_MO_init_36 : decode b_MO_init 36 = .ok (.bipush 15, 2) := by decide +kernel
theorem d_MO_init_38 : decode b_MO_init 38 = .ok (.newarray .int, 2) := by decide +kernel
theorem d_MO_init_40 : decode b_MO_init 40 = .ok (.putfield 24, 3) := by decide +kernel
theorem d_MO_init_43 : decode b_MO_init 43 = .ok (.aload_n 0, 1) := by decide +kernel
theorem d_MO_init_44 : decode b_MO_init 44 = .ok (.sipush 300, 3) := by decide +kernel
theorem d_MO_init_47 : decode b_MO_init 47 = .ok (.newarray .int, 2) := by decide +kernel
theorem d_MO_init_49 : decode b_MO_init 49 = .ok (.putfield 27, 3) := by decide +kernel
theorem d_MO_init_52 : decode b_MO_init 52 = .ok (.aload_n 0, 1) := by decide +kernel
theorem d_MO_init_53 : decode b_MO_init 53 = .ok (.sipush 720, 3) := by decide +kernel
theorem d_MO_init_56 : decode b_MO_init 56 = .ok (.newarray .int, 2) := by decide +kernel
theorem d_MO_init_58 : decode b_MO_init 58 = .ok (.putfield 30, 3) := by decide +kernel
theorem d_MO_init_61 : decode b_MO_init 61 = .ok (.aload_n 0, 1) := by decide +kernel
theorem d_MO_init_62 : decode b_MO_init 62 = .ok (.bipush 40, 2) := by decide +kernel
theorem d_MO_init_64 : decode b_MO_init 64 = .ok (.newarray .int, 2) := by decide +kernel
theorem d_MO_init_66 : decode b_MO_init 66 = .ok (.putfield 33, 3) := by decide +kernel
theorem d_MO_init_69 : decode b_MO_init 69 = .ok (.aload_n 0, 1) := by decide +kernel
theorem d_MO_init_70 : decode b_MO_init 70 = .ok (.iload_n 1, 1) := by decide +kernel
theorem d_MO_init_71 : decode b_MO_init 71 = .ok (.iconst 2, 1) := by decide +kernel
theorem d_MO_init_72 : decode b_MO_init 72 = .ok (.if_icmp .lt 13, 3) := by decide +kernel
theorem d_MO_init_75 : decode b_MO_init 75 = .ok (.iload_n 1, 1) := by decide +kernel
theorem d_MO_init_76 : decode b_MO_init 76 = .ok (.bipush 6, 2) := by decide +kernel
theorem d_MO_init_78 : decode b_MO_init 78 = .ok (.if_icmp .gt 7, 3) := by decide +kernel
theorem d_MO_init_81 : decode b_MO_init 81 = .ok (.iload_n 1, 1) := by decide +kernel
theorem d_MO_init_82 : decode b_MO_init 82 = .ok (.goto 4, 3) := by decide +kernel
theorem d_MO_init_85 : decode b_MO_init 85 = .ok (.iconst 4, 1) := by decide +kernel
theorem d_MO_init_86 : decode b_MO_init 86 = .ok (.putfield 36, 3) := by decide +kernel
theorem d_MO_init_89 : decode b_MO_init 89 = .ok (.iconst 1, 1) := by decide +kernel
theorem d_MO_init_90 : decode b_MO_init 90 = .ok (.istore_n 2, 1) := by decide +kernel
theorem d_MO_init_91 : decode b_MO_init 91 = .ok (.iconst 2, 1) := by decide +kernel
theorem d_MO_init_92 : decode b_MO_init 92 = .ok (.istore_n 3, 1) := by decide +kernel
theorem d_MO_init_93 : decode b_MO_init 93 = .ok (.iload_n 3, 1) := by decide +kernel
theorem d_MO_init_94 : decode b_MO_init 94 = .ok (.aload_n 0, 1) := by decide +kernel
theorem d_MO_init_95 : decode b_MO_init 95 = .ok (.getfield 36, 3) := by decide +kernel
theorem d_MO_init_98 : decode b_MO_init 98 = .ok (.if_icmp .gt 13, 3) := by decide +kernel
theorem d_MO_init_101 : decode b_MO_init 101 = .ok (.iload_n 2, 1) := by decide +kernel
theorem d_MO_init_102 : decode b_MO_init 102 = .ok (.iload_n 3, 1) := by decide +kernel
theorem d_MO_init_103 : decode b_MO_init 103 = .ok (.imul, 1) := by decide +kernel
theorem d_MO_init_104 : decode b_MO_init 104 = .ok (.istore_n 2, 1) := by decide +kernel
theorem d_MO_init_105 : decode b_MO_init 105 = .ok (.iinc 3 1, 3) := by decide +kernel
theorem d_MO_init_108 : decode b_MO_init 108 = .ok (.goto (-15), 3) := by decide +kernel
theorem d_MO_init_111 : decode b_MO_init 111 = .ok (.aload_n 0, 1) := by decide +kernel
theorem d_MO_init_112 : decode b_MO_init 112 = .ok (.iload_n 2, 1) := by decide +kernel
theorem d_MO_init_113 : decode b_MO_init 113 = .ok (.putfield 39, 3) := by decide +kernel
theorem d_MO_init_116 : decode b_MO_init 116 = .ok (.iconst 0, 1) := by decide +kernel
theorem d_MO_init_117 : decode b_MO_init 117 = .ok (.istore_n 3, 1) := by decide +kernel
theorem d_MO_init_118 : decode b_MO_init 118 = .ok (.iload_n 3, 1) := by decide +kernel
theorem d_MO_init_119 : decode b_MO_init 119 = .ok (.aload_n 0, 1) := by decide +kernel
theorem d_MO_init_120 : decode b_MO_init 120 = .ok (.getfield 39, 3) := by decide +kernel
theorem d_MO_init_123 : decode b_MO_init 123 = .ok (.if_icmp .ge 20, 3) := by decide +kernel
theorem d_MO_init_126 : decode b_MO_init 126 = .ok (.aload_n 0, 1) := by decide +kernel
theorem d_MO_init_127 : decode b_MO_init 127 = .ok (.getfield 7, 3) := by decide +kernel
theorem d_MO_init_130 : decode b_MO_init 130 = .ok (.iload_n 3, 1) := by decide +kernel
theorem d_MO_init_131 : decode b_MO_init 131 = .ok (.aload_n 0, 1) := by decide +kernel
theorem d_MO_init_132 : decode b_MO_init 132 = .ok (.iload_n 3, 1) := by decide +kernel
theorem d_MO_init_133 : decode b_MO_init 133 = .ok (.invokevirtual 42, 3) := by decide +kernel
theorem d_MO_init_136 : decode b_MO_init 136 = .ok (.iastore, 1) := by decide +kernel
theorem d_MO_init_137 : decode b_MO_init 137 = .ok (.iinc 3 1, 3) := by decide +kernel
theorem d_MO_init_140 : decode b_MO_init 140 = .ok (.goto (-22), 3) := by decide +kernel
theorem d_MO_init_143 : decode b_MO_init 143 = .ok (.return_, 1) := by decide +kernel
theorem d_MO_clear_0 : decode b_MO_clear 0 = .ok (.aload_n 0, 1) := by decide +kernel
theorem d_MO_clear_1 : decode b_MO_clear 1 = .ok (.getfield 95, 3) := by decide +kernel
theorem d_MO_clear_4 : decode b_MO_clear 4 = .ok (.istore_n 1, 1) := by decide +kernel
theorem d_MO_clear_5 : decode b_MO_clear 5 = .ok (.aload_n 0, 1) := by decide +kernel
theorem d_MO_clear_6 : decode b_MO_clear 6 = .ok (.iconst 0, 1) := by decide +kernel
theorem d_MO_clear_7 : decode b_MO_clear 7 = .ok (.putfield 95, 3) := by decide +kernel
theorem d_MO_clear_10 : decode b_MO_clear 10 = .ok (.aload_n 0, 1) := by decide +kernel
theorem d_MO_clear_11 : decode b_MO_clear 11 = .ok (.iconst 1, 1) := by decide +kernel
theorem d_MO_clear_12 : decode b_MO_clear 12 = .ok (.putfield 13, 3) := by decide +kernel
theorem d_MO_clear_15 : decode b_MO_clear 15 = .ok (.aload_n 0, 1) := by decide +kernel
theorem d_MO_clear_16 : decode b_MO_clear 16 = .ok (.iconst 0, 1) := by decide +kernel
theorem d_MO_clear_17 : decode b_MO_clear 17 = .ok (.putfield 89, 3) := by decide +kernel
theorem d_MO_clear_20 : decode b_MO_clear 20 = .ok (.iload_n 1, 1) := by decide +kernel
theorem d_MO_clear_21 : decode b_MO_clear 21 = .ok (.ireturn, 1) := by decide +kernel
theorem d_MO_close_0 : decode b_MO_close 0 = .ok (.iconst 0, 1) := by decide +kernel
theorem d_MO_close_1 : decode b_MO_close 1 = .ok (.istore 4, 2) := by decide +kernel
theorem d_MO_close_3 : decode b_MO_close 3 = .ok (.iload 4, 2) := by decide +kernel
theorem d_MO_close_5 : decode b_MO_close 5 = .ok (.aload_n 0, 1) := by decide +kernel
theorem d_MO_close_6 : decode b_MO_close 6 = .ok (.getfield 39, 3) := by decide +kernel
theorem d_MO_close_9 : decode b_MO_close 9 = .ok (.if_icmp .ge 62, 3) := by decide +kernel
theorem d_MO_close_12 : decode b_MO_close 12 = .ok (.iconst 0, 1) := by decide +kernel
theorem d_MO_close_13 : decode b_MO_close 13 = .ok (.istore 5, 2) := by decide +kernel
theorem d_MO_close_15 : decode b_MO_close 15 = .ok (.iload 5, 2) := by decide +kernel
theorem d_MO_close_17 : decode b_MO_close 17 = .ok (.aload_n 0, 1) := by decide +kernel
theorem d_MO_close_18 : decode b_MO_close 18 = .ok (.getfield 24, 3) := by decide +kernel
theorem d_MO_close_21 : decode b_MO_close 21 = .ok (.iload_n 2, 1) := by decide +kernel
theorem d_MO_close_22 : decode b_MO_close 22 = .ok (.iaload, 1) := by decide +kernel
theorem d_MO_close_23 : decode b_MO_close 23 = .ok (.if_icmp .ge 42, 3) := by decide +kernel
theorem d_MO_close_26 : decode b_MO_close 26 = .ok (.aload_n 0, 1) := by decide +kernel
theorem d_MO_close_27 : decode b_MO_close 27 = .ok (.iload_n 1, 1) := by decide +kernel
theorem d_MO_close_28 : decode b_MO_close 28 = .ok (.iload 4, 2) := by decide +kernel
theorem d_MO_close_30 : decode b_MO_close 30 = .ok (.invokevirtual 57, 3) := by decide +kernel
theorem d_MO_close_33 : decode b_MO_close 33 = .ok (.ifCond .eq 32, 3) := by decide +kernel
theorem d_MO_close_36 : decode b_MO_close 36 = .ok (.aload_n 0, 1) := by decide +kernel
theorem d_MO_close_37 : decode b_MO_close 37 = .ok (.iload_n 3, 1) := by decide +kernel
theorem d_MO_close_38 : decode b_MO_close 38 = .ok (.aload_n 0, 1) := by decide +kernel
theorem d_MO_close_39 : decode b_MO_close 39 = .ok (.iload 4, 2) := by decide +kernel
theorem d_MO_close_41 : decode b_MO_close 41 = .ok (.aload_n 0, 1) := by decide +kernel
theorem d_MO_close_42 : decode b_MO_close 42 = .ok (.getfield 27, 3) := by decide +kernel
theorem d_MO_close_45 : decode b_MO_close 45 = .ok (.bipush 20, 2) := by decide +kernel
theorem d_MO_close_47 : decode b_MO_close 47 = .ok (.iload_n 2, 1) := by decide +kernel
theorem d_MO_close_48 : decode b_MO_close 48 = .ok (.imul, 1) := by decide +kernel
theorem d_MO_close_49 : decode b_MO_close 49 = .ok (.iload 5, 2) := by decide +kernel
theorem d_MO_close_51 : decode b_MO_close 51 = .ok (.iadd, 1) := by decide +kernel
theorem d_MO_close_52 : decode b_MO_close 52 = .ok (.iaload, 1) := by decide +kernel
theorem d_MO_close_53 : decode b_MO_close 53 = .ok (.invokevirtual 75, 3) := by decide +kernel
theorem d_MO_close_56 : decode b_MO_close 56 = .ok (.invokevirtual 78, 3) := by decide +kernel
theorem d_MO_close_59 : decode b_MO_close 59 = .ok (.iinc 5 1, 3) := by decide +kernel
theorem d_MO_close_62 : decode b_MO_close 62 = .ok (.goto (-47), 3) := by decide +kernel
theorem d_MO_close_65 : decode b_MO_close 65 = .ok (.iinc 4 1, 3) := by decide +kernel
theorem d_MO_close_68 : decode b_MO_close 68 = .ok (.goto (-65), 3) := by decide +kernel
theorem d_MO_close_71 : decode b_MO_close 71 = .ok (.return_, 1) := by decide +kernel
theorem d_MO_closure_0 : decode b_MO_closure 0 = .ok (.aload_n 0, 1) := by decide +kernel
theorem d_MO_closure_1 : decode b_MO_closure 1 = .ok (.iload_n 1, 1) := by decide +kernel
theorem d_MO_closure_2 : decode b_MO_closure 2 = .ok (.invokevirtual 102, 3) := by decide +kernel
theorem d_MO_closure_5 : decode b_MO_closure 5 = .ok (.ifCond .eq 20, 3) := by decide +kernel
theorem d_MO_closure_8 : decode b_MO_closure 8 = .ok (.aload_n 0, 1) := by decide +kernel
theorem d_MO_closure_9 : decode b_MO_closure 9 = .ok (.iload_n 2, 1) := by decide +kernel
theorem d_MO_closure_10 : decode b_MO_closure 10 = .ok (.invokevirtual 102, 3) := by decide +kernel
theorem d_MO_closure_13 : decode b_MO_closure 13 = .ok (.ifCond .eq 12, 3) := by decide +kernel
theorem d_MO_closure_16 : decode b_MO_closure 16 = .ok (.aload_n 0, 1) := by decide +kernel
theorem d_MO_closure_17 : decode b_MO_closure 17 = .ok (.getfield 95, 3) := by decide +kernel
theorem d_MO_closure_20 : decode b_MO_closure 20 = .ok (.bipush 12, 2) := by decide +kernel
theorem d_MO_closure_22 : decode b_MO_closure 22 = .ok (.if_icmp .lt 5, 3) := by decide +kernel
theorem d_MO_closure_25 : decode b_MO_closure 25 = .ok (.iconst (-1), 1) := by decide +kernel
theorem d_MO_closure_26 : decode b_MO_closure 26 = .ok (.ireturn, 1) := by decide +kernel
theorem d_MO_closure_27 : decode b_MO_closure 27 = .ok (.aload_n 0, 1) := by decide +kernel
theorem d_MO_closure_28 : decode b_MO_closure 28 = .ok (.invokevirtual 108, 3) := by decide +kernel
theorem d_MO_closure_31 : decode b_MO_closure 31 = .ok (.istore_n 3, 1) := by decide +kernel
theorem d_MO_closure_32 : decode b_MO_closure 32 = .ok (.aload_n 0, 1) := by decide +kernel
theorem d_MO_closure_33 : decode b_MO_closure 33 = .ok (.iload_n 1, 1) := by decide +kernel
theorem d_MO_closure_34 : decode b_MO_closure 34 = .ok (.iload_n 2, 1) := by decide +kernel
theorem d_MO_closure_35 : decode b_MO_closure 35 = .ok (.iload_n 3, 1) := by decide +kernel
theorem d_MO_closure_36 : decode b_MO_closure 36 = .ok (.invokevirtual 118, 3) := by decide +kernel
theorem d_MO_closure_39 : decode b_MO_closure 39 = .ok (.iload_n 3, 1) := by decide +kernel
theorem d_MO_closure_40 : decode b_MO_closure 40 = .ok (.ireturn, 1) := by decide +kernel
theorem d_MO_compare_0 : decode b_MO_compare 0 = .ok (.aload_n 0, 1) := by decide +kernel
theorem d_MO_compare_1 : decode b_MO_compare 1 = .ok (.iload_n 1, 1) := by decide +kernel
theorem d_MO_compare_2 : decode b_MO_compare 2 = .ok (.invokevirtual 102, 3) := by decide +kernel
theorem d_MO_compare_5 : decode b_MO_compare 5 = .ok (.ifCond .eq 11, 3) := by decide +kernel
theorem d_MO_compare_8 : decode b_MO_compare 8 = .ok (.aload_n 0, 1) := by decide +kernel
theorem d_MO_compare_9 : decode b_MO_compare 9 = .ok (.iload_n 2, 1) := by decide +kernel
theorem d_MO_compare_10 : decode b_MO_compare 10 = .ok (.invokevirtual 102, 3) := by decide +kernel
theorem d_MO_compare_13 : decode b_MO_compare 13 = .ok (.ifCond .ne 5, 3) := by decide +kernel
theorem d_MO_compare_16 : decode b_MO_compare 16 = .ok (.iconst (-1), 1) := by decide +kernel
theorem d_MO_compare_17 : decode b_MO_compare 17 = .ok (.ireturn, 1) := by decide +kernel
theorem d_MO_compare_18 : decode b_MO_compare 18 = .ok (.aload_n 0, 1) := by decide +kernel
theorem d_MO_compare_19 : decode b_MO_compare 19 = .ok (.iload_n 1, 1) := by decide +kernel
theorem d_MO_compare_20 : decode b_MO_compare 20 = .ok (.iload_n 2, 1) := by decide +kernel
theorem d_MO_compare_21 : decode b_MO_compare 21 = .ok (.invokevirtual 115, 3) := by decide +kernel
theorem d_MO_compare_24 : decode b_MO_compare 24 = .ok (.ifCond .eq 7, 3) := by decide +kernel
theorem d_MO_compare_27 : decode b_MO_compare 27 = .ok (.iconst 1, 1) := by decide +kernel
theorem d_MO_compare_28 : decode b_MO_compare 28 = .ok (.goto 4, 3) := by decide +kernel
theorem d_MO_compare_31 : decode b_MO_compare 31 = .ok (.iconst 0, 1) := by decide +kernel
theorem d_MO_compare_32 : decode b_MO_compare 32 = .ok (.aload_n 0, 1) := by decide +kernel
theorem d_MO_compare_33 : decode b_MO_compare 33 = .ok (.iload_n 2, 1) := by decide +kernel
theorem d_MO_compare_34 : decode b_MO_compare 34 = .ok (.iload_n 1, 1) := by decide +kernel
theorem d_MO_compare_35 : decode b_MO_compare 35 = .ok (.invokevirtual 115, 3) := by decide +kernel
theorem d_MO_compare_38 : decode b_MO_compare 38 = .ok (.ifCond .eq 7, 3) := by decide +kernel
theorem d_MO_compare_41 : decode b_MO_compare 41 = .ok (.iconst 2, 1) := by decide +kernel
theorem d_MO_compare_42 : decode b_MO_compare 42 = .ok (.goto 4, 3) := by decide +kernel
theorem d_MO_compare_45 : decode b_MO_compare 45 = .ok (.iconst 0, 1) := by decide +kernel
theorem d_MO_compare_46 : decode b_MO_compare 46 = .ok (.iadd, 1) := by decide +kernel
theorem d_MO_compare_47 : decode b_MO_compare 47 = .ok (.ireturn, 1) := by decide +kernel
theorem d_MO_contains_0 : decode b_MO_contains 0 = .ok (.aload_n 0, 1) := by decide +kernel
theorem d_MO_contains_1 : decode b_MO_contains 1 = .ok (.iload_n 1, 1) := by decide +kernel
theorem d_MO_contains_2 : decode b_MO_contains 2 = .ok (.invokevirtual 102, 3) := by decide +kernel
theorem d_MO_contains_5 : decode b_MO_contains 5 = .ok (.ifCond .eq 29, 3) := by decide +kernel
theorem d_MO_contains_8 : decode b_MO_contains 8 = .ok (.aload_n 0, 1) := by decide +kernel
theorem d_MO_contains_9 : decode b_MO_contains 9 = .ok (.iload_n 2, 1) := by decide +kernel
theorem d_MO_contains_10 : decode b_MO_contains 10 = .ok (.invokevirtual 98, 3) := by decide +kernel
theorem d_MO_contains_13 : decode b_MO_contains 13 = .ok (.ifCond .eq 21, 3) := by decide +kernel
theorem d_MO_contains_16 : decode b_MO_contains 16 = .ok (.aload_n 0, 1) := by decide +kernel
theorem d_MO_contains_17 : decode b_MO_contains 17 = .ok (.iload_n 1, 1) := by decide +kernel
theorem d_MO_contains_18 : decode b_MO_contains 18 = .ok (.aload_n 0, 1) := by decide +kernel
theorem d_MO_contains_19 : decode b_MO_contains 19 = .ok (.getfield 17, 3) := by decide +kernel
theorem d_MO_contains_22 : decode b_MO_contains 22 = .ok (.iload_n 2, 1) := by decide +kernel
theorem d_MO_contains_23 : decode b_MO_contains 23 = .ok (.iaload, 1) := by decide +kernel
theorem d_MO_contains_24 : decode b_MO_contains 24 = .ok (.invokevirtual 57, 3) := by decide +kernel
theorem d_MO_contains_27 : decode b_MO_contains 27 = .ok (.ifCond .eq 7, 3) := by decide +kernel
theorem d_MO_contains_30 : decode b_MO_contains 30 = .ok (.iconst 1, 1) := by decide +kernel
theorem d_MO_contains_31 : decode b_MO_contains 31 = .ok (.goto 4, 3) := by decide +kernel
theorem d_MO_contains_34 : decode b_MO_contains 34 = .ok (.iconst 0, 1) := by decide +kernel
theorem d_MO_contains_35 : decode b_MO_contains 35 = .ok (.ireturn, 1) := by decide +kernel
theorem d_MO_copy_0 : decode b_MO_copy 0 = .ok (.iconst 0, 1) := by decide +kernel
theorem d_MO_copy_1 : decode b_MO_copy 1 = .ok (.istore_n 3, 1) := by decide +kernel
theorem d_MO_copy_2 : decode b_MO_copy 2 = .ok (.iload_n 3, 1) := by decide +kernel
theorem d_MO_copy_3 : decode b_MO_copy 3 = .ok (.bipush 12, 2) := by decide +kernel
theorem d_MO_copy_5 : decode b_MO_copy 5 = .ok (.if_icmp .ge 31, 3) := by decide +kernel
theorem d_MO_copy_8 : decode b_MO_copy 8 = .ok (.aload_n 0, 1) := by decide +kernel
theorem d_MO_copy_9 : decode b_MO_copy 9 = .ok (.getfield 20, 3) := by decide +kernel
theorem d_MO_copy_12 : decode b_MO_copy 12 = .ok (.bipush 12, 2) := by decide +kernel
theorem d_MO_copy_14 : decode b_MO_copy 14 = .ok (.iload_n 2, 1) := by decide +kernel
theorem d_MO_copy_15 : decode b_MO_copy 15 = .ok (.imul, 1) := by decide +kernel
theorem d_MO_copy_16 : decode b_MO_copy 16 = .ok (.iload_n 3, 1) := by decide +kernel
theorem d_MO_copy_17 : decode b_MO_copy 17 = .ok (.iadd, 1) := by decide +kernel
theorem d_MO_copy_18 : decode b_MO_copy 18 = .ok (.aload_n 0, 1) := by decide +kernel
theorem d_MO_copy_19 : decode b_MO_copy 19 = .ok (.getfield 20, 3) := by decide +kernel
theorem d_MO_copy_22 : decode b_MO_copy 22 = .ok (.bipush 12, 2) := by decide +kernel
theorem d_MO_copy_24 : decode b_MO_copy 24 = .ok (.iload_n 1, 1) := by decide +kernel
theorem d_MO_copy_25 : decode b_MO_copy 25 = .ok (.imul, 1) := by decide +kernel
theorem d_MO_copy_26 : decode b_MO_copy 26 = .ok (.iload_n 3, 1) := by decide +kernel
theorem d_MO_copy_27 : decode b_MO_copy 27 = .ok (.iadd, 1) := by decide +kernel
theorem d_MO_copy_28 : decode b_MO_copy 28 = .ok (.laload, 1) := by decide +kernel
theorem d_MO_copy_29 : decode b_MO_copy 29 = .ok (.lastore, 1) := by decide +kernel
theorem d_MO_copy_30 : decode b_MO_copy 30 = .ok (.iinc 3 1, 3) := by decide +kernel
theorem d_MO_copy_33 : decode b_MO_copy 33 = .ok (.goto (-31), 3) := by decide +kernel
theorem d_MO_copy_36 : decode b_MO_copy 36 = .ok (.aload_n 0, 1) := by decide +kernel
theorem d_MO_copy_37 : decode b_MO_copy 37 = .ok (.getfield 24, 3) := by decide +kernel
theorem d_MO_copy_40 : decode b_MO_copy 40 = .ok (.iload_n 2, 1) := by decide +kernel
theorem d_MO_copy_41 : decode b_MO_copy 41 = .ok (.aload_n 0, 1) := by decide +kernel
theorem d_MO_copy_42 : decode b_MO_copy 42 = .ok (.getfield 24, 3) := by decide +kernel
theorem d_MO_copy_45 : decode b_MO_copy 45 = .ok (.iload_n 1, 1) := by decide +kernel
theorem d_MO_copy_46 : decode b_MO_copy 46 = .ok (.iaload, 1) := by decide +kernel
theorem d_MO_copy_47 : decode b_MO_copy 47 = .ok (.iastore, 1) := by decide +kernel
theorem d_MO_copy_48 : decode b_MO_copy 48 = .ok (.iconst 0, 1) := by decide +kernel
theorem d_MO_copy_49 : decode b_MO_copy 49 = .ok (.istore_n 3, 1) := by decide +kernel
theorem d_MO_copy_50 : decode b_MO_copy 50 = .ok (.iload_n 3, 1) := by decide +kernel
theorem d_MO_copy_51 : decode b_MO_copy 51 = .ok (.aload_n 0, 1) := by decide +kernel
theorem d_MO_copy_52 : decode b_MO_copy 52 = .ok (.getfield 24, 3) := by decide +kernel
theorem d_MO_copy_55 : decode b_MO_copy 55 = .ok (.iload_n 1, 1) := by decide +kernel
theorem d_MO_copy_56 : decode b_MO_copy 56 = .ok (.iaload, 1) := by decide +kernel
theorem d_MO_copy_57 : decode b_MO_copy 57 = .ok (.if_icmp .ge 31, 3) := by decide +kernel
theorem d_MO_copy_60 : decode b_MO_copy 60 = .ok (.aload_n 0, 1) := by decide +kernel
theorem d_MO_copy_61 : decode b_MO_copy 61 = .ok (.getfield 27, 3) := by decide +kernel
theorem d_MO_copy_64 : decode b_MO_copy 64 = .ok (.bipush 20, 2) := by decide +kernel
theorem d_MO_copy_66 : decode b_MO_copy 66 = .ok (.iload_n 2, 1) := by decide +kernel
theorem d_MO_copy_67 : decode b_MO_copy 67 = .ok (.imul, 1) := by decide +kernel
theorem d_MO_copy_68 : decode b_MO_copy 68 = .ok (.iload_n 3, 1) := by decide +kernel
theorem d_MO_copy_69 : decode b_MO_copy 69 = .ok (.iadd, 1) := by decide +kernel
theorem d_MO_copy_70 : decode b_MO_copy 70 = .ok (.aload_n 0, 1) := by decide +kernel
theorem d_MO_copy_71 : decode b_MO_copy 71 = .ok (.getfield 27, 3) := by decide +kernel
theorem d_MO_copy_74 : decode b_MO_copy 74 = .ok (.bipush 20, 2) := by decide +kernel
theorem d_MO_copy_76 : decode b_MO_copy 76 = .ok (.iload_n 1, 1) := by decide +kernel
theorem d_MO_copy_77 : decode b_MO_copy 77 = .ok (.imul, 1) := by decide +kernel
theorem d_MO_copy_78 : decode b_MO_copy 78 = .ok (.iload_n 3, 1) := by decide +kernel
theorem d_MO_copy_79 : decode b_MO_copy 79 = .ok (.iadd, 1) := by decide +kernel
theorem d_MO_copy_80 : decode b_MO_copy 80 = .ok (.iaload, 1) := by decide +kernel
theorem d_MO_copy_81 : decode b_MO_copy 81 = .ok (.iastore, 1) := by decide +kernel
theorem d_MO_copy_82 : decode b_MO_copy 82 = .ok (.iinc 3 1, 3) := by decide +kernel
theorem d_MO_copy_85 : decode b_MO_copy 85 = .ok (.goto (-35), 3) := by decide +kernel
theorem d_MO_copy_88 : decode b_MO_copy 88 = .ok (.return_, 1) := by decide +kernel
theorem d_MO_derive_0 : decode b_MO_derive 0 = .ok (.aload_n 0, 1) := by decide +kernel
theorem d_MO_derive_1 : decode b_MO_derive 1 = .ok (.iload_n 2, 1) := by decide +kernel
theorem d_MO_derive_2 : decode b_MO_derive 2 = .ok (.invokevirtual 81, 3) := by decide +kernel
theorem d_MO_derive_5 : decode b_MO_derive 5 = .ok (.iconst 0, 1) := by decide +kernel
theorem d_MO_derive_6 : decode b_MO_derive 6 = .ok (.istore_n 3, 1) := by decide +kernel
theorem d_MO_derive_7 : decode b_MO_derive 7 = .ok (.iload_n 3, 1) := by decide +kernel
theorem d_MO_derive_8 : decode b_MO_derive 8 = .ok (.aload_n 0, 1) := by decide +kernel
theorem d_MO_derive_9 : decode b_MO_derive 9 = .ok (.getfield 39, 3) := by decide +kernel
theorem d_MO_derive_12 : decode b_MO_derive 12 = .ok (.if_icmp .ge 83, 3) := by decide +kernel
theorem d_MO_derive_15 : decode b_MO_derive 15 = .ok (.iconst 0, 1) := by decide +kernel
theorem d_MO_derive_16 : decode b_MO_derive 16 = .ok (.istore 4, 2) := by decide +kernel
theorem d_MO_derive_18 : decode b_MO_derive 18 = .ok (.iload 4, 2) := by decide +kernel
theorem d_MO_derive_20 : decode b_MO_derive 20 = .ok (.aload_n 0, 1) := by decide +kernel
theorem d_MO_derive_21 : decode b_MO_derive 21 = .ok (.getfield 24, 3) := by decide +kernel
theorem d_MO_derive_24 : decode b_MO_derive 24 = .ok (.iload_n 1, 1) := by decide +kernel
theorem d_MO_derive_25 : decode b_MO_derive 25 = .ok (.iaload, 1) := by decide +kernel
theorem d_MO_derive_26 : decode b_MO_derive 26 = .ok (.if_icmp .ge 63, 3) := by decide +kernel
theorem d_MO_derive_29 : decode b_MO_derive 29 = .ok (.aload_n 0, 1) := by decide +kernel
theorem d_MO_derive_30 : decode b_MO_derive 30 = .ok (.iload_n 1, 1) := by decide +kernel
theorem d_MO_derive_31 : decode b_MO_derive 31 = .ok (.iload_n 3, 1) := by decide +kernel
theorem d_MO_derive_32 : decode b_MO_derive 32 = .ok (.invokevirtual 57, 3) := by decide +kernel
theorem d_MO_derive_35 : decode b_MO_derive 35 = .ok (.ifCond .eq 54, 3) := by decide +kernel
theorem d_MO_derive_38 : decode b_MO_derive 38 = .ok (.aload_n 0, 1) := by decide +kernel
theorem d_MO_derive_39 : decode b_MO_derive 39 = .ok (.getfield 27, 3) := by decide +kernel
theorem d_MO_derive_42 : decode b_MO_derive 42 = .ok (.bipush 20, 2) := by decide +kernel
theorem d_MO_derive_44 : decode b_MO_derive 44 = .ok (.iload_n 1, 1) := by decide +kernel
theorem d_MO_derive_45 : decode b_MO_derive 45 = .ok (.imul, 1) := by decide +kernel
theorem d_MO_derive_46 : decode b_MO_derive 46 = .ok (.iload 4, 2) := by decide +kernel
theorem d_MO_derive_48 : decode b_MO_derive 48 = .ok (.iadd, 1) := by decide +kernel
theorem d_MO_derive_49 : decode b_MO_derive 49 = .ok (.iaload, 1) := by decide +kernel
theorem d_MO_derive_50 : decode b_MO_derive 50 = .ok (.istore 5, 2) := by decide +kernel
theorem d_MO_derive_52 : decode b_MO_derive 52 = .ok (.aload_n 0, 1) := by decide +kernel
theorem d_MO_derive_53 : decode b_MO_derive 53 = .ok (.iload_n 2, 1) := by decide +kernel
theorem d_MO_derive_54 : decode b_MO_derive 54 = .ok (.aload_n 0, 1) := by decide +kernel
theorem d_MO_derive_55 : decode b_MO_derive 55 = .ok (.aload_n 0, 1) := by decide +kernel
theorem d_MO_derive_56 : decode b_MO_derive 56 = .ok (.aload_n 0, 1) := by decide +kernel
theorem d_MO_derive_57 : decode b_MO_derive 57 = .ok (.iload_n 3, 1) := by decide +kernel
theorem d_MO_derive_58 : decode b_MO_derive 58 = .ok (.invokevirtual 72, 3) := by decide +kernel
theorem d_MO_derive_61 : decode b_MO_derive 61 = .ok (.aload_n 0, 1) := by decide +kernel
theorem d_MO_derive_62 : decode b_MO_derive 62 = .ok (.iload 5, 2) := by decide +kernel
theorem d_MO_derive_64 : decode b_MO_derive 64 = .ok (.invokevirtual 72, 3) := by decide +kernel
theorem d_MO_derive_67 : decode b_MO_derive 67 = .ok (.invokevirtual 64, 3) := by decide +kernel
theorem d_MO_derive_70 : decode b_MO_derive 70 = .ok (.aload_n 0, 1) := by decide +kernel
theorem d_MO_derive_71 : decode b_MO_derive 71 = .ok (.iload_n 3, 1) := by decide +kernel
theorem d_MO_derive_72 : decode b_MO_derive 72 = .ok (.iload 5, 2) := by decide +kernel
theorem d_MO_derive_74 : decode b_MO_derive 74 = .ok (.invokevirtual 64, 3) := by decide +kernel
theorem d_MO_derive_77 : decode b_MO_derive 77 = .ok (.invokevirtual 64, 3) := by decide +kernel
theorem d_MO_derive_80 : decode b_MO_derive 80 = .ok (.invokevirtual 78, 3) := by decide +kernel
theorem d_MO_derive_83 : decode b_MO_derive 83 = .ok (.iinc 4 1, 3) := by decide +kernel
theorem d_MO_derive_86 : decode b_MO_derive 86 = .ok (.goto (-68), 3) := by decide +kernel
theorem d_MO_derive_89 : decode b_MO_derive 89 = .ok (.iinc 3 1, 3) := by decide +kernel
theorem d_MO_derive_92 : decode b_MO_derive 92 = .ok (.goto (-85), 3) := by decide +kernel
theorem d_MO_derive_95 : decode b_MO_derive 95 = .ok (.return_, 1) := by decide +kernel
theorem d_MO_derived_0 : decode b_MO_derived 0 = .ok (.aload_n 0, 1) := by decide +kernel
theorem d_MO_derived_1 : decode b_MO_derived 1 = .ok (.iload_n 1, 1) := by decide +kernel
theorem d_MO_derived_2 : decode b_MO_derived 2 = .ok (.invokevirtual 102, 3) := by decide +kernel
theorem d_MO_derived_5 : decode b_MO_derived 5 = .ok (.ifCond .eq 12, 3) := by decide +kernel
theorem d_MO_derived_8 : decode b_MO_derived 8 = .ok (.aload_n 0, 1) := by decide +kernel
theorem d_MO_derived_9 : decode b_MO_derived 9 = .ok (.getfield 95, 3) := by decide +kernel
theorem d_MO_derived_12 : decode b_MO_derived 12 = .ok (.bipush 12, 2) := by decide +kernel
theorem d_MO_derived_14 : decode b_MO_derived 14 = .ok (.if_icmp .lt 5, 3) := by decide +kernel
theorem d_MO_derived_17 : decode b_MO_derived 17 = .ok (.iconst (-1), 1) := by decide +kernel
theorem d_MO_derived_18 : decode b_MO_derived 18 = .ok (.ireturn, 1) := by decide +kernel
theorem d_MO_derived_19 : decode b_MO_derived 19 = .ok (.aload_n 0, 1) := by decide +kernel
theorem d_MO_derived_20 : decode b_MO_derived 20 = .ok (.invokevirtual 108, 3) := by decide +kernel
theorem d_MO_derived_23 : decode b_MO_derived 23 = .ok (.istore_n 2, 1) := by decide +kernel
theorem d_MO_derived_24 : decode b_MO_derived 24 = .ok (.aload_n 0, 1) := by decide +kernel
theorem d_MO_derived_25 : decode b_MO_derived 25 = .ok (.iload_n 1, 1) := by decide +kernel
theorem d_MO_derived_26 : decode b_MO_derived 26 = .ok (.iload_n 2, 1) := by decide +kernel
theorem d_MO_derived_27 : decode b_MO_derived 27 = .ok (.invokevirtual 122, 3) := by decide +kernel
theorem d_MO_derived_30 : decode b_MO_derived 30 = .ok (.iload_n 2, 1) := by decide +kernel
theorem d_MO_derived_31 : decode b_MO_derived 31 = .ok (.ireturn, 1) := by decide +kernel
theorem d_MO_element_0 : decode b_MO_element 0 = .ok (.aload_n 0, 1) := by decide +kernel
theorem d_MO_element_1 : decode b_MO_element 1 = .ok (.iload_n 1, 1) := by decide +kernel
theorem d_MO_element_2 : decode b_MO_element 2 = .ok (.invokevirtual 102, 3) := by decide +kernel
theorem d_MO_element_5 : decode b_MO_element 5 = .ok (.ifCond .eq 27, 3) := by decide +kernel
theorem d_MO_element_8 : decode b_MO_element 8 = .ok (.aload_n 0, 1) := by decide +kernel
theorem d_MO_element_9 : decode b_MO_element 9 = .ok (.getfield 13, 3) := by decide +kernel
theorem d_MO_element_12 : decode b_MO_element 12 = .ok (.bipush 40, 2) := by decide +kernel
theorem d_MO_element_14 : decode b_MO_element 14 = .ok (.if_icmp .ge 18, 3) := by decide +kernel
theorem d_MO_element_17 : decode b_MO_element 17 = .ok (.iload_n 2, 1) := by decide +kernel
theorem d_MO_element_18 : decode b_MO_element 18 = .ok (.iconst 0, 1) := by decide +kernel
theorem d_MO_element_19 : decode b_MO_element 19 = .ok (.aload_n 0, 1) := by decide +kernel
theorem d_MO_element_20 : decode b_MO_element 20 = .ok (.iload_n 1, 1) := by decide +kernel
theorem d_MO_element_21 : decode b_MO_element 21 = .ok (.invokevirtual 105, 3) := by decide +kernel
theorem d_MO_element_24 : decode b_MO_element 24 = .ok (.iconst 1, 1) := by decide +kernel
theorem d_MO_element_25 : decode b_MO_element 25 = .ok (.isub, 1) := by decide +kernel
theorem d_MO_element_26 : decode b_MO_element 26 = .ok (.invokestatic 85, 3) := by decide +kernel
theorem d_MO_element_29 : decode b_MO_element 29 = .ok (.ifCond .ne 5, 3) := by decide +kernel
theorem d_MO_element_32 : decode b_MO_element 32 = .ok (.iconst (-1), 1) := by decide +kernel
theorem d_MO_element_33 : decode b_MO_element 33 = .ok (.ireturn, 1) := by decide +kernel
theorem d_MO_element_34 : decode b_MO_element 34 = .ok (.iload_n 2, 1) := by decide +kernel
theorem d_MO_element_35 : decode b_MO_element 35 = .ok (.istore_n 3, 1) := by decide +kernel
theorem d_MO_element_36 : decode b_MO_element 36 = .ok (.iconst 0, 1) := by decide +kernel
theorem d_MO_element_37 : decode b_MO_element 37 = .ok (.istore 4, 2) := by decide +kernel
theorem d_MO_element_39 : decode b_MO_element 39 = .ok (.iload 4, 2) := by decide +kernel
theorem d_MO_element_41 : decode b_MO_element 41 = .ok (.aload_n 0, 1) := by decide +kernel
theorem d_MO_element_42 : decode b_MO_element 42 = .ok (.getfield 39, 3) := by decide +kernel
theorem d_MO_element_45 : decode b_MO_element 45 = .ok (.iconst 1, 1) := by decide +kernel
theorem d_MO_element_46 : decode b_MO_element 46 = .ok (.isub, 1) := by decide +kernel
theorem d_MO_element_47 : decode b_MO_element 47 = .ok (.if_icmp .ge 44, 3) := by decide +kernel
theorem d_MO_element_50 : decode b_MO_element 50 = .ok (.iload_n 3, 1) := by decide +kernel
theorem d_MO_element_51 : decode b_MO_element 51 = .ok (.ifCond .gt 13, 3) := by decide +kernel
theorem d_MO_element_54 : decode b_MO_element 54 = .ok (.aload_n 0, 1) := by decide +kernel
theorem d_MO_element_55 : decode b_MO_element 55 = .ok (.iload_n 1, 1) := by decide +kernel
theorem d_MO_element_56 : decode b_MO_element 56 = .ok (.iload 4, 2) := by decide +kernel
theorem d_MO_element_58 : decode b_MO_element 58 = .ok (.invokevirtual 57, 3) := by decide +kernel
theorem d_MO_element_61 : decode b_MO_element 61 = .ok (.ifCond .ne 30, 3) := by decide +kernel
theorem d_MO_element_64 : decode b_MO_element 64 = .ok (.aload_n 0, 1) := by decide +kernel
theorem d_MO_element_65 : decode b_MO_element 65 = .ok (.iload_n 1, 1) := by decide +kernel
theorem d_MO_element_66 : decode b_MO_element 66 = .ok (.iload 4, 2) := by decide +kernel
theorem d_MO_element_68 : decode b_MO_element 68 = .ok (.invokevirtual 57, 3) := by decide +kernel
theorem d_MO_element_71 : decode b_MO_element 71 = .ok (.ifCond .eq 9, 3) := by decide +kernel
theorem d_MO_element_74 : decode b_MO_element 74 = .ok (.iload_n 3, 1) := by decide +kernel
theorem d_MO_element_75 : decode b_MO_element 75 = .ok (.iconst 1, 1) := by decide +kernel
theorem d_MO_element_76 : decode b_MO_element 76 = .ok (.isub, 1) := by decide +kernel
theorem d_MO_element_77 : decode b_MO_element 77 = .ok (.goto 4, 3) := by decide +kernel
theorem d_MO_element_80 : decode b_MO_element 80 = .ok (.iload_n 3, 1) := by decide +kernel
theorem d_MO_element_81 : decode b_MO_element 81 = .ok (.istore_n 3, 1) := by decide +kernel
theorem d_MO_element_82 : decode b_MO_element 82 = .ok (.iload 4, 2) := by decide +kernel
theorem d_MO_element_84 : decode b_MO_element 84 = .ok (.iconst 1, 1) := by decide +kernel
theorem d_MO_element_85 : decode b_MO_element 85 = .ok (.iadd, 1) := by decide +kernel
theorem d_MO_element_86 : decode b_MO_element 86 = .ok (.istore 4, 2) := by decide +kernel
theorem d_MO_element_88 : decode b_MO_element 88 = .ok (.goto (-49), 3) := by decide +kernel
theorem d_MO_element_91 : decode b_MO_element 91 = .ok (.aload_n 0, 1) := by decide +kernel
theorem d_MO_element_92 : decode b_MO_element 92 = .ok (.iload 4, 2) := by decide +kernel
theorem d_MO_element_94 : decode b_MO_element 94 = .ok (.invokevirtual 92, 3) := by decide +kernel
theorem d_MO_element_97 : decode b_MO_element 97 = .ok (.ireturn, 1) := by decide +kernel
theorem d_MO_enlarge_0 : decode b_MO_enlarge 0 = .ok (.aload_n 0, 1) := by decide +kernel
theorem d_MO_enlarge_1 : decode b_MO_enlarge 1 = .ok (.iload_n 1, 1) := by decide +kernel
theorem d_MO_enlarge_2 : decode b_MO_enlarge 2 = .ok (.iload_n 2, 1) := by decide +kernel
theorem d_MO_enlarge_3 : decode b_MO_enlarge 3 = .ok (.invokevirtual 57, 3) := by decide +kernel
theorem d_MO_enlarge_6 : decode b_MO_enlarge 6 = .ok (.ifCond .eq 4, 3) := by decide +kernel
theorem d_MO_enlarge_9 : decode b_MO_enlarge 9 = .ok (.return_, 1) := by decide +kernel
theorem d_MO_enlarge_10 : decode b_MO_enlarge 10 = .ok (.aload_n 0, 1) := by decide +kernel
theorem d_MO_enlarge_11 : decode b_MO_enlarge 11 = .ok (.iload_n 1, 1) := by decide +kernel
theorem d_MO_enlarge_12 : decode b_MO_enlarge 12 = .ok (.bipush 14, 2) := by decide +kernel
theorem d_MO_enlarge_14 : decode b_MO_enlarge 14 = .ok (.invokevirtual 61, 3) := by decide +kernel
theorem d_MO_enlarge_17 : decode b_MO_enlarge 17 = .ok (.aload_n 0, 1) := by decide +kernel
theorem d_MO_enlarge_18 : decode b_MO_enlarge 18 = .ok (.getfield 27, 3) := by decide +kernel
theorem d_MO_enlarge_21 : decode b_MO_enlarge 21 = .ok (.bipush 20, 2) := by decide +kernel
theorem d_MO_enlarge_23 : decode b_MO_enlarge 23 = .ok (.iload_n 1, 1) := by decide +kernel
theorem d_MO_enlarge_24 : decode b_MO_enlarge 24 = .ok (.imul, 1) := by decide +kernel
theorem d_MO_enlarge_25 : decode b_MO_enlarge 25 = .ok (.aload_n 0, 1) := by decide +kernel
theorem d_MO_enlarge_26 : decode b_MO_enlarge 26 = .ok (.getfield 24, 3) := by decide +kernel
theorem d_MO_enlarge_29 : decode b_MO_enlarge 29 = .ok (.iload_n 1, 1) := by decide +kernel
theorem d_MO_enlarge_30 : decode b_MO_enlarge 30 = .ok (.iaload, 1) := by decide +kernel
theorem d_MO_enlarge_31 : decode b_MO_enlarge 31 = .ok (.iadd, 1) := by decide +kernel
theorem d_MO_enlarge_32 : decode b_MO_enlarge 32 = .ok (.iload_n 2, 1) := by decide +kernel
theorem d_MO_enlarge_33 : decode b_MO_enlarge 33 = .ok (.iastore, 1) := by decide +kernel
theorem d_MO_enlarge_34 : decode b_MO_enlarge 34 = .ok (.aload_n 0, 1) := by decide +kernel
theorem d_MO_enlarge_35 : decode b_MO_enlarge 35 = .ok (.getfield 24, 3) := by decide +kernel
theorem d_MO_enlarge_38 : decode b_MO_enlarge 38 = .ok (.iload_n 1, 1) := by decide +kernel
theorem d_MO_enlarge_39 : decode b_MO_enlarge 39 = .ok (.aload_n 0, 1) := by decide +kernel
theorem d_MO_enlarge_40 : decode b_MO_enlarge 40 = .ok (.getfield 24, 3) := by decide +kernel
theorem d_MO_enlarge_43 : decode b_MO_enlarge 43 = .ok (.iload_n 1, 1) := by decide +kernel
theorem d_MO_enlarge_44 : decode b_MO_enlarge 44 = .ok (.iaload, 1) := by decide +kernel
theorem d_MO_enlarge_45 : decode b_MO_enlarge 45 = .ok (.iconst 1, 1) := by decide +kernel
theorem d_MO_enlarge_46 : decode b_MO_enlarge 46 = .ok (.iadd, 1) := by decide +kernel
theorem d_MO_enlarge_47 : decode b_MO_enlarge 47 = .ok (.iastore, 1) := by decide +kernel
theorem d_MO_enlarge_48 : decode b_MO_enlarge 48 = .ok (.iconst 1, 1) := by decide +kernel
theorem d_MO_enlarge_49 : decode b_MO_enlarge 49 = .ok (.istore_n 3, 1) := by decide +kernel
theorem d_MO_enlarge_50 : decode b_MO_enlarge 50 = .ok (.aload_n 0, 1) := by decide +kernel
theorem d_MO_enlarge_51 : decode b_MO_enlarge 51 = .ok (.getfield 30, 3) := by decide +kernel
theorem d_MO_enlarge_54 : decode b_MO_enlarge 54 = .ok (.iconst 0, 1) := by decide +kernel
theorem d_MO_enlarge_55 : decode b_MO_enlarge 55 = .ok (.iconst 0, 1) := by decide +kernel
theorem d_MO_enlarge_56 : decode b_MO_enlarge 56 = .ok (.iastore, 1) := by decide +kernel
theorem d_MO_enlarge_57 : decode b_MO_enlarge 57 = .ok (.iconst 0, 1) := by decide +kernel
theorem d_MO_enlarge_58 : decode b_MO_enlarge 58 = .ok (.istore 4, 2) := by decide +kernel
theorem d_MO_enlarge_60 : decode b_MO_enlarge 60 = .ok (.iload 4, 2) := by decide +kernel
theorem d_MO_enlarge_62 : decode b_MO_enlarge 62 = .ok (.iload_n 3, 1) := by decide +kernel
theorem d_MO_enlarge_63 : decode b_MO_enlarge 63 = .ok (.if_icmp .ge 83, 3) := by decide +kernel
theorem d_MO_enlarge_66 : decode b_MO_enlarge 66 = .ok (.iconst 0, 1) := by decide +kernel
theorem d_MO_enlarge_67 : decode b_MO_enlarge 67 = .ok (.istore 5, 2) := by decide +kernel
theorem d_MO_enlarge_69 : decode b_MO_enlarge 69 = .ok (.iload 5, 2) := by decide +kernel
theorem d_MO_enlarge_71 : decode b_MO_enlarge 71 = .ok (.aload_n 0, 1) := by decide +kernel
theorem d_MO_enlarge_72 : decode b_MO_enlarge 72 = .ok (.getfield 24, 3) := by decide +kernel
theorem d_MO_enlarge_75 : decode b_MO_enlarge 75 = .ok (.iload_n 1, 1) := by decide +kernel
theorem d_MO_enlarge_76 : decode b_MO_enlarge 76 = .ok (.iaload, 1) := by decide +kernel
theorem d_MO_enlarge_77 : decode b_MO_enlarge 77 = .ok (.if_icmp .ge 63, 3) := by decide +kernel
theorem d_MO_enlarge_80 : decode b_MO_enlarge 80 = .ok (.aload_n 0, 1) := by decide +kernel
theorem d_MO_enlarge_81 : decode b_MO_enlarge 81 = .ok (.aload_n 0, 1) := by decide +kernel
theorem d_MO_enlarge_82 : decode b_MO_enlarge 82 = .ok (.getfield 30, 3) := by decide +kernel
theorem d_MO_enlarge_85 : decode b_MO_enlarge 85 = .ok (.iload 4, 2) := by decide +kernel
theorem d_MO_enlarge_87 : decode b_MO_enlarge 87 = .ok (.iaload, 1) := by decide +kernel
theorem d_MO_enlarge_88 : decode b_MO_enlarge 88 = .ok (.aload_n 0, 1) := by decide +kernel
theorem d_MO_enlarge_89 : decode b_MO_enlarge 89 = .ok (.getfield 27, 3) := by decide +kernel
theorem d_MO_enlarge_92 : decode b_MO_enlarge 92 = .ok (.bipush 20, 2) := by decide +kernel
theorem d_MO_enlarge_94 : decode b_MO_enlarge 94 = .ok (.iload_n 1, 1) := by decide +kernel
theorem d_MO_enlarge_95 : decode b_MO_enlarge 95 = .ok (.imul, 1) := by decide +kernel
theorem d_MO_enlarge_96 : decode b_MO_enlarge 96 = .ok (.iload 5, 2) := by decide +kernel
theorem d_MO_enlarge_98 : decode b_MO_enlarge 98 = .ok (.iadd, 1) := by decide +kernel
theorem d_MO_enlarge_99 : decode b_MO_enlarge 99 = .ok (.iaload, 1) := by decide +kernel
theorem d_MO_enlarge_100 : decode b_MO_enlarge 100 = .ok (.invokevirtual 64, 3) := by decide +kernel
theorem d_MO_enlarge_103 : decode b_MO_enlarge 103 = .ok (.istore 6, 2) := by decide +kernel
theorem d_MO_enlarge_105 : decode b_MO_enlarge 105 = .ok (.aload_n 0, 1) := by decide +kernel
theorem d_MO_enlarge_106 : decode b_MO_enlarge 106 = .ok (.iload_n 1, 1) := by decide +kernel
theorem d_MO_enlarge_107 : decode b_MO_enlarge 107 = .ok (.iload 6, 2) := by decide +kernel
theorem d_MO_enlarge_109 : decode b_MO_enlarge 109 = .ok (.invokevirtual 57, 3) := by decide +kernel
theorem d_MO_enlarge_112 : decode b_MO_enlarge 112 = .ok (.ifCond .ne 22, 3) := by decide +kernel
theorem d_MO_enlarge_115 : decode b_MO_enlarge 115 = .ok (.aload_n 0, 1) := by decide +kernel
theorem d_MO_enlarge_116 : decode b_MO_enlarge 116 = .ok (.iload_n 1, 1) := by decide +kernel
theorem d_MO_enlarge_117 : decode b_MO_enlarge 117 = .ok (.iload 6, 2) := by decide +kernel
theorem d_MO_enlarge_119 : decode b_MO_enlarge 119 = .ok (.invokevirtual 67, 3) := by decide +kernel
theorem d_MO_enlarge_122 : decode b_MO_enlarge 122 = .ok (.aload_n 0, 1) := by decide +kernel
theorem d_MO_enlarge_123 : decode b_MO_enlarge 123 = .ok (.getfield 30, 3) := by decide +kernel
theorem d_MO_enlarge_126 : decode b_MO_enlarge 126 = .ok (.iload_n 3, 1) := by decide +kernel
theorem d_MO_enlarge_127 : decode b_MO_enlarge 127 = .ok (.iload 6, 2) := by decide +kernel
theorem d_MO_enlarge_129 : decode b_MO_enlarge 129 = .ok (.iastore, 1) := by decide +kernel
theorem d_MO_enlarge_130 : decode b_MO_enlarge 130 = .ok (.iload_n 3, 1) := by decide +kernel
theorem d_MO_enlarge_131 : decode b_MO_enlarge 131 = .ok (.iconst 1, 1) := by decide +kernel
theorem d_MO_enlarge_132 : decode b_MO_enlarge 132 = .ok (.iadd, 1) := by decide +kernel
theorem d_MO_enlarge_133 : decode b_MO_enlarge 133 = .ok (.istore_n 3, 1) := by decide +kernel
theorem d_MO_enlarge_134 : decode b_MO_enlarge 134 = .ok (.iinc 5 1, 3) := by decide +kernel
theorem d_MO_enlarge_137 : decode b_MO_enlarge 137 = .ok (.goto (-68), 3) := by decide +kernel
theorem d_MO_enlarge_140 : decode b_MO_enlarge 140 = .ok (.iinc 4 1, 3) := by decide +kernel
theorem d_MO_enlarge_143 : decode b_MO_enlarge 143 = .ok (.goto (-83), 3) := by decide +kernel
theorem d_MO_enlarge_146 : decode b_MO_enlarge 146 = .ok (.return_, 1) := by decide +kernel
theorem d_MO_generate_0 : decode b_MO_generate 0 = .ok (.aload_n 0, 1) := by decide +kernel
theorem d_MO_generate_1 : decode b_MO_generate 1 = .ok (.iload_n 1, 1) := by decide +kernel
theorem d_MO_generate_2 : decode b_MO_generate 2 = .ok (.invokevirtual 102, 3) := by decide +kernel
theorem d_MO_generate_5 : decode b_MO_generate 5 = .ok (.ifCond .eq 11, 3) := by decide +kernel
theorem d_MO_generate_8 : decode b_MO_generate 8 = .ok (.aload_n 0, 1) := by decide +kernel
theorem d_MO_generate_9 : decode b_MO_generate 9 = .ok (.iload_n 2, 1) := by decide +kernel
theorem d_MO_generate_10 : decode b_MO_generate 10 = .ok (.invokevirtual 98, 3) := by decide +kernel
theorem d_MO_generate_13 : decode b_MO_generate 13 = .ok (.ifCond .ne 5, 3) := by decide +kernel
theorem d_MO_generate_16 : decode b_MO_generate 16 = .ok (.iconst (-1), 1) := by decide +kernel
theorem d_MO_generate_17 : decode b_MO_generate 17 = .ok (.ireturn, 1) := by decide +kernel
theorem d_MO_generate_18 : decode b_MO_generate 18 = .ok (.aload_n 0, 1) := by decide +kernel
theorem d_MO_generate_19 : decode b_MO_generate 19 = .ok (.iload_n 1, 1) := by decide +kernel
theorem d_MO_generate_20 : decode b_MO_generate 20 = .ok (.aload_n 0, 1) := by decide +kernel
theorem d_MO_generate_21 : decode b_MO_generate 21 = .ok (.getfield 17, 3) := by decide +kernel
theorem d_MO_generate_24 : decode b_MO_generate 24 = .ok (.iload_n 2, 1) := by decide +kernel
theorem d_MO_generate_25 : decode b_MO_generate 25 = .ok (.iaload, 1) := by decide +kernel
theorem d_MO_generate_26 : decode b_MO_generate 26 = .ok (.invokevirtual 78, 3) := by decide +kernel
theorem d_MO_generate_29 : decode b_MO_generate 29 = .ok (.aload_n 0, 1) := by decide +kernel
theorem d_MO_generate_30 : decode b_MO_generate 30 = .ok (.iload_n 1, 1) := by decide +kernel
theorem d_MO_generate_31 : decode b_MO_generate 31 = .ok (.invokevirtual 105, 3) := by decide +kernel
theorem d_MO_generate_34 : decode b_MO_generate 34 = .ok (.ireturn, 1) := by decide +kernel
theorem d_MO_group_0 : decode b_MO_group 0 = .ok (.aload_n 0, 1) := by decide +kernel
theorem d_MO_group_1 : decode b_MO_group 1 = .ok (.getfield 95, 3) := by decide +kernel
theorem d_MO_group_4 : decode b_MO_group 4 = .ok (.bipush 12, 2) := by decide +kernel
theorem d_MO_group_6 : decode b_MO_group 6 = .ok (.if_icmp .lt 5, 3) := by decide +kernel
theorem d_MO_group_9 : decode b_MO_group 9 = .ok (.iconst (-1), 1) := by decide +kernel
theorem d_MO_group_10 : decode b_MO_group 10 = .ok (.ireturn, 1) := by decide +kernel
theorem d_MO_group_11 : decode b_MO_group 11 = .ok (.aload_n 0, 1) := by decide +kernel
theorem d_MO_group_12 : decode b_MO_group 12 = .ok (.aload_n 0, 1) := by decide +kernel
theorem d_MO_group_13 : decode b_MO_group 13 = .ok (.getfield 95, 3) := by decide +kernel
theorem d_MO_group_16 : decode b_MO_group 16 = .ok (.invokevirtual 81, 3) := by decide +kernel
theorem d_MO_group_19 : decode b_MO_group 19 = .ok (.aload_n 0, 1) := by decide +kernel
theorem d_MO_group_20 : decode b_MO_group 20 = .ok (.aload_n 0, 1) := by decide +kernel
theorem d_MO_group_21 : decode b_MO_group 21 = .ok (.getfield 95, 3) := by decide +kernel
theorem d_MO_group_24 : decode b_MO_group 24 = .ok (.iconst 1, 1) := by decide +kernel
theorem d_MO_group_25 : decode b_MO_group 25 = .ok (.iadd, 1) := by decide +kernel
theorem d_MO_group_26 : decode b_MO_group 26 = .ok (.putfield 95, 3) := by decide +kernel
theorem d_MO_group_29 : decode b_MO_group 29 = .ok (.aload_n 0, 1) := by decide +kernel
theorem d_MO_group_30 : decode b_MO_group 30 = .ok (.getfield 95, 3) := by decide +kernel
theorem d_MO_group_33 : decode b_MO_group 33 = .ok (.iconst 1, 1) := by decide +kernel
theorem d_MO_group_34 : decode b_MO_group 34 = .ok (.isub, 1) := by decide +kernel
theorem d_MO_group_35 : decode b_MO_group 35 = .ok (.ireturn, 1) := by decide +kernel
theorem d_MO_has_0 : decode b_MO_has 0 = .ok (.aload_n 0, 1) := by decide +kernel
theorem d_MO_has_1 : decode b_MO_has 1 = .ok (.getfield 20, 3) := by decide +kernel
theorem d_MO_has_4 : decode b_MO_has 4 = .ok (.bipush 12, 2) := by decide +kernel
theorem d_MO_has_6 : decode b_MO_has 6 = .ok (.iload_n 1, 1) := by decide +kernel
theorem d_MO_has_7 : decode b_MO_has 7 = .ok (.imul, 1) := by decide +kernel
theorem d_MO_has_8 : decode b_MO_has 8 = .ok (.iload_n 2, 1) := by decide +kernel
theorem d_MO_has_9 : decode b_MO_has 9 = .ok (.bipush 64, 2) := by decide +kernel
theorem d_MO_has_11 : decode b_MO_has 11 = .ok (.idiv, 1) := by decide +kernel
theorem d_MO_has_12 : decode b_MO_has 12 = .ok (.iadd, 1) := by decide +kernel
theorem d_MO_has_13 : decode b_MO_has 13 = .ok (.laload, 1) := by decide +kernel
theorem d_MO_has_14 : decode b_MO_has 14 = .ok (.iload_n 2, 1) := by decide +kernel
theorem d_MO_has_15 : decode b_MO_has 15 = .ok (.bipush 64, 2) := by decide +kernel
theorem d_MO_has_17 : decode b_MO_has 17 = .ok (.irem, 1) := by decide +kernel
theorem d_MO_has_18 : decode b_MO_has 18 = .ok (.lshr, 1) := by decide +kernel
theorem d_MO_has_19 : decode b_MO_has 19 = .ok (.lconst 1, 1) := by decide +kernel
theorem d_MO_has_20 : decode b_MO_has 20 = .ok (.land, 1) := by decide +kernel
theorem d_MO_has_21 : decode b_MO_has 21 = .ok (.lconst 1, 1) := by decide +kernel
theorem d_MO_has_22 : decode b_MO_has 22 = .ok (.lcmp, 1) := by decide +kernel
theorem d_MO_has_23 : decode b_MO_has 23 = .ok (.ifCond .ne 7, 3) := by decide +kernel
theorem d_MO_has_26 : decode b_MO_has 26 = .ok (.iconst 1, 1) := by decide +kernel
theorem d_MO_has_27 : decode b_MO_has 27 = .ok (.goto 4, 3) := by decide +kernel
theorem d_MO_has_30 : decode b_MO_has 30 = .ok (.iconst 0, 1) := by decide +kernel
theorem d_MO_has_31 : decode b_MO_has 31 = .ok (.ireturn, 1) := by decide +kernel
theorem d_MO_hold_0 : decode b_MO_hold 0 = .ok (.aload_n 0, 1) := by decide +kernel
theorem d_MO_hold_1 : decode b_MO_hold 1 = .ok (.iload_n 1, 1) := by decide +kernel
theorem d_MO_hold_2 : decode b_MO_hold 2 = .ok (.invokevirtual 102, 3) := by decide +kernel
theorem d_MO_hold_5 : decode b_MO_hold 5 = .ok (.ifCond .eq 28, 3) := by decide +kernel
theorem d_MO_hold_8 : decode b_MO_hold 8 = .ok (.iload_n 2, 1) := by decide +kernel
theorem d_MO_hold_9 : decode b_MO_hold 9 = .ok (.iconst 0, 1) := by decide +kernel
theorem d_MO_hold_10 : decode b_MO_hold 10 = .ok (.iconst 1, 1) := by decide +kernel
theorem d_MO_hold_11 : decode b_MO_hold 11 = .ok (.aload_n 0, 1) := by decide +kernel
theorem d_MO_hold_12 : decode b_MO_hold 12 = .ok (.getfield 36, 3) := by decide +kernel
theorem d_MO_hold_15 : decode b_MO_hold 15 = .ok (.ishl, 1) := by decide +kernel
theorem d_MO_hold_16 : decode b_MO_hold 16 = .ok (.iconst 1, 1) := by decide +kernel
theorem d_MO_hold_17 : decode b_MO_hold 17 = .ok (.isub, 1) := by decide +kernel
theorem d_MO_hold_18 : decode b_MO_hold 18 = .ok (.invokestatic 85, 3) := by decide +kernel
theorem d_MO_hold_21 : decode b_MO_hold 21 = .ok (.ifCond .eq 12, 3) := by decide +kernel
theorem d_MO_hold_24 : decode b_MO_hold 24 = .ok (.aload_n 0, 1) := by decide +kernel
theorem d_MO_hold_25 : decode b_MO_hold 25 = .ok (.getfield 95, 3) := by decide +kernel
theorem d_MO_hold_28 : decode b_MO_hold 28 = .ok (.bipush 12, 2) := by decide +kernel
theorem d_MO_hold_30 : decode b_MO_hold 30 = .ok (.if_icmp .lt 5, 3) := by decide +kernel
theorem d_MO_hold_33 : decode b_MO_hold 33 = .ok (.iconst (-1), 1) := by decide +kernel
theorem d_MO_hold_34 : decode b_MO_hold 34 = .ok (.ireturn, 1) := by decide +kernel
theorem d_MO_hold_35 : decode b_MO_hold 35 = .ok (.aload_n 0, 1) := by decide +kernel
theorem d_MO_hold_36 : decode b_MO_hold 36 = .ok (.invokevirtual 108, 3) := by decide +kernel
theorem d_MO_hold_39 : decode b_MO_hold 39 = .ok (.istore_n 3, 1) := by decide +kernel
theorem d_MO_hold_40 : decode b_MO_hold 40 = .ok (.iconst 0, 1) := by decide +kernel
theorem d_MO_hold_41 : decode b_MO_hold 41 = .ok (.istore 4, 2) := by decide +kernel
theorem d_MO_hold_43 : decode b_MO_hold 43 = .ok (.iload 4, 2) := by decide +kernel
theorem d_MO_hold_45 : decode b_MO_hold 45 = .ok (.aload_n 0, 1) := by decide +kernel
theorem d_MO_hold_46 : decode b_MO_hold 46 = .ok (.getfield 39, 3) := by decide +kernel
theorem d_MO_hold_49 : decode b_MO_hold 49 = .ok (.if_icmp .ge 36, 3) := by decide +kernel
theorem d_MO_hold_52 : decode b_MO_hold 52 = .ok (.aload_n 0, 1) := by decide +kernel
theorem d_MO_hold_53 : decode b_MO_hold 53 = .ok (.iload_n 1, 1) := by decide +kernel
theorem d_MO_hold_54 : decode b_MO_hold 54 = .ok (.iload 4, 2) := by decide +kernel
theorem d_MO_hold_56 : decode b_MO_hold 56 = .ok (.invokevirtual 57, 3) := by decide +kernel
theorem d_MO_hold_59 : decode b_MO_hold 59 = .ok (.ifCond .eq 20, 3) := by decide +kernel
theorem d_MO_hold_62 : decode b_MO_hold 62 = .ok (.aload_n 0, 1) := by decide +kernel
theorem d_MO_hold_63 : decode b_MO_hold 63 = .ok (.iload 4, 2) := by decide +kernel
theorem d_MO_hold_65 : decode b_MO_hold 65 = .ok (.iload_n 2, 1) := by decide +kernel
theorem d_MO_hold_66 : decode b_MO_hold 66 = .ok (.invokevirtual 112, 3) := by decide +kernel
theorem d_MO_hold_69 : decode b_MO_hold 69 = .ok (.ifCond .eq 10, 3) := by decide +kernel
theorem d_MO_hold_72 : decode b_MO_hold 72 = .ok (.aload_n 0, 1) := by decide +kernel
theorem d_MO_hold_73 : decode b_MO_hold 73 = .ok (.iload_n 3, 1) := by decide +kernel
theorem d_MO_hold_74 : decode b_MO_hold 74 = .ok (.iload 4, 2) := by decide +kernel
theorem d_MO_hold_76 : decode b_MO_hold 76 = .ok (.invokevirtual 78, 3) := by decide +kernel
theorem d_MO_hold_79 : decode b_MO_hold 79 = .ok (.iinc 4 1, 3) := by decide +kernel
theorem d_MO_hold_82 : decode b_MO_hold 82 = .ok (.goto (-39), 3) := by decide +kernel
theorem d_MO_hold_85 : decode b_MO_hold 85 = .ok (.iload_n 3, 1) := by decide +kernel
theorem d_MO_hold_86 : decode b_MO_hold 86 = .ok (.ireturn, 1) := by decide +kernel
theorem d_MO_holds_0 : decode b_MO_holds 0 = .ok (.iconst 1, 1) := by decide +kernel
theorem d_MO_holds_1 : decode b_MO_holds 1 = .ok (.istore_n 3, 1) := by decide +kernel
theorem d_MO_holds_2 : decode b_MO_holds 2 = .ok (.iconst 0, 1) := by decide +kernel
theorem d_MO_holds_3 : decode b_MO_holds 3 = .ok (.istore 4, 2) := by decide +kernel
theorem d_MO_holds_5 : decode b_MO_holds 5 = .ok (.iload 4, 2) := by decide +kernel
theorem d_MO_holds_7 : decode b_MO_holds 7 = .ok (.aload_n 0, 1) := by decide +kernel
theorem d_MO_holds_8 : decode b_MO_holds 8 = .ok (.getfield 36, 3) := by decide +kernel
theorem d_MO_holds_11 : decode b_MO_holds 11 = .ok (.if_icmp .ge 40, 3) := by decide +kernel
theorem d_MO_holds_14 : decode b_MO_holds 14 = .ok (.iload_n 3, 1) := by decide +kernel
theorem d_MO_holds_15 : decode b_MO_holds 15 = .ok (.ifCond .eq 28, 3) := by decide +kernel
theorem d_MO_holds_18 : decode b_MO_holds 18 = .ok (.iload_n 2, 1) := by decide +kernel
theorem d_MO_holds_19 : decode b_MO_holds 19 = .ok (.iload 4, 2) := by decide +kernel
theorem d_MO_holds_21 : decode b_MO_holds 21 = .ok (.ishr, 1) := by decide +kernel
theorem d_MO_holds_22 : decode b_MO_holds 22 = .ok (.iconst 1, 1) := by decide +kernel
theorem d_MO_holds_23 : decode b_MO_holds 23 = .ok (.iand, 1) := by decide +kernel
theorem d_MO_holds_24 : decode b_MO_holds 24 = .ok (.ifCond .eq 15, 3) := by decide +kernel
theorem d_MO_holds_27 : decode b_MO_holds 27 = .ok (.aload_n 0, 1) := by decide +kernel
theorem d_MO_holds_28 : decode b_MO_holds 28 = .ok (.iload_n 1, 1) := by decide +kernel
theorem d_MO_holds_29 : decode b_MO_holds 29 = .ok (.iload 4, 2) := by decide +kernel
theorem d_MO_holds_31 : decode b_MO_holds 31 = .ok (.invokevirtual 46, 3) := by decide +kernel
theorem d_MO_holds_34 : decode b_MO_holds 34 = .ok (.iload 4, 2) := by decide +kernel
theorem d_MO_holds_36 : decode b_MO_holds 36 = .ok (.if_icmp .ne 7, 3) := by decide +kernel
theorem d_MO_holds_39 : decode b_MO_holds 39 = .ok (.iconst 1, 1) := by decide +kernel
theorem d_MO_holds_40 : decode b_MO_holds 40 = .ok (.goto 4, 3) := by decide +kernel
theorem d_MO_holds_43 : decode b_MO_holds 43 = .ok (.iconst 0, 1) := by decide +kernel
theorem d_MO_holds_44 : decode b_MO_holds 44 = .ok (.istore_n 3, 1) := by decide +kernel
theorem d_MO_holds_45 : decode b_MO_holds 45 = .ok (.iinc 4 1, 3) := by decide +kernel
theorem d_MO_holds_48 : decode b_MO_holds 48 = .ok (.goto (-43), 3) := by decide +kernel
theorem d_MO_holds_51 : decode b_MO_holds 51 = .ok (.iload_n 3, 1) := by decide +kernel
theorem d_MO_holds_52 : decode b_MO_holds 52 = .ok (.ireturn, 1) := by decide +kernel
theorem d_MO_image_0 : decode b_MO_image 0 = .ok (.aload_n 0, 1) := by decide +kernel
theorem d_MO_image_1 : decode b_MO_image 1 = .ok (.getfield 7, 3) := by decide +kernel
theorem d_MO_image_4 : decode b_MO_image 4 = .ok (.iload_n 1, 1) := by decide +kernel
theorem d_MO_image_5 : decode b_MO_image 5 = .ok (.iaload, 1) := by decide +kernel
theorem d_MO_image_6 : decode b_MO_image 6 = .ok (.iconst 3, 1) := by decide +kernel
theorem d_MO_image_7 : decode b_MO_image 7 = .ok (.iload_n 2, 1) := by decide +kernel
theorem d_MO_image_8 : decode b_MO_image 8 = .ok (.imul, 1) := by decide +kernel
theorem d_MO_image_9 : decode b_MO_image 9 = .ok (.ishr, 1) := by decide +kernel
theorem d_MO_image_10 : decode b_MO_image 10 = .ok (.bipush 7, 2) := by decide +kernel
theorem d_MO_image_12 : decode b_MO_image 12 = .ok (.iand, 1) := by decide +kernel
theorem d_MO_image_13 : decode b_MO_image 13 = .ok (.ireturn, 1) := by decide +kernel
theorem d_MO_images_0 : decode b_MO_images 0 = .ok (.aload_n 0, 1) := by decide +kernel
theorem d_MO_images_1 : decode b_MO_images 1 = .ok (.iload_n 1, 1) := by decide +kernel
theorem d_MO_images_2 : decode b_MO_images 2 = .ok (.invokevirtual 98, 3) := by decide +kernel
theorem d_MO_images_5 : decode b_MO_images 5 = .ok (.ifCond .ne 5, 3) := by decide +kernel
theorem d_MO_images_8 : decode b_MO_images 8 = .ok (.iconst (-1), 1) := by decide +kernel
theorem d_MO_images_9 : decode b_MO_images 9 = .ok (.ireturn, 1) := by decide +kernel
theorem d_MO_images_10 : decode b_MO_images 10 = .ok (.iconst 0, 1) := by decide +kernel
theorem d_MO_images_11 : decode b_MO_images 11 = .ok (.istore_n 2, 1) := by decide +kernel
theorem d_MO_images_12 : decode b_MO_images 12 = .ok (.iconst 0, 1) := by decide +kernel
theorem d_MO_images_13 : decode b_MO_images 13 = .ok (.istore_n 3, 1) := by decide +kernel
theorem d_MO_images_14 : decode b_MO_images 14 = .ok (.iload_n 3, 1) := by decide +kernel
theorem d_MO_images_15 : decode b_MO_images 15 = .ok (.aload_n 0, 1) := by decide +kernel
theorem d_MO_images_16 : decode b_MO_images 16 = .ok (.getfield 36, 3) := by decide +kernel
theorem d_MO_images_19 : decode b_MO_images 19 = .ok (.if_icmp .ge 26, 3) := by decide +kernel
theorem d_MO_images_22 : decode b_MO_images 22 = .ok (.bipush 10, 2) := by decide +kernel
theorem d_MO_images_24 : decode b_MO_images 24 = .ok (.iload_n 2, 1) := by decide +kernel
theorem d_MO_images_25 : decode b_MO_images 25 = .ok (.imul, 1) := by decide +kernel
theorem d_MO_images_26 : decode b_MO_images 26 = .ok (.aload_n 0, 1) := by decide +kernel
theorem d_MO_images_27 : decode b_MO_images 27 = .ok (.aload_n 0, 1) := by decide +kernel
theorem d_MO_images_28 : decode b_MO_images 28 = .ok (.getfield 17, 3) := by decide +kernel
theorem d_MO_images_31 : decode b_MO_images 31 = .ok (.iload_n 1, 1) := by decide +kernel
theorem d_MO_images_32 : decode b_MO_images 32 = .ok (.iaload, 1) := by decide +kernel
theorem d_MO_images_33 : decode b_MO_images 33 = .ok (.iload_n 3, 1) := by decide +kernel
theorem d_MO_images_34 : decode b_MO_images 34 = .ok (.invokevirtual 46, 3) := by decide +kernel
theorem d_MO_images_37 : decode b_MO_images 37 = .ok (.iadd, 1) := by decide +kernel
theorem d_MO_images_38 : decode b_MO_images 38 = .ok (.istore_n 2, 1) := by decide +kernel
theorem d_MO_images_39 : decode b_MO_images 39 = .ok (.iinc 3 1, 3) := by decide +kernel
theorem d_MO_images_42 : decode b_MO_images 42 = .ok (.goto (-28), 3) := by decide +kernel
theorem d_MO_images_45 : decode b_MO_images 45 = .ok (.iload_n 2, 1) := by decide +kernel
theorem d_MO_images_46 : decode b_MO_images 46 = .ok (.ireturn, 1) := by decide +kernel
theorem d_MO_imagesOf_0 : decode b_MO_imagesOf 0 = .ok (.iload_n 1, 1) := by decide +kernel
theorem d_MO_imagesOf_1 : decode b_MO_imagesOf 1 = .ok (.istore_n 2, 1) := by decide +kernel
theorem d_MO_imagesOf_2 : decode b_MO_imagesOf 2 = .ok (.aload_n 0, 1) := by decide +kernel
theorem d_MO_imagesOf_3 : decode b_MO_imagesOf 3 = .ok (.getfield 39, 3) := by decide +kernel
theorem d_MO_imagesOf_6 : decode b_MO_imagesOf 6 = .ok (.istore_n 3, 1) := by decide +kernel
theorem d_MO_imagesOf_7 : decode b_MO_imagesOf 7 = .ok (.iconst 0, 1) := by decide +kernel
theorem d_MO_imagesOf_8 : decode b_MO_imagesOf 8 = .ok (.istore 4, 2) := by decide +kernel
theorem d_MO_imagesOf_10 : decode b_MO_imagesOf 10 = .ok (.iconst 0, 1) := by decide +kernel
theorem d_MO_imagesOf_11 : decode b_MO_imagesOf 11 = .ok (.istore 5, 2) := by decide +kernel
theorem d_MO_imagesOf_13 : decode b_MO_imagesOf 13 = .ok (.iconst 0, 1) := by decide +kernel
theorem d_MO_imagesOf_14 : decode b_MO_imagesOf 14 = .ok (.istore 6, 2) := by decide +kernel
theorem d_MO_imagesOf_16 : decode b_MO_imagesOf 16 = .ok (.iload 6, 2) := by decide +kernel
theorem d_MO_imagesOf_18 : decode b_MO_imagesOf 18 = .ok (.aload_n 0, 1) := by decide +kernel
theorem d_MO_imagesOf_19 : decode b_MO_imagesOf 19 = .ok (.getfield 36, 3) := by decide +kernel
theorem d_MO_imagesOf_22 : decode b_MO_imagesOf 22 = .ok (.if_icmp .ge 110, 3) := by decide +kernel
theorem d_MO_imagesOf_25 : decode b_MO_imagesOf 25 = .ok (.iload_n 3, 1) := by decide +kernel
theorem d_MO_imagesOf_26 : decode b_MO_imagesOf 26 = .ok (.aload_n 0, 1) := by decide +kernel
theorem d_MO_imagesOf_27 : decode b_MO_imagesOf 27 = .ok (.getfield 36, 3) := by decide +kernel
theorem d_MO_imagesOf_30 : decode b_MO_imagesOf 30 = .ok (.iload 6, 2) := by decide +kernel
theorem d_MO_imagesOf_32 : decode b_MO_imagesOf 32 = .ok (.isub, 1) := by decide +kernel
theorem d_MO_imagesOf_33 : decode b_MO_imagesOf 33 = .ok (.idiv, 1) := by decide +kernel
theorem d_MO_imagesOf_34 : decode b_MO_imagesOf 34 = .ok (.istore_n 3, 1) := by decide +kernel
theorem d_MO_imagesOf_35 : decode b_MO_imagesOf 35 = .ok (.iload_n 2, 1) := by decide +kernel
theorem d_MO_imagesOf_36 : decode b_MO_imagesOf 36 = .ok (.iload_n 3, 1) := by decide +kernel
theorem d_MO_imagesOf_37 : decode b_MO_imagesOf 37 = .ok (.idiv, 1) := by decide +kernel
theorem d_MO_imagesOf_38 : decode b_MO_imagesOf 38 = .ok (.istore 7, 2) := by decide +kernel
theorem d_MO_imagesOf_40 : decode b_MO_imagesOf 40 = .ok (.iload_n 2, 1) := by decide +kernel
theorem d_MO_imagesOf_41 : decode b_MO_imagesOf 41 = .ok (.iload_n 3, 1) := by decide +kernel
theorem d_MO_imagesOf_42 : decode b_MO_imagesOf 42 = .ok (.irem, 1) := by decide +kernel
theorem d_MO_imagesOf_43 : decode b_MO_imagesOf 43 = .ok (.istore_n 2, 1) := by decide +kernel
theorem d_MO_imagesOf_44 : decode b_MO_imagesOf 44 = .ok (.iconst 0, 1) := by decide +kernel
theorem d_MO_imagesOf_45 : decode b_MO_imagesOf 45 = .ok (.istore 8, 2) := by decide +kernel
theorem d_MO_imagesOf_47 : decode b_MO_imagesOf 47 = .ok (.iload 8, 2) := by decide +kernel
theorem d_MO_imagesOf_49 : decode b_MO_imagesOf 49 = .ok (.aload_n 0, 1) := by decide +kernel
theorem d_MO_imagesOf_50 : decode b_MO_imagesOf 50 = .ok (.getfield 36, 3) := by decide +kernel
theorem d_MO_imagesOf_53 : decode b_MO_imagesOf 53 = .ok (.iconst 1, 1) := by decide +kernel
theorem d_MO_imagesOf_54 : decode b_MO_imagesOf 54 = .ok (.isub, 1) := by decide +kernel
theorem d_MO_imagesOf_55 : decode b_MO_imagesOf 55 = .ok (.if_icmp .ge 50, 3) := by decide +kernel
theorem d_MO_imagesOf_58 : decode b_MO_imagesOf 58 = .ok (.iload 7, 2) := by decide +kernel
theorem d_MO_imagesOf_60 : decode b_MO_imagesOf 60 = .ok (.ifCond .gt 14, 3) := by decide +kernel
theorem d_MO_imagesOf_63 : decode b_MO_imagesOf 63 = .ok (.iload 4, 2) := by decide +kernel
theorem d_MO_imagesOf_65 : decode b_MO_imagesOf 65 = .ok (.iload 8, 2) := by decide +kernel
theorem d_MO_imagesOf_67 : decode b_MO_imagesOf 67 = .ok (.ishr, 1) := by decide +kernel
theorem d_MO_imagesOf_68 : decode b_MO_imagesOf 68 = .ok (.iconst 1, 1) := by decide +kernel
theorem d_MO_imagesOf_69 : decode b_MO_imagesOf 69 = .ok (.iand, 1) := by decide +kernel
theorem d_MO_imagesOf_70 : decode b_MO_imagesOf 70 = .ok (.iconst 1, 1) := by decide +kernel
theorem d_MO_imagesOf_71 : decode b_MO_imagesOf 71 = .ok (.if_icmp .ne 34, 3) := by decide +kernel
theorem d_MO_imagesOf_74 : decode b_MO_imagesOf 74 = .ok (.iload 4, 2) := by decide +kernel
theorem d_MO_imagesOf_76 : decode b_MO_imagesOf 76 = .ok (.iload 8, 2) := by decide +kernel
theorem d_MO_imagesOf_78 : decode b_MO_imagesOf 78 = .ok (.ishr, 1) := by decide +kernel
theorem d_MO_imagesOf_79 : decode b_MO_imagesOf 79 = .ok (.iconst 1, 1) := by decide +kernel
theorem d_MO_imagesOf_80 : decode b_MO_imagesOf 80 = .ok (.iand, 1) := by decide +kernel
theorem d_MO_imagesOf_81 : decode b_MO_imagesOf 81 = .ok (.iconst 1, 1) := by decide +kernel
theorem d_MO_imagesOf_82 : decode b_MO_imagesOf 82 = .ok (.if_icmp .ne 8, 3) := by decide +kernel
theorem d_MO_imagesOf_85 : decode b_MO_imagesOf 85 = .ok (.iload 7, 2) := by decide +kernel
theorem d_MO_imagesOf_87 : decode b_MO_imagesOf 87 = .ok (.goto 7, 3) := by decide +kernel
theorem d_MO_imagesOf_90 : decode b_MO_imagesOf 90 = .ok (.iload 7, 2) := by decide +kernel
theorem d_MO_imagesOf_92 : decode b_MO_imagesOf 92 = .ok (.iconst 1, 1) := by decide +kernel
theorem d_MO_imagesOf_93 : decode b_MO_imagesOf 93 = .ok (.isub, 1) := by decide +kernel
theorem d_MO_imagesOf_94 : decode b_MO_imagesOf 94 = .ok (.istore 7, 2) := by decide +kernel
theorem d_MO_imagesOf_96 : decode b_MO_imagesOf 96 = .ok (.iload 8, 2) := by decide +kernel
theorem d_MO_imagesOf_98 : decode b_MO_imagesOf 98 = .ok (.iconst 1, 1) := by decide +kernel
theorem d_MO_imagesOf_99 : decode b_MO_imagesOf 99 = .ok (.iadd, 1) := by decide +kernel
theorem d_MO_imagesOf_100 : decode b_MO_imagesOf 100 = .ok (.istore 8, 2) := by decide +kernel
theorem d_MO_imagesOf_102 : decode b_MO_imagesOf 102 = .ok (.goto (-55), 3) := by decide +kernel
theorem d_MO_imagesOf_105 : decode b_MO_imagesOf 105 = .ok (.iload 4, 2) := by decide +kernel
theorem d_MO_imagesOf_107 : decode b_MO_imagesOf 107 = .ok (.iconst 1, 1) := by decide +kernel
theorem d_MO_imagesOf_108 : decode b_MO_imagesOf 108 = .ok (.iload 8, 2) := by decide +kernel
theorem d_MO_imagesOf_110 : decode b_MO_imagesOf 110 = .ok (.ishl, 1) := by decide +kernel
theorem d_MO_imagesOf_111 : decode b_MO_imagesOf 111 = .ok (.ior, 1) := by decide +kernel
theorem d_MO_imagesOf_112 : decode b_MO_imagesOf 112 = .ok (.istore 4, 2) := by decide +kernel
theorem d_MO_imagesOf_114 : decode b_MO_imagesOf 114 = .ok (.iload 5, 2) := by decide +kernel
theorem d_MO_imagesOf_116 : decode b_MO_imagesOf 116 = .ok (.iload 8, 2) := by decide +kernel
theorem d_MO_imagesOf_118 : decode b_MO_imagesOf 118 = .ok (.iconst 3, 1) := by decide +kernel
theorem d_MO_imagesOf_119 : decode b_MO_imagesOf 119 = .ok (.iload 6, 2) := by decide +kernel
theorem d_MO_imagesOf_121 : decode b_MO_imagesOf 121 = .ok (.imul, 1) := by decide +kernel
theorem d_MO_imagesOf_122 : decode b_MO_imagesOf 122 = .ok (.ishl, 1) := by decide +kernel
theorem d_MO_imagesOf_123 : decode b_MO_imagesOf 123 = .ok (.ior, 1) := by decide +kernel
theorem d_MO_imagesOf_124 : decode b_MO_imagesOf 124 = .ok (.istore 5, 2) := by decide +kernel
theorem d_MO_imagesOf_126 : decode b_MO_imagesOf 126 = .ok (.iinc 6 1, 3) := by decide +kernel
theorem d_MO_imagesOf_129 : decode b_MO_imagesOf 129 = .ok (.goto (-113), 3) := by decide +kernel
theorem d_MO_imagesOf_132 : decode b_MO_imagesOf 132 = .ok (.iload 5, 2) := by decide +kernel
theorem d_MO_imagesOf_134 : decode b_MO_imagesOf 134 = .ok (.ireturn, 1) := by decide +kernel
theorem d_MO_in_0 : decode b_MO_in 0 = .ok (.iload_n 0, 1) := by decide +kernel
theorem d_MO_in_1 : decode b_MO_in 1 = .ok (.iload_n 1, 1) := by decide +kernel
theorem d_MO_in_2 : decode b_MO_in 2 = .ok (.if_icmp .lt 12, 3) := by decide +kernel
theorem d_MO_in_5 : decode b_MO_in 5 = .ok (.iload_n 0, 1) := by decide +kernel
theorem d_MO_in_6 : decode b_MO_in 6 = .ok (.iload_n 2, 1) := by decide +kernel
theorem d_MO_in_7 : decode b_MO_in 7 = .ok (.if_icmp .gt 7, 3) := by decide +kernel
theorem d_MO_in_10 : decode b_MO_in 10 = .ok (.iconst 1, 1) := by decide +kernel
theorem d_MO_in_11 : decode b_MO_in 11 = .ok (.goto 4, 3) := by decide +kernel
theorem d_MO_in_14 : decode b_MO_in 14 = .ok (.iconst 0, 1) := by decide +kernel
theorem d_MO_in_15 : decode b_MO_in 15 = .ok (.ireturn, 1) := by decide +kernel
theorem d_MO_inverse_0 : decode b_MO_inverse 0 = .ok (.aload_n 0, 1) := by decide +kernel
theorem d_MO_inverse_1 : decode b_MO_inverse 1 = .ok (.iload_n 1, 1) := by decide +kernel
theorem d_MO_inverse_2 : decode b_MO_inverse 2 = .ok (.invokevirtual 98, 3) := by decide +kernel
theorem d_MO_inverse_5 : decode b_MO_inverse 5 = .ok (.ifCond .eq 29, 3) := by decide +kernel
theorem d_MO_inverse_8 : decode b_MO_inverse 8 = .ok (.aload_n 0, 1) := by decide +kernel
theorem d_MO_inverse_9 : decode b_MO_inverse 9 = .ok (.getfield 13, 3) := by decide +kernel
theorem d_MO_inverse_12 : decode b_MO_inverse 12 = .ok (.bipush 40, 2) := by decide +kernel
theorem d_MO_inverse_14 : decode b_MO_inverse 14 = .ok (.if_icmp .ge 20, 3) := by decide +kernel
theorem d_MO_inverse_17 : decode b_MO_inverse 17 = .ok (.aload_n 0, 1) := by decide +kernel
theorem d_MO_inverse_18 : decode b_MO_inverse 18 = .ok (.aload_n 0, 1) := by decide +kernel
theorem d_MO_inverse_19 : decode b_MO_inverse 19 = .ok (.aload_n 0, 1) := by decide +kernel
theorem d_MO_inverse_20 : decode b_MO_inverse 20 = .ok (.getfield 17, 3) := by decide +kernel
theorem d_MO_inverse_23 : decode b_MO_inverse 23 = .ok (.iload_n 1, 1) := by decide +kernel
theorem d_MO_inverse_24 : decode b_MO_inverse 24 = .ok (.iaload, 1) := by decide +kernel
theorem d_MO_inverse_25 : decode b_MO_inverse 25 = .ok (.invokevirtual 72, 3) := by decide +kernel
theorem d_MO_inverse_28 : decode b_MO_inverse 28 = .ok (.invokevirtual 92, 3) := by decide +kernel
theorem d_MO_inverse_31 : decode b_MO_inverse 31 = .ok (.goto 4, 3) := by decide +kernel
theorem d_MO_inverse_34 : decode b_MO_inverse 34 = .ok (.iconst (-1), 1) := by decide +kernel
theorem d_MO_inverse_35 : decode b_MO_inverse 35 = .ok (.ireturn, 1) := by decide +kernel
theorem d_MO_inverted_0 : decode b_MO_inverted 0 = .ok (.iconst 0, 1) := by decide +kernel
theorem d_MO_inverted_1 : decode b_MO_inverted 1 = .ok (.istore_n 2, 1) := by decide +kernel
theorem d_MO_inverted_2 : decode b_MO_inverted 2 = .ok (.iconst 0, 1) := by decide +kernel
theorem d_MO_inverted_3 : decode b_MO_inverted 3 = .ok (.istore_n 3, 1) := by decide +kernel
theorem d_MO_inverted_4 : decode b_MO_inverted 4 = .ok (.iload_n 3, 1) := by decide +kernel
theorem d_MO_inverted_5 : decode b_MO_inverted 5 = .ok (.aload_n 0, 1) := by decide +kernel
theorem d_MO_inverted_6 : decode b_MO_inverted 6 = .ok (.getfield 36, 3) := by decide +kernel
theorem d_MO_inverted_9 : decode b_MO_inverted 9 = .ok (.if_icmp .ge 22, 3) := by decide +kernel
theorem d_MO_inverted_12 : decode b_MO_inverted 12 = .ok (.iload_n 2, 1) := by decide +kernel
theorem d_MO_inverted_13 : decode b_MO_inverted 13 = .ok (.iload_n 3, 1) := by decide +kernel
theorem d_MO_inverted_14 : decode b_MO_inverted 14 = .ok (.iconst 3, 1) := by decide +kernel
theorem d_MO_inverted_15 : decode b_MO_inverted 15 = .ok (.aload_n 0, 1) := by decide +kernel
theorem d_MO_inverted_16 : decode b_MO_inverted 16 = .ok (.iload_n 1, 1) := by decide +kernel
theorem d_MO_inverted_17 : decode b_MO_inverted 17 = .ok (.iload_n 3, 1) := by decide +kernel
theorem d_MO_inverted_18 : decode b_MO_inverted 18 = .ok (.invokevirtual 46, 3) := by decide +kernel
theorem d_MO_inverted_21 : decode b_MO_inverted 21 = .ok (.imul, 1) := by decide +kernel
theorem d_MO_inverted_22 : decode b_MO_inverted 22 = .ok (.ishl, 1) := by decide +kernel
theorem d_MO_inverted_23 : decode b_MO_inverted 23 = .ok (.ior, 1) := by decide +kernel
theorem d_MO_inverted_24 : decode b_MO_inverted 24 = .ok (.istore_n 2, 1) := by decide +kernel
theorem d_MO_inverted_25 : decode b_MO_inverted 25 = .ok (.iinc 3 1, 3) := by decide +kernel
theorem d_MO_inverted_28 : decode b_MO_inverted 28 = .ok (.goto (-24), 3) := by decide +kernel
theorem d_MO_inverted_31 : decode b_MO_inverted 31 = .ok (.aload_n 0, 1) := by decide +kernel
theorem d_MO_inverted_32 : decode b_MO_inverted 32 = .ok (.iload_n 2, 1) := by decide +kernel
theorem d_MO_inverted_33 : decode b_MO_inverted 33 = .ok (.invokevirtual 50, 3) := by decide +kernel
theorem d_MO_inverted_36 : decode b_MO_inverted 36 = .ok (.ireturn, 1) := by decide +kernel
theorem d_MO_isGroup_0 : decode b_MO_isGroup 0 = .ok (.iload_n 1, 1) := by decide +kernel
theorem d_MO_isGroup_1 : decode b_MO_isGroup 1 = .ok (.iconst 0, 1) := by decide +kernel
theorem d_MO_isGroup_2 : decode b_MO_isGroup 2 = .ok (.aload_n 0, 1) := by decide +kernel
theorem d_MO_isGroup_3 : decode b_MO_isGroup 3 = .ok (.getfield 95, 3) := by decide +kernel
theorem d_MO_isGroup_6 : decode b_MO_isGroup 6 = .ok (.iconst 1, 1) := by decide +kernel
theorem d_MO_isGroup_7 : decode b_MO_isGroup 7 = .ok (.isub, 1) := by decide +kernel
theorem d_MO_isGroup_8 : decode b_MO_isGroup 8 = .ok (.invokestatic 85, 3) := by decide +kernel
theorem d_MO_isGroup_11 : decode b_MO_isGroup 11 = .ok (.ireturn, 1) := by decide +kernel
theorem d_MO_isPermutation_0 : decode b_MO_isPermutation 0 = .ok (.iload_n 1, 1) := by decide +kernel
theorem d_MO_isPermutation_1 : decode b_MO_isPermutation 1 = .ok (.iconst 0, 1) := by decide +kernel
theorem d_MO_isPermutation_2 : decode b_MO_isPermutation 2 = .ok (.aload_n 0, 1) := by decide +kernel
theorem d_MO_isPermutation_3 : decode b_MO_isPermutation 3 = .ok (.getfield 13, 3) := by decide +kernel
theorem d_MO_isPermutation_6 : decode b_MO_isPermutation 6 = .ok (.iconst 1, 1) := by decide +kernel
theorem d_MO_isPermutation_7 : decode b_MO_isPermutation 7 = .ok (.isub, 1) := by decide +kernel
theorem d_MO_isPermutation_8 : decode b_MO_isPermutation 8 = .ok (.invokestatic 85, 3) := by decide +kernel
theorem d_MO_isPermutation_11 : decode b_MO_isPermutation 11 = .ok (.ireturn, 1) := by decide +kernel
theorem d_MO_keep_0 : decode b_MO_keep 0 = .ok (.aload_n 0, 1) := by decide +kernel
theorem d_MO_keep_1 : decode b_MO_keep 1 = .ok (.getfield 17, 3) := by decide +kernel
theorem d_MO_keep_4 : decode b_MO_keep 4 = .ok (.aload_n 0, 1) := by decide +kernel
theorem d_MO_keep_5 : decode b_MO_keep 5 = .ok (.getfield 13, 3) := by decide +kernel
theorem d_MO_keep_8 : decode b_MO_keep 8 = .ok (.iload_n 1, 1) := by decide +kernel
theorem d_MO_keep_9 : decode b_MO_keep 9 = .ok (.iastore, 1) := by decide +kernel
theorem d_MO_keep_10 : decode b_MO_keep 10 = .ok (.aload_n 0, 1) := by decide +kernel
theorem d_MO_keep_11 : decode b_MO_keep 11 = .ok (.aload_n 0, 1) := by decide +kernel
theorem d_MO_keep_12 : decode b_MO_keep 12 = .ok (.getfield 13, 3) := by decide +kernel
theorem d_MO_keep_15 : decode b_MO_keep 15 = .ok (.iconst 1, 1) := by decide +kernel
theorem d_MO_keep_16 : decode b_MO_keep 16 = .ok (.iadd, 1) := by decide +kernel
theorem d_MO_keep_17 : decode b_MO_keep 17 = .ok (.putfield 13, 3) := by decide +kernel
theorem d_MO_keep_20 : decode b_MO_keep 20 = .ok (.aload_n 0, 1) := by decide +kernel
theorem d_MO_keep_21 : decode b_MO_keep 21 = .ok (.getfield 13, 3) := by decide +kernel
theorem d_MO_keep_24 : decode b_MO_keep 24 = .ok (.iconst 1, 1) := by decide +kernel
theorem d_MO_keep_25 : decode b_MO_keep 25 = .ok (.isub, 1) := by decide +kernel
theorem d_MO_keep_26 : decode b_MO_keep 26 = .ok (.ireturn, 1) := by decide +kernel
theorem d_MO_least_0 : decode b_MO_least 0 = .ok (.aload_n 0, 1) := by decide +kernel
theorem d_MO_least_1 : decode b_MO_least 1 = .ok (.iload_n 1, 1) := by decide +kernel
theorem d_MO_least_2 : decode b_MO_least 2 = .ok (.invokevirtual 102, 3) := by decide +kernel
theorem d_MO_least_5 : decode b_MO_least 5 = .ok (.ifCond .eq 20, 3) := by decide +kernel
theorem d_MO_least_8 : decode b_MO_least 8 = .ok (.aload_n 0, 1) := by decide +kernel
theorem d_MO_least_9 : decode b_MO_least 9 = .ok (.iload_n 2, 1) := by decide +kernel
theorem d_MO_least_10 : decode b_MO_least 10 = .ok (.invokevirtual 98, 3) := by decide +kernel
theorem d_MO_least_13 : decode b_MO_least 13 = .ok (.ifCond .eq 12, 3) := by decide +kernel
theorem d_MO_least_16 : decode b_MO_least 16 = .ok (.aload_n 0, 1) := by decide +kernel
theorem d_MO_least_17 : decode b_MO_least 17 = .ok (.getfield 13, 3) := by decide +kernel
theorem d_MO_least_20 : decode b_MO_least 20 = .ok (.bipush 40, 2) := by decide +kernel
theorem d_MO_least_22 : decode b_MO_least 22 = .ok (.if_icmp .lt 5, 3) := by decide +kernel
theorem d_MO_least_25 : decode b_MO_least 25 = .ok (.iconst (-1), 1) := by decide +kernel
theorem d_MO_least_26 : decode b_MO_least 26 = .ok (.ireturn, 1) := by decide +kernel
theorem d_MO_least_27 : decode b_MO_least 27 = .ok (.aload_n 0, 1) := by decide +kernel
theorem d_MO_least_28 : decode b_MO_least 28 = .ok (.getfield 39, 3) := by decide +kernel
theorem d_MO_least_31 : decode b_MO_least 31 = .ok (.istore_n 3, 1) := by decide +kernel
theorem d_MO_least_32 : decode b_MO_least 32 = .ok (.iconst 0, 1) := by decide +kernel
theorem d_MO_least_33 : decode b_MO_least 33 = .ok (.istore 4, 2) := by decide +kernel
theorem d_MO_least_35 : decode b_MO_least 35 = .ok (.iload 4, 2) := by decide +kernel
theorem d_MO_least_37 : decode b_MO_least 37 = .ok (.aload_n 0, 1) := by decide +kernel
theorem d_MO_least_38 : decode b_MO_least 38 = .ok (.getfield 39, 3) := by decide +kernel
theorem d_MO_least_41 : decode b_MO_least 41 = .ok (.if_icmp .ge 53, 3) := by decide +kernel
theorem d_MO_least_44 : decode b_MO_least 44 = .ok (.aload_n 0, 1) := by decide +kernel
theorem d_MO_least_45 : decode b_MO_least 45 = .ok (.iload_n 1, 1) := by decide +kernel
theorem d_MO_least_46 : decode b_MO_least 46 = .ok (.iload 4, 2) := by decide +kernel
theorem d_MO_least_48 : decode b_MO_least 48 = .ok (.invokevirtual 57, 3) := by decide +kernel
theorem d_MO_least_51 : decode b_MO_least 51 = .ok (.ifCond .eq 18, 3) := by decide +kernel
theorem d_MO_least_54 : decode b_MO_least 54 = .ok (.aload_n 0, 1) := by decide +kernel
theorem d_MO_least_55 : decode b_MO_least 55 = .ok (.aload_n 0, 1) := by decide +kernel
theorem d_MO_least_56 : decode b_MO_least 56 = .ok (.getfield 17, 3) := by decide +kernel
theorem d_MO_least_59 : decode b_MO_least 59 = .ok (.iload_n 2, 1) := by decide +kernel
theorem d_MO_least_60 : decode b_MO_least 60 = .ok (.iaload, 1) := by decide +kernel
theorem d_MO_least_61 : decode b_MO_least 61 = .ok (.iload 4, 2) := by decide +kernel
theorem d_MO_least_63 : decode b_MO_least 63 = .ok (.invokevirtual 64, 3) := by decide +kernel
theorem d_MO_least_66 : decode b_MO_least 66 = .ok (.goto 7, 3) := by decide +kernel
theorem d_MO_least_69 : decode b_MO_least 69 = .ok (.aload_n 0, 1) := by decide +kernel
theorem d_MO_least_70 : decode b_MO_least 70 = .ok (.getfield 39, 3) := by decide +kernel
theorem d_MO_least_73 : decode b_MO_least 73 = .ok (.istore 5, 2) := by decide +kernel
theorem d_MO_least_75 : decode b_MO_least 75 = .ok (.iload 5, 2) := by decide +kernel
theorem d_MO_least_77 : decode b_MO_least 77 = .ok (.iload_n 3, 1) := by decide +kernel
theorem d_MO_least_78 : decode b_MO_least 78 = .ok (.if_icmp .ge 8, 3) := by decide +kernel
theorem d_MO_least_81 : decode b_MO_least 81 = .ok (.iload 5, 2) := by decide +kernel
theorem d_MO_least_83 : decode b_MO_least 83 = .ok (.goto 4, 3) := by decide +kernel
theorem d_MO_least_86 : decode b_MO_least 86 = .ok (.iload_n 3, 1) := by decide +kernel
theorem d_MO_least_87 : decode b_MO_least 87 = .ok (.istore_n 3, 1) := by decide +kernel
theorem d_MO_least_88 : decode b_MO_least 88 = .ok (.iinc 4 1, 3) := by decide +kernel
theorem d_MO_least_91 : decode b_MO_least 91 = .ok (.goto (-56), 3) := by decide +kernel
theorem d_MO_least_94 : decode b_MO_least 94 = .ok (.aload_n 0, 1) := by decide +kernel
theorem d_MO_least_95 : decode b_MO_least 95 = .ok (.iload_n 3, 1) := by decide +kernel
theorem d_MO_least_96 : decode b_MO_least 96 = .ok (.invokevirtual 92, 3) := by decide +kernel
theorem d_MO_least_99 : decode b_MO_least 99 = .ok (.ireturn, 1) := by decide +kernel
theorem d_MO_length_0 : decode b_MO_length 0 = .ok (.aload_n 0, 1) := by decide +kernel
theorem d_MO_length_1 : decode b_MO_length 1 = .ok (.iload_n 1, 1) := by decide +kernel
theorem d_MO_length_2 : decode b_MO_length 2 = .ok (.invokevirtual 102, 3) := by decide +kernel
theorem d_MO_length_5 : decode b_MO_length 5 = .ok (.ifCond .ne 5, 3) := by decide +kernel
theorem d_MO_length_8 : decode b_MO_length 8 = .ok (.iconst (-1), 1) := by decide +kernel
theorem d_MO_length_9 : decode b_MO_length 9 = .ok (.ireturn, 1) := by decide +kernel
theorem d_MO_length_10 : decode b_MO_length 10 = .ok (.aload_n 0, 1) := by decide +kernel
theorem d_MO_length_11 : decode b_MO_length 11 = .ok (.iload_n 1, 1) := by decide +kernel
theorem d_MO_length_12 : decode b_MO_length 12 = .ok (.bipush 12, 2) := by decide +kernel
theorem d_MO_length_14 : decode b_MO_length 14 = .ok (.invokevirtual 61, 3) := by decide +kernel
theorem d_MO_length_17 : decode b_MO_length 17 = .ok (.iconst 0, 1) := by decide +kernel
theorem d_MO_length_18 : decode b_MO_length 18 = .ok (.istore_n 2, 1) := by decide +kernel
theorem d_MO_length_19 : decode b_MO_length 19 = .ok (.iconst 0, 1) := by decide +kernel
theorem d_MO_length_20 : decode b_MO_length 20 = .ok (.istore_n 3, 1) := by decide +kernel
theorem d_MO_length_21 : decode b_MO_length 21 = .ok (.iconst 0, 1) := by decide +kernel
theorem d_MO_length_22 : decode b_MO_length 22 = .ok (.istore 4, 2) := by decide +kernel
theorem d_MO_length_24 : decode b_MO_length 24 = .ok (.iload 4, 2) := by decide +kernel
theorem d_MO_length_26 : decode b_MO_length 26 = .ok (.bipush 10, 2) := by decide +kernel
theorem d_MO_length_28 : decode b_MO_length 28 = .ok (.if_icmp .ge 56, 3) := by decide +kernel
theorem d_MO_length_31 : decode b_MO_length 31 = .ok (.aload_n 0, 1) := by decide +kernel
theorem d_MO_length_32 : decode b_MO_length 32 = .ok (.bipush 12, 2) := by decide +kernel
theorem d_MO_length_34 : decode b_MO_length 34 = .ok (.invokevirtual 105, 3) := by decide +kernel
theorem d_MO_length_37 : decode b_MO_length 37 = .ok (.iconst 1, 1) := by decide +kernel
theorem d_MO_length_38 : decode b_MO_length 38 = .ok (.if_icmp .le 46, 3) := by decide +kernel
theorem d_MO_length_41 : decode b_MO_length 41 = .ok (.aload_n 0, 1) := by decide +kernel
theorem d_MO_length_42 : decode b_MO_length 42 = .ok (.bipush 12, 2) := by decide +kernel
theorem d_MO_length_44 : decode b_MO_length 44 = .ok (.invokevirtual 105, 3) := by decide +kernel
theorem d_MO_length_47 : decode b_MO_length 47 = .ok (.iload_n 3, 1) := by decide +kernel
theorem d_MO_length_48 : decode b_MO_length 48 = .ok (.if_icmp .eq 36, 3) := by decide +kernel
theorem d_MO_length_51 : decode b_MO_length 51 = .ok (.aload_n 0, 1) := by decide +kernel
theorem d_MO_length_52 : decode b_MO_length 52 = .ok (.bipush 12, 2) := by decide +kernel
theorem d_MO_length_54 : decode b_MO_length 54 = .ok (.invokevirtual 105, 3) := by decide +kernel
theorem d_MO_length_57 : decode b_MO_length 57 = .ok (.istore_n 3, 1) := by decide +kernel
theorem d_MO_length_58 : decode b_MO_length 58 = .ok (.aload_n 0, 1) := by decide +kernel
theorem d_MO_length_59 : decode b_MO_length 59 = .ok (.bipush 12, 2) := by decide +kernel
theorem d_MO_length_61 : decode b_MO_length 61 = .ok (.bipush 13, 2) := by decide +kernel
theorem d_MO_length_63 : decode b_MO_length 63 = .ok (.invokevirtual 122, 3) := by decide +kernel
theorem d_MO_length_66 : decode b_MO_length 66 = .ok (.aload_n 0, 1) := by decide +kernel
theorem d_MO_length_67 : decode b_MO_length 67 = .ok (.bipush 13, 2) := by decide +kernel
theorem d_MO_length_69 : decode b_MO_length 69 = .ok (.bipush 12, 2) := by decide +kernel
theorem d_MO_length_71 : decode b_MO_length 71 = .ok (.invokevirtual 61, 3) := by decide +kernel
theorem d_MO_length_74 : decode b_MO_length 74 = .ok (.iload_n 2, 1) := by decide +kernel
theorem d_MO_length_75 : decode b_MO_length 75 = .ok (.iconst 1, 1) := by decide +kernel
theorem d_MO_length_76 : decode b_MO_length 76 = .ok (.iadd, 1) := by decide +kernel
theorem d_MO_length_77 : decode b_MO_length 77 = .ok (.istore_n 2, 1) := by decide +kernel
theorem d_MO_length_78 : decode b_MO_length 78 = .ok (.iinc 4 1, 3) := by decide +kernel
theorem d_MO_length_81 : decode b_MO_length 81 = .ok (.goto (-57), 3) := by decide +kernel
theorem d_MO_length_84 : decode b_MO_length 84 = .ok (.aload_n 0, 1) := by decide +kernel
theorem d_MO_length_85 : decode b_MO_length 85 = .ok (.bipush 12, 2) := by decide +kernel
theorem d_MO_length_87 : decode b_MO_length 87 = .ok (.invokevirtual 105, 3) := by decide +kernel
theorem d_MO_length_90 : decode b_MO_length 90 = .ok (.iconst 1, 1) := by decide +kernel
theorem d_MO_length_91 : decode b_MO_length 91 = .ok (.if_icmp .ne 7, 3) := by decide +kernel
theorem d_MO_length_94 : decode b_MO_length 94 = .ok (.iload_n 2, 1) := by decide +kernel
theorem d_MO_length_95 : decode b_MO_length 95 = .ok (.goto 4, 3) := by decide +kernel
theorem d_MO_length_98 : decode b_MO_length 98 = .ok (.iconst (-1), 1) := by decide +kernel
theorem d_MO_length_99 : decode b_MO_length 99 = .ok (.ireturn, 1) := by decide +kernel
theorem d_MO_lies_0 : decode b_MO_lies 0 = .ok (.iconst 1, 1) := by decide +kernel
theorem d_MO_lies_1 : decode b_MO_lies 1 = .ok (.istore_n 3, 1) := by decide +kernel
theorem d_MO_lies_2 : decode b_MO_lies 2 = .ok (.iconst 0, 1) := by decide +kernel
theorem d_MO_lies_3 : decode b_MO_lies 3 = .ok (.istore 4, 2) := by decide +kernel
theorem d_MO_lies_5 : decode b_MO_lies 5 = .ok (.iload 4, 2) := by decide +kernel
theorem d_MO_lies_7 : decode b_MO_lies 7 = .ok (.bipush 12, 2) := by decide +kernel
theorem d_MO_lies_9 : decode b_MO_lies 9 = .ok (.if_icmp .ge 53, 3) := by decide +kernel
theorem d_MO_lies_12 : decode b_MO_lies 12 = .ok (.iload_n 3, 1) := by decide +kernel
theorem d_MO_lies_13 : decode b_MO_lies 13 = .ok (.ifCond .eq 41, 3) := by decide +kernel
theorem d_MO_lies_16 : decode b_MO_lies 16 = .ok (.aload_n 0, 1) := by decide +kernel
theorem d_MO_lies_17 : decode b_MO_lies 17 = .ok (.getfield 20, 3) := by decide +kernel
theorem d_MO_lies_20 : decode b_MO_lies 20 = .ok (.bipush 12, 2) := by decide +kernel
theorem d_MO_lies_22 : decode b_MO_lies 22 = .ok (.iload_n 1, 1) := by decide +kernel
theorem d_MO_lies_23 : decode b_MO_lies 23 = .ok (.imul, 1) := by decide +kernel
theorem d_MO_lies_24 : decode b_MO_lies 24 = .ok (.iload 4, 2) := by decide +kernel
theorem d_MO_lies_26 : decode b_MO_lies 26 = .ok (.iadd, 1) := by decide +kernel
theorem d_MO_lies_27 : decode b_MO_lies 27 = .ok (.laload, 1) := by decide +kernel
theorem d_MO_lies_28 : decode b_MO_lies 28 = .ok (.aload_n 0, 1) := by decide +kernel
theorem d_MO_lies_29 : decode b_MO_lies 29 = .ok (.getfield 20, 3) := by decide +kernel
theorem d_MO_lies_32 : decode b_MO_lies 32 = .ok (.bipush 12, 2) := by decide +kernel
theorem d_MO_lies_34 : decode b_MO_lies 34 = .ok (.iload_n 2, 1) := by decide +kernel
theorem d_MO_lies_35 : decode b_MO_lies 35 = .ok (.imul, 1) := by decide +kernel
theorem d_MO_lies_36 : decode b_MO_lies 36 = .ok (.iload 4, 2) := by decide +kernel
theorem d_MO_lies_38 : decode b_MO_lies 38 = .ok (.iadd, 1) := by decide +kernel
theorem d_MO_lies_39 : decode b_MO_lies 39 = .ok (.laload, 1) := by decide +kernel
theorem d_MO_lies_40 : decode b_MO_lies 40 = .ok (.ldc2_w 70, 3) := by decide +kernel
theorem d_MO_lies_43 : decode b_MO_lies 43 = .ok (.lxor, 1) := by decide +kernel
theorem d_MO_lies_44 : decode b_MO_lies 44 = .ok (.land, 1) := by decide +kernel
theorem d_MO_lies_45 : decode b_MO_lies 45 = .ok (.lconst 0, 1) := by decide +kernel
theorem d_MO_lies_46 : decode b_MO_lies 46 = .ok (.lcmp, 1) := by decide +kernel
theorem d_MO_lies_47 : decode b_MO_lies 47 = .ok (.ifCond .ne 7, 3) := by decide +kernel
theorem d_MO_lies_50 : decode b_MO_lies 50 = .ok (.iconst 1, 1) := by decide +kernel
theorem d_MO_lies_51 : decode b_MO_lies 51 = .ok (.goto 4, 3) := by decide +kernel
theorem d_MO_lies_54 : decode b_MO_lies 54 = .ok (.iconst 0, 1) := by decide +kernel
theorem d_MO_lies_55 : decode b_MO_lies 55 = .ok (.istore_n 3, 1) := by decide +kernel
theorem d_MO_lies_56 : decode b_MO_lies 56 = .ok (.iinc 4 1, 3) := by decide +kernel
theorem d_MO_lies_59 : decode b_MO_lies 59 = .ok (.goto (-54), 3) := by decide +kernel
theorem d_MO_lies_62 : decode b_MO_lies 62 = .ok (.iload_n 3, 1) := by decide +kernel
theorem d_MO_lies_63 : decode b_MO_lies 63 = .ok (.ireturn, 1) := by decide +kernel
theorem d_MO_normal_0 : decode b_MO_normal 0 = .ok (.aload_n 0, 1) := by decide +kernel
theorem d_MO_normal_1 : decode b_MO_normal 1 = .ok (.iload_n 1, 1) := by decide +kernel
theorem d_MO_normal_2 : decode b_MO_normal 2 = .ok (.invokevirtual 102, 3) := by decide +kernel
theorem d_MO_normal_5 : decode b_MO_normal 5 = .ok (.ifCond .eq 20, 3) := by decide +kernel
theorem d_MO_normal_8 : decode b_MO_normal 8 = .ok (.aload_n 0, 1) := by decide +kernel
theorem d_MO_normal_9 : decode b_MO_normal 9 = .ok (.iload_n 2, 1) := by decide +kernel
theorem d_MO_normal_10 : decode b_MO_normal 10 = .ok (.invokevirtual 102, 3) := by decide +kernel
theorem d_MO_normal_13 : decode b_MO_normal 13 = .ok (.ifCond .eq 12, 3) := by decide +kernel
theorem d_MO_normal_16 : decode b_MO_normal 16 = .ok (.aload_n 0, 1) := by decide +kernel
theorem d_MO_normal_17 : decode b_MO_normal 17 = .ok (.iload_n 2, 1) := by decide +kernel
theorem d_MO_normal_18 : decode b_MO_normal 18 = .ok (.iload_n 1, 1) := by decide +kernel
theorem d_MO_normal_19 : decode b_MO_normal 19 = .ok (.invokevirtual 115, 3) := by decide +kernel
theorem d_MO_normal_22 : decode b_MO_normal 22 = .ok (.ifCond .ne 5, 3) := by decide +kernel
theorem d_MO_normal_25 : decode b_MO_normal 25 = .ok (.iconst 0, 1) := by decide +kernel
theorem d_MO_normal_26 : decode b_MO_normal 26 = .ok (.ireturn, 1) := by decide +kernel
theorem d_MO_normal_27 : decode b_MO_normal 27 = .ok (.iconst 1, 1) := by decide +kernel
theorem d_MO_normal_28 : decode b_MO_normal 28 = .ok (.istore_n 3, 1) := by decide +kernel
theorem d_MO_normal_29 : decode b_MO_normal 29 = .ok (.iconst 0, 1) := by decide +kernel
theorem d_MO_normal_30 : decode b_MO_normal 30 = .ok (.istore 4, 2) := by decide +kernel
theorem d_MO_normal_32 : decode b_MO_normal 32 = .ok (.iload 4, 2) := by decide +kernel
theorem d_MO_normal_34 : decode b_MO_normal 34 = .ok (.aload_n 0, 1) := by decide +kernel
theorem d_MO_normal_35 : decode b_MO_normal 35 = .ok (.getfield 24, 3) := by decide +kernel
theorem d_MO_normal_38 : decode b_MO_normal 38 = .ok (.iload_n 1, 1) := by decide +kernel
theorem d_MO_normal_39 : decode b_MO_normal 39 = .ok (.iaload, 1) := by decide +kernel
theorem d_MO_normal_40 : decode b_MO_normal 40 = .ok (.if_icmp .ge 75, 3) := by decide +kernel
theorem d_MO_normal_43 : decode b_MO_normal 43 = .ok (.iconst 0, 1) := by decide +kernel
theorem d_MO_normal_44 : decode b_MO_normal 44 = .ok (.istore 5, 2) := by decide +kernel
theorem d_MO_normal_46 : decode b_MO_normal 46 = .ok (.iload 5, 2) := by decide +kernel
theorem d_MO_normal_48 : decode b_MO_normal 48 = .ok (.aload_n 0, 1) := by decide +kernel
theorem d_MO_normal_49 : decode b_MO_normal 49 = .ok (.getfield 24, 3) := by decide +kernel
theorem d_MO_normal_52 : decode b_MO_normal 52 = .ok (.iload_n 2, 1) := by decide +kernel
theorem d_MO_normal_53 : decode b_MO_normal 53 = .ok (.iaload, 1) := by decide +kernel
theorem d_MO_normal_54 : decode b_MO_normal 54 = .ok (.if_icmp .ge 55, 3) := by decide +kernel
theorem d_MO_normal_57 : decode b_MO_normal 57 = .ok (.iload_n 3, 1) := by decide +kernel
theorem d_MO_normal_58 : decode b_MO_normal 58 = .ok (.ifCond .eq 43, 3) := by decide +kernel
theorem d_MO_normal_61 : decode b_MO_normal 61 = .ok (.aload_n 0, 1) := by decide +kernel
theorem d_MO_normal_62 : decode b_MO_normal 62 = .ok (.iload_n 2, 1) := by decide +kernel
theorem d_MO_normal_63 : decode b_MO_normal 63 = .ok (.aload_n 0, 1) := by decide +kernel
theorem d_MO_normal_64 : decode b_MO_normal 64 = .ok (.aload_n 0, 1) := by decide +kernel
theorem d_MO_normal_65 : decode b_MO_normal 65 = .ok (.getfield 27, 3) := by decide +kernel
theorem d_MO_normal_68 : decode b_MO_normal 68 = .ok (.bipush 20, 2) := by decide +kernel
theorem d_MO_normal_70 : decode b_MO_normal 70 = .ok (.iload_n 1, 1) := by decide +kernel
theorem d_MO_normal_71 : decode b_MO_normal 71 = .ok (.imul, 1) := by decide +kernel
theorem d_MO_normal_72 : decode b_MO_normal 72 = .ok (.iload 4, 2) := by decide +kernel
theorem d_MO_normal_74 : decode b_MO_normal 74 = .ok (.iadd, 1) := by decide +kernel
theorem d_MO_normal_75 : decode b_MO_normal 75 = .ok (.iaload, 1) := by decide +kernel
theorem d_MO_normal_76 : decode b_MO_normal 76 = .ok (.aload_n 0, 1) := by decide +kernel
theorem d_MO_normal_77 : decode b_MO_normal 77 = .ok (.getfield 27, 3) := by decide +kernel
theorem d_MO_normal_80 : decode b_MO_normal 80 = .ok (.bipush 20, 2) := by decide +kernel
theorem d_MO_normal_82 : decode b_MO_normal 82 = .ok (.iload_n 2, 1) := by decide +kernel
theorem d_MO_normal_83 : decode b_MO_normal 83 = .ok (.imul, 1) := by decide +kernel
theorem d_MO_normal_84 : decode b_MO_normal 84 = .ok (.iload 5, 2) := by decide +kernel
theorem d_MO_normal_86 : decode b_MO_normal 86 = .ok (.iadd, 1) := by decide +kernel
theorem d_MO_normal_87 : decode b_MO_normal 87 = .ok (.iaload, 1) := by decide +kernel
theorem d_MO_normal_88 : decode b_MO_normal 88 = .ok (.invokevirtual 75, 3) := by decide +kernel
theorem d_MO_normal_91 : decode b_MO_normal 91 = .ok (.invokevirtual 57, 3) := by decide +kernel
theorem d_MO_normal_94 : decode b_MO_normal 94 = .ok (.ifCond .eq 7, 3) := by decide +kernel
theorem d_MO_normal_97 : decode b_MO_normal 97 = .ok (.iconst 1, 1) := by decide +kernel
theorem d_MO_normal_98 : decode b_MO_normal 98 = .ok (.goto 4, 3) := by decide +kernel
theorem d_MO_normal_101 : decode b_MO_normal 101 = .ok (.iconst 0, 1) := by decide +kernel
theorem d_MO_normal_102 : decode b_MO_normal 102 = .ok (.istore_n 3, 1) := by decide +kernel
theorem d_MO_normal_103 : decode b_MO_normal 103 = .ok (.iinc 5 1, 3) := by decide +kernel
theorem d_MO_normal_106 : decode b_MO_normal 106 = .ok (.goto (-60), 3) := by decide +kernel
theorem d_MO_normal_109 : decode b_MO_normal 109 = .ok (.iinc 4 1, 3) := by decide +kernel
theorem d_MO_normal_112 : decode b_MO_normal 112 = .ok (.goto (-80), 3) := by decide +kernel
theorem d_MO_normal_115 : decode b_MO_normal 115 = .ok (.iload_n 3, 1) := by decide +kernel
theorem d_MO_normal_116 : decode b_MO_normal 116 = .ok (.ireturn, 1) := by decide +kernel
theorem d_MO_orbit_0 : decode b_MO_orbit 0 = .ok (.aload_n 0, 1) := by decide +kernel
theorem d_MO_orbit_1 : decode b_MO_orbit 1 = .ok (.iload_n 1, 1) := by decide +kernel
theorem d_MO_orbit_2 : decode b_MO_orbit 2 = .ok (.invokevirtual 102, 3) := by decide +kernel
theorem d_MO_orbit_5 : decode b_MO_orbit 5 = .ok (.ifCond .eq 17, 3) := by decide +kernel
theorem d_MO_orbit_8 : decode b_MO_orbit 8 = .ok (.iload_n 2, 1) := by decide +kernel
theorem d_MO_orbit_9 : decode b_MO_orbit 9 = .ok (.iconst 0, 1) := by decide +kernel
theorem d_MO_orbit_10 : decode b_MO_orbit 10 = .ok (.aload_n 0, 1) := by decide +kernel
theorem d_MO_orbit_11 : decode b_MO_orbit 11 = .ok (.getfield 36, 3) := by decide +kernel
theorem d_MO_orbit_14 : decode b_MO_orbit 14 = .ok (.iconst 1, 1) := by decide +kernel
theorem d_MO_orbit_15 : decode b_MO_orbit 15 = .ok (.isub, 1) := by decide +kernel
theorem d_MO_orbit_16 : decode b_MO_orbit 16 = .ok (.invokestatic 85, 3) := by decide +kernel
theorem d_MO_orbit_19 : decode b_MO_orbit 19 = .ok (.ifCond .ne 5, 3) := by decide +kernel
theorem d_MO_orbit_22 : decode b_MO_orbit 22 = .ok (.iconst (-1), 1) := by decide +kernel
theorem d_MO_orbit_23 : decode b_MO_orbit 23 = .ok (.ireturn, 1) := by decide +kernel
theorem d_MO_orbit_24 : decode b_MO_orbit 24 = .ok (.iconst 0, 1) := by decide +kernel
theorem d_MO_orbit_25 : decode b_MO_orbit 25 = .ok (.istore_n 3, 1) := by decide +kernel
theorem d_MO_orbit_26 : decode b_MO_orbit 26 = .ok (.iconst 0, 1) := by decide +kernel
theorem d_MO_orbit_27 : decode b_MO_orbit 27 = .ok (.istore 4, 2) := by decide +kernel
theorem d_MO_orbit_29 : decode b_MO_orbit 29 = .ok (.iload 4, 2) := by decide +kernel
theorem d_MO_orbit_31 : decode b_MO_orbit 31 = .ok (.aload_n 0, 1) := by decide +kernel
theorem d_MO_orbit_32 : decode b_MO_orbit 32 = .ok (.getfield 39, 3) := by decide +kernel
theorem d_MO_orbit_35 : decode b_MO_orbit 35 = .ok (.if_icmp .ge 35, 3) := by decide +kernel
theorem d_MO_orbit_38 : decode b_MO_orbit 38 = .ok (.aload_n 0, 1) := by decide +kernel
theorem d_MO_orbit_39 : decode b_MO_orbit 39 = .ok (.iload_n 1, 1) := by decide +kernel
theorem d_MO_orbit_40 : decode b_MO_orbit 40 = .ok (.iload 4, 2) := by decide +kernel
theorem d_MO_orbit_42 : decode b_MO_orbit 42 = .ok (.invokevirtual 57, 3) := by decide +kernel
theorem d_MO_orbit_45 : decode b_MO_orbit 45 = .ok (.ifCond .eq 17, 3) := by decide +kernel
theorem d_MO_orbit_48 : decode b_MO_orbit 48 = .ok (.iload_n 3, 1) := by decide +kernel
theorem d_MO_orbit_49 : decode b_MO_orbit 49 = .ok (.iconst 1, 1) := by decide +kernel
theorem d_MO_orbit_50 : decode b_MO_orbit 50 = .ok (.aload_n 0, 1) := by decide +kernel
theorem d_MO_orbit_51 : decode b_MO_orbit 51 = .ok (.iload 4, 2) := by decide +kernel
theorem d_MO_orbit_53 : decode b_MO_orbit 53 = .ok (.iload_n 2, 1) := by decide +kernel
theorem d_MO_orbit_54 : decode b_MO_orbit 54 = .ok (.invokevirtual 46, 3) := by decide +kernel
theorem d_MO_orbit_57 : decode b_MO_orbit 57 = .ok (.ishl, 1) := by decide +kernel
theorem d_MO_orbit_58 : decode b_MO_orbit 58 = .ok (.ior, 1) := by decide +kernel
theorem d_MO_orbit_59 : decode b_MO_orbit 59 = .ok (.goto 4, 3) := by decide +kernel
theorem d_MO_orbit_62 : decode b_MO_orbit 62 = .ok (.iload_n 3, 1) := by decide +kernel
theorem d_MO_orbit_63 : decode b_MO_orbit 63 = .ok (.istore_n 3, 1) := by decide +kernel
theorem d_MO_orbit_64 : decode b_MO_orbit 64 = .ok (.iinc 4 1, 3) := by decide +kernel
theorem d_MO_orbit_67 : decode b_MO_orbit 67 = .ok (.goto (-38), 3) := by decide +kernel
theorem d_MO_orbit_70 : decode b_MO_orbit 70 = .ok (.iload_n 3, 1) := by decide +kernel
theorem d_MO_orbit_71 : decode b_MO_orbit 71 = .ok (.ireturn, 1) := by decide +kernel
theorem d_MO_order_0 : decode b_MO_order 0 = .ok (.aload_n 0, 1) := by decide +kernel
theorem d_MO_order_1 : decode b_MO_order 1 = .ok (.iload_n 1, 1) := by decide +kernel
theorem d_MO_order_2 : decode b_MO_order 2 = .ok (.invokevirtual 102, 3) := by decide +kernel
theorem d_MO_order_5 : decode b_MO_order 5 = .ok (.ifCond .eq 11, 3) := by decide +kernel
theorem d_MO_order_8 : decode b_MO_order 8 = .ok (.aload_n 0, 1) := by decide +kernel
theorem d_MO_order_9 : decode b_MO_order 9 = .ok (.iload_n 1, 1) := by decide +kernel
theorem d_MO_order_10 : decode b_MO_order 10 = .ok (.invokevirtual 105, 3) := by decide +kernel
theorem d_MO_order_13 : decode b_MO_order 13 = .ok (.goto 4, 3) := by decide +kernel
theorem d_MO_order_16 : decode b_MO_order 16 = .ok (.iconst (-1), 1) := by decide +kernel
theorem d_MO_order_17 : decode b_MO_order 17 = .ok (.ireturn, 1) := by decide +kernel
theorem d_MO_orderOf_0 : decode b_MO_orderOf 0 = .ok (.iconst 0, 1) := by decide +kernel
theorem d_MO_orderOf_1 : decode b_MO_orderOf 1 = .ok (.istore_n 2, 1) := by decide +kernel
theorem d_MO_orderOf_2 : decode b_MO_orderOf 2 = .ok (.iconst 0, 1) := by decide +kernel
theorem d_MO_orderOf_3 : decode b_MO_orderOf 3 = .ok (.istore_n 3, 1) := by decide +kernel
theorem d_MO_orderOf_4 : decode b_MO_orderOf 4 = .ok (.iload_n 3, 1) := by decide +kernel
theorem d_MO_orderOf_5 : decode b_MO_orderOf 5 = .ok (.aload_n 0, 1) := by decide +kernel
theorem d_MO_orderOf_6 : decode b_MO_orderOf 6 = .ok (.getfield 39, 3) := by decide +kernel
theorem d_MO_orderOf_9 : decode b_MO_orderOf 9 = .ok (.if_icmp .ge 26, 3) := by decide +kernel
theorem d_MO_orderOf_12 : decode b_MO_orderOf 12 = .ok (.aload_n 0, 1) := by decide +kernel
theorem d_MO_orderOf_13 : decode b_MO_orderOf 13 = .ok (.iload_n 1, 1) := by decide +kernel
theorem d_MO_orderOf_14 : decode b_MO_orderOf 14 = .ok (.iload_n 3, 1) := by decide +kernel
theorem d_MO_orderOf_15 : decode b_MO_orderOf 15 = .ok (.invokevirtual 57, 3) := by decide +kernel
theorem d_MO_orderOf_18 : decode b_MO_orderOf 18 = .ok (.ifCond .eq 9, 3) := by decide +kernel
theorem d_MO_orderOf_21 : decode b_MO_orderOf 21 = .ok (.iload_n 2, 1) := by decide +kernel
theorem d_MO_orderOf_22 : decode b_MO_orderOf 22 = .ok (.iconst 1, 1) := by decide +kernel
theorem d_MO_orderOf_23 : decode b_MO_orderOf 23 = .ok (.iadd, 1) := by decide +kernel
theorem d_MO_orderOf_24 : decode b_MO_orderOf 24 = .ok (.goto 4, 3) := by decide +kernel
theorem d_MO_orderOf_27 : decode b_MO_orderOf 27 = .ok (.iload_n 2, 1) := by decide +kernel
theorem d_MO_orderOf_28 : decode b_MO_orderOf 28 = .ok (.istore_n 2, 1) := by decide +kernel
theorem d_MO_orderOf_29 : decode b_MO_orderOf 29 = .ok (.iinc 3 1, 3) := by decide +kernel
theorem d_MO_orderOf_32 : decode b_MO_orderOf 32 = .ok (.goto (-28), 3) := by decide +kernel
theorem d_MO_orderOf_35 : decode b_MO_orderOf 35 = .ok (.iload_n 2, 1) := by decide +kernel
theorem d_MO_orderOf_36 : decode b_MO_orderOf 36 = .ok (.ireturn, 1) := by decide +kernel
theorem d_MO_placeOf_0 : decode b_MO_placeOf 0 = .ok (.iconst 0, 1) := by decide +kernel
theorem d_MO_placeOf_1 : decode b_MO_placeOf 1 = .ok (.istore_n 2, 1) := by decide +kernel
theorem d_MO_placeOf_2 : decode b_MO_placeOf 2 = .ok (.iconst 0, 1) := by decide +kernel
theorem d_MO_placeOf_3 : decode b_MO_placeOf 3 = .ok (.istore_n 3, 1) := by decide +kernel
theorem d_MO_placeOf_4 : decode b_MO_placeOf 4 = .ok (.iconst 0, 1) := by decide +kernel
theorem d_MO_placeOf_5 : decode b_MO_placeOf 5 = .ok (.istore 4, 2) := by decide +kernel
theorem d_MO_placeOf_7 : decode b_MO_placeOf 7 = .ok (.iload 4, 2) := by decide +kernel
theorem d_MO_placeOf_9 : decode b_MO_placeOf 9 = .ok (.aload_n 0, 1) := by decide +kernel
theorem d_MO_placeOf_10 : decode b_MO_placeOf 10 = .ok (.getfield 36, 3) := by decide +kernel
theorem d_MO_placeOf_13 : decode b_MO_placeOf 13 = .ok (.if_icmp .ge 71, 3) := by decide +kernel
theorem d_MO_placeOf_16 : decode b_MO_placeOf 16 = .ok (.iload_n 1, 1) := by decide +kernel
theorem d_MO_placeOf_17 : decode b_MO_placeOf 17 = .ok (.iconst 3, 1) := by decide +kernel
theorem d_MO_placeOf_18 : decode b_MO_placeOf 18 = .ok (.iload 4, 2) := by decide +kernel
theorem d_MO_placeOf_20 : decode b_MO_placeOf 20 = .ok (.imul, 1) := by decide +kernel
theorem d_MO_placeOf_21 : decode b_MO_placeOf 21 = .ok (.ishr, 1) := by decide +kernel
theorem d_MO_placeOf_22 : decode b_MO_placeOf 22 = .ok (.bipush 7, 2) := by decide +kernel
theorem d_MO_placeOf_24 : decode b_MO_placeOf 24 = .ok (.iand, 1) := by decide +kernel
theorem d_MO_placeOf_25 : decode b_MO_placeOf 25 = .ok (.istore 5, 2) := by decide +kernel
theorem d_MO_placeOf_27 : decode b_MO_placeOf 27 = .ok (.iload 5, 2) := by decide +kernel
theorem d_MO_placeOf_29 : decode b_MO_placeOf 29 = .ok (.istore 6, 2) := by decide +kernel
theorem d_MO_placeOf_31 : decode b_MO_placeOf 31 = .ok (.iconst 0, 1) := by decide +kernel
theorem d_MO_placeOf_32 : decode b_MO_placeOf 32 = .ok (.istore 7, 2) := by decide +kernel
theorem d_MO_placeOf_34 : decode b_MO_placeOf 34 = .ok (.iload 7, 2) := by decide +kernel
theorem d_MO_placeOf_36 : decode b_MO_placeOf 36 = .ok (.iload 5, 2) := by decide +kernel
theorem d_MO_placeOf_38 : decode b_MO_placeOf 38 = .ok (.if_icmp .ge 20, 3) := by decide +kernel
theorem d_MO_placeOf_41 : decode b_MO_placeOf 41 = .ok (.iload 6, 2) := by decide +kernel
theorem d_MO_placeOf_43 : decode b_MO_placeOf 43 = .ok (.iload_n 3, 1) := by decide +kernel
theorem d_MO_placeOf_44 : decode b_MO_placeOf 44 = .ok (.iload 7, 2) := by decide +kernel
theorem d_MO_placeOf_46 : decode b_MO_placeOf 46 = .ok (.ishr, 1) := by decide +kernel
theorem d_MO_placeOf_47 : decode b_MO_placeOf 47 = .ok (.iconst 1, 1) := by decide +kernel
theorem d_MO_placeOf_48 : decode b_MO_placeOf 48 = .ok (.iand, 1) := by decide +kernel
theorem d_MO_placeOf_49 : decode b_MO_placeOf 49 = .ok (.isub, 1) := by decide +kernel
theorem d_MO_placeOf_50 : decode b_MO_placeOf 50 = .ok (.istore 6, 2) := by decide +kernel
theorem d_MO_placeOf_52 : decode b_MO_placeOf 52 = .ok (.iinc 7 1, 3) := by decide +kernel
theorem d_MO_placeOf_55 : decode b_MO_placeOf 55 = .ok (.goto (-21), 3) := by decide +kernel
theorem d_MO_placeOf_58 : decode b_MO_placeOf 58 = .ok (.iload_n 3, 1) := by decide +kernel
theorem d_MO_placeOf_59 : decode b_MO_placeOf 59 = .ok (.iconst 1, 1) := by decide +kernel
theorem d_MO_placeOf_60 : decode b_MO_placeOf 60 = .ok (.iload 5, 2) := by decide +kernel
theorem d_MO_placeOf_62 : decode b_MO_placeOf 62 = .ok (.ishl, 1) := by decide +kernel
theorem d_MO_placeOf_63 : decode b_MO_placeOf 63 = .ok (.ior, 1) := by decide +kernel
theorem d_MO_placeOf_64 : decode b_MO_placeOf 64 = .ok (.istore_n 3, 1) := by decide +kernel
theorem d_MO_placeOf_65 : decode b_MO_placeOf 65 = .ok (.iload_n 2, 1) := by decide +kernel
theorem d_MO_placeOf_66 : decode b_MO_placeOf 66 = .ok (.aload_n 0, 1) := by decide +kernel
theorem d_MO_placeOf_67 : decode b_MO_placeOf 67 = .ok (.getfield 36, 3) := by decide +kernel
theorem d_MO_placeOf_70 : decode b_MO_placeOf 70 = .ok (.iload 4, 2) := by decide +kernel
theorem d_MO_placeOf_72 : decode b_MO_placeOf 72 = .ok (.isub, 1) := by decide +kernel
theorem d_MO_placeOf_73 : decode b_MO_placeOf 73 = .ok (.imul, 1) := by decide +kernel
theorem d_MO_placeOf_74 : decode b_MO_placeOf 74 = .ok (.iload 6, 2) := by decide +kernel
theorem d_MO_placeOf_76 : decode b_MO_placeOf 76 = .ok (.iadd, 1) := by decide +kernel
theorem d_MO_placeOf_77 : decode b_MO_placeOf 77 = .ok (.istore_n 2, 1) := by decide +kernel
theorem d_MO_placeOf_78 : decode b_MO_placeOf 78 = .ok (.iinc 4 1, 3) := by decide +kernel
theorem d_MO_placeOf_81 : decode b_MO_placeOf 81 = .ok (.goto (-74), 3) := by decide +kernel
theorem d_MO_placeOf_84 : decode b_MO_placeOf 84 = .ok (.iload_n 2, 1) := by decide +kernel
theorem d_MO_placeOf_85 : decode b_MO_placeOf 85 = .ok (.ireturn, 1) := by decide +kernel
theorem d_MO_product_0 : decode b_MO_product 0 = .ok (.aload_n 0, 1) := by decide +kernel
theorem d_MO_product_1 : decode b_MO_product 1 = .ok (.iload_n 1, 1) := by decide +kernel
theorem d_MO_product_2 : decode b_MO_product 2 = .ok (.invokevirtual 98, 3) := by decide +kernel
theorem d_MO_product_5 : decode b_MO_product 5 = .ok (.ifCond .eq 43, 3) := by decide +kernel
theorem d_MO_product_8 : decode b_MO_product 8 = .ok (.aload_n 0, 1) := by decide +kernel
theorem d_MO_product_9 : decode b_MO_product 9 = .ok (.iload_n 2, 1) := by decide +kernel
theorem d_MO_product_10 : decode b_MO_product 10 = .ok (.invokevirtual 98, 3) := by decide +kernel
theorem d_MO_product_13 : decode b_MO_product 13 = .ok (.ifCond .eq 35, 3) := by decide +kernel
theorem d_MO_product_16 : decode b_MO_product 16 = .ok (.aload_n 0, 1) := by decide +kernel
theorem d_MO_product_17 : decode b_MO_product 17 = .ok (.getfield 13, 3) := by decide +kernel
theorem d_MO_product_20 : decode b_MO_product 20 = .ok (.bipush 40, 2) := by decide +kernel
theorem d_MO_product_22 : decode b_MO_product 22 = .ok (.if_icmp .ge 26, 3) := by decide +kernel
theorem d_MO_product_25 : decode b_MO_product 25 = .ok (.aload_n 0, 1) := by decide +kernel
theorem d_MO_product_26 : decode b_MO_product 26 = .ok (.aload_n 0, 1) := by decide +kernel
theorem d_MO_product_27 : decode b_MO_product 27 = .ok (.aload_n 0, 1) := by decide +kernel
theorem d_MO_product_28 : decode b_MO_product 28 = .ok (.getfield 17, 3) := by decide +kernel
theorem d_MO_product_31 : decode b_MO_product 31 = .ok (.iload_n 1, 1) := by decide +kernel
theorem d_MO_product_32 : decode b_MO_product 32 = .ok (.iaload, 1) := by decide +kernel
theorem d_MO_product_33 : decode b_MO_product 33 = .ok (.aload_n 0, 1) := by decide +kernel
theorem d_MO_product_34 : decode b_MO_product 34 = .ok (.getfield 17, 3) := by decide +kernel
theorem d_MO_product_37 : decode b_MO_product 37 = .ok (.iload_n 2, 1) := by decide +kernel
theorem d_MO_product_38 : decode b_MO_product 38 = .ok (.iaload, 1) := by decide +kernel
theorem d_MO_product_39 : decode b_MO_product 39 = .ok (.invokevirtual 64, 3) := by decide +kernel
theorem d_MO_product_42 : decode b_MO_product 42 = .ok (.invokevirtual 92, 3) := by decide +kernel
theorem d_MO_product_45 : decode b_MO_product 45 = .ok (.goto 4, 3) := by decide +kernel
theorem d_MO_product_48 : decode b_MO_product 48 = .ok (.iconst (-1), 1) := by decide +kernel
theorem d_MO_product_49 : decode b_MO_product 49 = .ok (.ireturn, 1) := by decide +kernel
theorem d_MO_put_0 : decode b_MO_put 0 = .ok (.aload_n 0, 1) := by decide +kernel
theorem d_MO_put_1 : decode b_MO_put 1 = .ok (.getfield 20, 3) := by decide +kernel
theorem d_MO_put_4 : decode b_MO_put 4 = .ok (.bipush 12, 2) := by decide +kernel
theorem d_MO_put_6 : decode b_MO_put 6 = .ok (.iload_n 1, 1) := by decide +kernel
theorem d_MO_put_7 : decode b_MO_put 7 = .ok (.imul, 1) := by decide +kernel
theorem d_MO_put_8 : decode b_MO_put 8 = .ok (.iload_n 2, 1) := by decide +kernel
theorem d_MO_put_9 : decode b_MO_put 9 = .ok (.bipush 64, 2) := by decide +kernel
theorem d_MO_put_11 : decode b_MO_put 11 = .ok (.idiv, 1) := by decide +kernel
theorem d_MO_put_12 : decode b_MO_put 12 = .ok (.iadd, 1) := by decide +kernel
theorem d_MO_put_13 : decode b_MO_put 13 = .ok (.aload_n 0, 1) := by decide +kernel
theorem d_MO_put_14 : decode b_MO_put 14 = .ok (.getfield 20, 3) := by decide +kernel
theorem d_MO_put_17 : decode b_MO_put 17 = .ok (.bipush 12, 2) := by decide +kernel
theorem d_MO_put_19 : decode b_MO_put 19 = .ok (.iload_n 1, 1) := by decide +kernel
theorem d_MO_put_20 : decode b_MO_put 20 = .ok (.imul, 1) := by decide +kernel
theorem d_MO_put_21 : decode b_MO_put 21 = .ok (.iload_n 2, 1) := by decide +kernel
theorem d_MO_put_22 : decode b_MO_put 22 = .ok (.bipush 64, 2) := by decide +kernel
theorem d_MO_put_24 : decode b_MO_put 24 = .ok (.idiv, 1) := by decide +kernel
theorem d_MO_put_25 : decode b_MO_put 25 = .ok (.iadd, 1) := by decide +kernel
theorem d_MO_put_26 : decode b_MO_put 26 = .ok (.laload, 1) := by decide +kernel
theorem d_MO_put_27 : decode b_MO_put 27 = .ok (.lconst 1, 1) := by decide +kernel
theorem d_MO_put_28 : decode b_MO_put 28 = .ok (.iload_n 2, 1) := by decide +kernel
theorem d_MO_put_29 : decode b_MO_put 29 = .ok (.bipush 64, 2) := by decide +kernel
theorem d_MO_put_31 : decode b_MO_put 31 = .ok (.irem, 1) := by decide +kernel
theorem d_MO_put_32 : decode b_MO_put 32 = .ok (.lshl, 1) := by decide +kernel
theorem d_MO_put_33 : decode b_MO_put 33 = .ok (.lor, 1) := by decide +kernel
theorem d_MO_put_34 : decode b_MO_put 34 = .ok (.lastore, 1) := by decide +kernel
theorem d_MO_put_35 : decode b_MO_put 35 = .ok (.return_, 1) := by decide +kernel
theorem d_MO_putCoset_0 : decode b_MO_putCoset 0 = .ok (.iconst 0, 1) := by decide +kernel
theorem d_MO_putCoset_1 : decode b_MO_putCoset 1 = .ok (.istore_n 3, 1) := by decide +kernel
theorem d_MO_putCoset_2 : decode b_MO_putCoset 2 = .ok (.iload_n 3, 1) := by decide +kernel
theorem d_MO_putCoset_3 : decode b_MO_putCoset 3 = .ok (.aload_n 0, 1) := by decide +kernel
theorem d_MO_putCoset_4 : decode b_MO_putCoset 4 = .ok (.getfield 39, 3) := by decide +kernel
theorem d_MO_putCoset_7 : decode b_MO_putCoset 7 = .ok (.if_icmp .ge 30, 3) := by decide +kernel
theorem d_MO_putCoset_10 : decode b_MO_putCoset 10 = .ok (.aload_n 0, 1) := by decide +kernel
theorem d_MO_putCoset_11 : decode b_MO_putCoset 11 = .ok (.bipush 14, 2) := by decide +kernel
theorem d_MO_putCoset_13 : decode b_MO_putCoset 13 = .ok (.iload_n 3, 1) := by decide +kernel
theorem d_MO_putCoset_14 : decode b_MO_putCoset 14 = .ok (.invokevirtual 57, 3) := by decide +kernel
theorem d_MO_putCoset_17 : decode b_MO_putCoset 17 = .ok (.ifCond .eq 14, 3) := by decide +kernel
theorem d_MO_putCoset_20 : decode b_MO_putCoset 20 = .ok (.aload_n 0, 1) := by decide +kernel
theorem d_MO_putCoset_21 : decode b_MO_putCoset 21 = .ok (.iload_n 1, 1) := by decide +kernel
theorem d_MO_putCoset_22 : decode b_MO_putCoset 22 = .ok (.aload_n 0, 1) := by decide +kernel
theorem d_MO_putCoset_23 : decode b_MO_putCoset 23 = .ok (.iload_n 3, 1) := by decide +kernel
theorem d_MO_putCoset_24 : decode b_MO_putCoset 24 = .ok (.iload_n 2, 1) := by decide +kernel
theorem d_MO_putCoset_25 : decode b_MO_putCoset 25 = .ok (.invokevirtual 64, 3) := by decide +kernel
theorem d_MO_putCoset_28 : decode b_MO_putCoset 28 = .ok (.invokevirtual 53, 3) := by decide +kernel
theorem d_MO_putCoset_31 : decode b_MO_putCoset 31 = .ok (.iinc 3 1, 3) := by decide +kernel
theorem d_MO_putCoset_34 : decode b_MO_putCoset 34 = .ok (.goto (-32), 3) := by decide +kernel
theorem d_MO_putCoset_37 : decode b_MO_putCoset 37 = .ok (.return_, 1) := by decide +kernel
theorem d_MO_read_0 : decode b_MO_read 0 = .ok (.aload_n 0, 1) := by decide +kernel
theorem d_MO_read_1 : decode b_MO_read 1 = .ok (.getfield 89, 3) := by decide +kernel
theorem d_MO_read_4 : decode b_MO_read 4 = .ok (.istore_n 1, 1) := by decide +kernel
theorem d_MO_read_5 : decode b_MO_read 5 = .ok (.aload_n 0, 1) := by decide +kernel
theorem d_MO_read_6 : decode b_MO_read 6 = .ok (.iconst 0, 1) := by decide +kernel
theorem d_MO_read_7 : decode b_MO_read 7 = .ok (.putfield 89, 3) := by decide +kernel
theorem d_MO_read_10 : decode b_MO_read 10 = .ok (.aload_n 0, 1) := by decide +kernel
theorem d_MO_read_11 : decode b_MO_read 11 = .ok (.getfield 7, 3) := by decide +kernel
theorem d_MO_read_14 : decode b_MO_read 14 = .ok (.iconst 0, 1) := by decide +kernel
theorem d_MO_read_15 : decode b_MO_read 15 = .ok (.iaload, 1) := by decide +kernel
theorem d_MO_read_16 : decode b_MO_read 16 = .ok (.istore_n 2, 1) := by decide +kernel
theorem d_MO_read_17 : decode b_MO_read 17 = .ok (.iconst 0, 1) := by decide +kernel
theorem d_MO_read_18 : decode b_MO_read 18 = .ok (.istore_n 3, 1) := by decide +kernel
theorem d_MO_read_19 : decode b_MO_read 19 = .ok (.bipush (-2), 2) := by decide +kernel
theorem d_MO_read_21 : decode b_MO_read 21 = .ok (.istore 4, 2) := by decide +kernel
theorem d_MO_read_23 : decode b_MO_read 23 = .ok (.iconst (-1), 1) := by decide +kernel
theorem d_MO_read_24 : decode b_MO_read 24 = .ok (.istore 5, 2) := by decide +kernel
theorem d_MO_read_26 : decode b_MO_read 26 = .ok (.iconst 0, 1) := by decide +kernel
theorem d_MO_read_27 : decode b_MO_read 27 = .ok (.istore 6, 2) := by decide +kernel
theorem d_MO_read_29 : decode b_MO_read 29 = .ok (.iload 6, 2) := by decide +kernel
theorem d_MO_read_31 : decode b_MO_read 31 = .ok (.iload_n 1, 1) := by decide +kernel
theorem d_MO_read_32 : decode b_MO_read 32 = .ok (.if_icmp .ge 184, 3) := by decide +kernel
theorem d_MO_read_35 : decode b_MO_read 35 = .ok (.aload_n 0, 1) := by decide +kernel
theorem d_MO_read_36 : decode b_MO_read 36 = .ok (.getfield 33, 3) := by decide +kernel
theorem d_MO_read_39 : decode b_MO_read 39 = .ok (.iload 6, 2) := by decide +kernel
theorem d_MO_read_41 : decode b_MO_read 41 = .ok (.iaload, 1) := by decide +kernel
theorem d_MO_read_42 : decode b_MO_read 42 = .ok (.istore 7, 2) := by decide +kernel
theorem d_MO_read_44 : decode b_MO_read 44 = .ok (.iload 7, 2) := by decide +kernel
theorem d_MO_read_46 : decode b_MO_read 46 = .ok (.bipush 48, 2) := by decide +kernel
theorem d_MO_read_48 : decode b_MO_read 48 = .ok (.isub, 1) := by decide +kernel
theorem d_MO_read_49 : decode b_MO_read 49 = .ok (.istore 8, 2) := by decide +kernel
theorem d_MO_read_51 : decode b_MO_read 51 = .ok (.iload 7, 2) := by decide +kernel
theorem d_MO_read_53 : decode b_MO_read 53 = .ok (.bipush 40, 2) := by decide +kernel
theorem d_MO_read_55 : decode b_MO_read 55 = .ok (.if_icmp .ne 16, 3) := by decide +kernel
theorem d_MO_read_58 : decode b_MO_read 58 = .ok (.iload 4, 2) := by decide +kernel
theorem d_MO_read_60 : decode b_MO_read 60 = .ok (.bipush (-2), 2) := by decide +kernel
theorem d_MO_read_62 : decode b_MO_read 62 = .ok (.if_icmp .ne 9, 3) := by decide +kernel
theorem d_MO_read_65 : decode b_MO_read 65 = .ok (.iconst (-1), 1) := by decide +kernel
theorem d_MO_read_66 : decode b_MO_read 66 = .ok (.istore 4, 2) := by decide +kernel
theorem d_MO_read_68 : decode b_MO_read 68 = .ok (.goto 142, 3) := by decide +kernel
theorem d_MO_read_71 : decode b_MO_read 71 = .ok (.iload 7, 2) := by decide +kernel
theorem d_MO_read_73 : decode b_MO_read 73 = .ok (.bipush 41, 2) := by decide +kernel
theorem d_MO_read_75 : decode b_MO_read 75 = .ok (.if_icmp .ne 35, 3) := by decide +kernel
theorem d_MO_read_78 : decode b_MO_read 78 = .ok (.iload 4, 2) := by decide +kernel
theorem d_MO_read_80 : decode b_MO_read 80 = .ok (.ifCond .lt 30, 3) := by decide +kernel
theorem d_MO_read_83 : decode b_MO_read 83 = .ok (.iload_n 2, 1) := by decide +kernel
theorem d_MO_read_84 : decode b_MO_read 84 = .ok (.bipush 7, 2) := by decide +kernel
theorem d_MO_read_86 : decode b_MO_read 86 = .ok (.iconst 3, 1) := by decide +kernel
theorem d_MO_read_87 : decode b_MO_read 87 = .ok (.iload 5, 2) := by decide +kernel
theorem d_MO_read_89 : decode b_MO_read 89 = .ok (.imul, 1) := by decide +kernel
theorem d_MO_read_90 : decode b_MO_read 90 = .ok (.ishl, 1) := by decide +kernel
theorem d_MO_read_91 : decode b_MO_read 91 = .ok (.iconst (-1), 1) := by decide +kernel
theorem d_MO_read_92 : decode b_MO_read 92 = .ok (.ixor, 1) := by decide +kernel
theorem d_MO_read_93 : decode b_MO_read 93 = .ok (.iand, 1) := by decide +kernel
theorem d_MO_read_94 : decode b_MO_read 94 = .ok (.iload 4, 2) := by decide +kernel
theorem d_MO_read_96 : decode b_MO_read 96 = .ok (.iconst 3, 1) := by decide +kernel
theorem d_MO_read_97 : decode b_MO_read 97 = .ok (.iload 5, 2) := by decide +kernel
theorem d_MO_read_99 : decode b_MO_read 99 = .ok (.imul, 1) := by decide +kernel
theorem d_MO_read_100 : decode b_MO_read 100 = .ok (.ishl, 1) := by decide +kernel
theorem d_MO_read_101 : decode b_MO_read 101 = .ok (.ior, 1) := by decide +kernel
theorem d_MO_read_102 : decode b_MO_read 102 = .ok (.istore_n 2, 1) := by decide +kernel
theorem d_MO_read_103 : decode b_MO_read 103 = .ok (.bipush (-2), 2) := by decide +kernel
theorem d_MO_read_105 : decode b_MO_read 105 = .ok (.istore 4, 2) := by decide +kernel
theorem d_MO_read_107 : decode b_MO_read 107 = .ok (.goto 103, 3) := by decide +kernel
theorem d_MO_read_110 : decode b_MO_read 110 = .ok (.iload 4, 2) := by decide +kernel
theorem d_MO_read_112 : decode b_MO_read 112 = .ok (.bipush (-2), 2) := by decide +kernel
theorem d_MO_read_114 : decode b_MO_read 114 = .ok (.if_icmp .le 84, 3) := by decide +kernel
theorem d_MO_read_117 : decode b_MO_read 117 = .ok (.iload 8, 2) := by decide +kernel
theorem d_MO_read_119 : decode b_MO_read 119 = .ok (.iconst 0, 1) := by decide +kernel
theorem d_MO_read_120 : decode b_MO_read 120 = .ok (.aload_n 0, 1) := by decide +kernel
theorem d_MO_read_121 : decode b_MO_read 121 = .ok (.getfield 36, 3) := by decide +kernel
theorem d_MO_read_124 : decode b_MO_read 124 = .ok (.iconst 1, 1) := by decide +kernel
theorem d_MO_read_125 : decode b_MO_read 125 = .ok (.isub, 1) := by decide +kernel
theorem d_MO_read_126 : decode b_MO_read 126 = .ok (.invokestatic 85, 3) := by decide +kernel
theorem d_MO_read_129 : decode b_MO_read 129 = .ok (.ifCond .eq 69, 3) := by decide +kernel
theorem d_MO_read_132 : decode b_MO_read 132 = .ok (.iload_n 3, 1) := by decide +kernel
theorem d_MO_read_133 : decode b_MO_read 133 = .ok (.iload 8, 2) := by decide +kernel
theorem d_MO_read_135 : decode b_MO_read 135 = .ok (.ishr, 1) := by decide +kernel
theorem d_MO_read_136 : decode b_MO_read 136 = .ok (.iconst 1, 1) := by decide +kernel
theorem d_MO_read_137 : decode b_MO_read 137 = .ok (.iand, 1) := by decide +kernel
theorem d_MO_read_138 : decode b_MO_read 138 = .ok (.ifCond .ne 60, 3) := by decide +kernel
theorem d_MO_read_141 : decode b_MO_read 141 = .ok (.iload_n 3, 1) := by decide +kernel
theorem d_MO_read_142 : decode b_MO_read 142 = .ok (.iconst 1, 1) := by decide +kernel
theorem d_MO_read_143 : decode b_MO_read 143 = .ok (.iload 8, 2) := by decide +kernel
theorem d_MO_read_145 : decode b_MO_read 145 = .ok (.ishl, 1) := by decide +kernel
theorem d_MO_read_146 : decode b_MO_read 146 = .ok (.ior, 1) := by decide +kernel
theorem d_MO_read_147 : decode b_MO_read 147 = .ok (.istore_n 3, 1) := by decide +kernel
theorem d_MO_read_148 : decode b_MO_read 148 = .ok (.iload 4, 2) := by decide +kernel
theorem d_MO_read_150 : decode b_MO_read 150 = .ok (.ifCond .ge 7, 3) := by decide +kernel
theorem d_MO_read_153 : decode b_MO_read 153 = .ok (.iload_n 2, 1) := by decide +kernel
theorem d_MO_read_154 : decode b_MO_read 154 = .ok (.goto 22, 3) := by decide +kernel
theorem d_MO_read_157 : decode b_MO_read 157 = .ok (.iload_n 2, 1) := by decide +kernel
theorem d_MO_read_158 : decode b_MO_read 158 = .ok (.bipush 7, 2) := by decide +kernel
theorem d_MO_read_160 : decode b_MO_read 160 = .ok (.iconst 3, 1) := by decide +kernel
theorem d_MO_read_161 : decode b_MO_read 161 = .ok (.iload 5, 2) := by decide +kernel
theorem d_MO_read_163 : decode b_MO_read 163 = .ok (.imul, 1) := by decide +kernel
theorem d_MO_read_164 : decode b_MO_read 164 = .ok (.ishl, 1) := by decide +kernel
theorem d_MO_read_165 : decode b_MO_read 165 = .ok (.iconst (-1), 1) := by decide +kernel
theorem d_MO_read_166 : decode b_MO_read 166 = .ok (.ixor, 1) := by decide +kernel
theorem d_MO_read_167 : decode b_MO_read 167 = .ok (.iand, 1) := by decide +kernel
theorem d_MO_read_168 : decode b_MO_read 168 = .ok (.iload 8, 2) := by decide +kernel
theorem d_MO_read_170 : decode b_MO_read 170 = .ok (.iconst 3, 1) := by decide +kernel
theorem d_MO_read_171 : decode b_MO_read 171 = .ok (.iload 5, 2) := by decide +kernel
theorem d_MO_read_173 : decode b_MO_read 173 = .ok (.imul, 1) := by decide +kernel
theorem d_MO_read_174 : decode b_MO_read 174 = .ok (.ishl, 1) := by decide +kernel
theorem d_MO_read_175 : decode b_MO_read 175 = .ok (.ior, 1) := by decide +kernel
theorem d_MO_read_176 : decode b_MO_read 176 = .ok (.istore_n 2, 1) := by decide +kernel
theorem d_MO_read_177 : decode b_MO_read 177 = .ok (.iload 4, 2) := by decide +kernel
theorem d_MO_read_179 : decode b_MO_read 179 = .ok (.ifCond .ge 8, 3) := by decide +kernel
theorem d_MO_read_182 : decode b_MO_read 182 = .ok (.iload 8, 2) := by decide +kernel
theorem d_MO_read_184 : decode b_MO_read 184 = .ok (.goto 5, 3) := by decide +kernel
theorem d_MO_read_187 : decode b_MO_read 187 = .ok (.iload 4, 2) := by decide +kernel
theorem d_MO_read_189 : decode b_MO_read 189 = .ok (.istore 4, 2) := by decide +kernel
theorem d_MO_read_191 : decode b_MO_read 191 = .ok (.iload 8, 2) := by decide +kernel
theorem d_MO_read_193 : decode b_MO_read 193 = .ok (.istore 5, 2) := by decide +kernel
theorem d_MO_read_195 : decode b_MO_read 195 = .ok (.goto 15, 3) := by decide +kernel
theorem d_MO_read_198 : decode b_MO_read 198 = .ok (.iload 7, 2) := by decide +kernel
theorem d_MO_read_200 : decode b_MO_read 200 = .ok (.bipush 32, 2) := by decide +kernel
theorem d_MO_read_202 : decode b_MO_read 202 = .ok (.if_icmp .eq 8, 3) := by decide +kernel
theorem d_MO_read_205 : decode b_MO_read 205 = .ok (.iconst (-1), 1) := by decide +kernel
theorem d_MO_read_206 : decode b_MO_read 206 = .ok (.iload 6, 2) := by decide +kernel
theorem d_MO_read_208 : decode b_MO_read 208 = .ok (.isub, 1) := by decide +kernel
theorem d_MO_read_209 : decode b_MO_read 209 = .ok (.ireturn, 1) := by decide +kernel
theorem d_MO_read_210 : decode b_MO_read 210 = .ok (.iinc 6 1, 3) := by decide +kernel
theorem d_MO_read_213 : decode b_MO_read 213 = .ok (.goto (-184), 3) := by decide +kernel
theorem d_MO_read_216 : decode b_MO_read 216 = .ok (.iload 4, 2) := by decide +kernel
theorem d_MO_read_218 : decode b_MO_read 218 = .ok (.bipush (-2), 2) := by decide +kernel
theorem d_MO_read_220 : decode b_MO_read 220 = .ok (.if_icmp .le 7, 3) := by decide +kernel
theorem d_MO_read_223 : decode b_MO_read 223 = .ok (.iconst (-1), 1) := by decide +kernel
theorem d_MO_read_224 : decode b_MO_read 224 = .ok (.iload_n 1, 1) := by decide +kernel
theorem d_MO_read_225 : decode b_MO_read 225 = .ok (.isub, 1) := by decide +kernel
theorem d_MO_read_226 : decode b_MO_read 226 = .ok (.ireturn, 1) := by decide +kernel
theorem d_MO_read_227 : decode b_MO_read 227 = .ok (.aload_n 0, 1) := by decide +kernel
theorem d_MO_read_228 : decode b_MO_read 228 = .ok (.getfield 13, 3) := by decide +kernel
theorem d_MO_read_231 : decode b_MO_read 231 = .ok (.bipush 40, 2) := by decide +kernel
theorem d_MO_read_233 : decode b_MO_read 233 = .ok (.if_icmp .lt 9, 3) := by decide +kernel
theorem d_MO_read_236 : decode b_MO_read 236 = .ok (.sipush (-1000), 3) := by decide +kernel
theorem d_MO_read_239 : decode b_MO_read 239 = .ok (.goto 12, 3) := by decide +kernel
theorem d_MO_read_242 : decode b_MO_read 242 = .ok (.aload_n 0, 1) := by decide +kernel
theorem d_MO_read_243 : decode b_MO_read 243 = .ok (.aload_n 0, 1) := by decide +kernel
theorem d_MO_read_244 : decode b_MO_read 244 = .ok (.iload_n 2, 1) := by decide +kernel
theorem d_MO_read_245 : decode b_MO_read 245 = .ok (.invokevirtual 50, 3) := by decide +kernel
theorem d_MO_read_248 : decode b_MO_read 248 = .ok (.invokevirtual 92, 3) := by decide +kernel
theorem d_MO_read_251 : decode b_MO_read 251 = .ok (.ireturn, 1) := by decide +kernel
theorem d_MO_times_0 : decode b_MO_times 0 = .ok (.iconst 0, 1) := by decide +kernel
theorem d_MO_times_1 : decode b_MO_times 1 = .ok (.istore_n 3, 1) := by decide +kernel
theorem d_MO_times_2 : decode b_MO_times 2 = .ok (.iconst 0, 1) := by decide +kernel
theorem d_MO_times_3 : decode b_MO_times 3 = .ok (.istore 4, 2) := by decide +kernel
theorem d_MO_times_5 : decode b_MO_times 5 = .ok (.iload 4, 2) := by decide +kernel
theorem d_MO_times_7 : decode b_MO_times 7 = .ok (.aload_n 0, 1) := by decide +kernel
theorem d_MO_times_8 : decode b_MO_times 8 = .ok (.getfield 36, 3) := by decide +kernel
theorem d_MO_times_11 : decode b_MO_times 11 = .ok (.if_icmp .ge 29, 3) := by decide +kernel
theorem d_MO_times_14 : decode b_MO_times 14 = .ok (.iload_n 3, 1) := by decide +kernel
theorem d_MO_times_15 : decode b_MO_times 15 = .ok (.aload_n 0, 1) := by decide +kernel
theorem d_MO_times_16 : decode b_MO_times 16 = .ok (.iload_n 2, 1) := by decide +kernel
theorem d_MO_times_17 : decode b_MO_times 17 = .ok (.aload_n 0, 1) := by decide +kernel
theorem d_MO_times_18 : decode b_MO_times 18 = .ok (.iload_n 1, 1) := by decide +kernel
theorem d_MO_times_19 : decode b_MO_times 19 = .ok (.iload 4, 2) := by decide +kernel
theorem d_MO_times_21 : decode b_MO_times 21 = .ok (.invokevirtual 46, 3) := by decide +kernel
theorem d_MO_times_24 : decode b_MO_times 24 = .ok (.invokevirtual 46, 3) := by decide +kernel
theorem d_MO_times_27 : decode b_MO_times 27 = .ok (.iconst 3, 1) := by decide +kernel
theorem d_MO_times_28 : decode b_MO_times 28 = .ok (.iload 4, 2) := by decide +kernel
theorem d_MO_times_30 : decode b_MO_times 30 = .ok (.imul, 1) := by decide +kernel
theorem d_MO_times_31 : decode b_MO_times 31 = .ok (.ishl, 1) := by decide +kernel
theorem d_MO_times_32 : decode b_MO_times 32 = .ok (.ior, 1) := by decide +kernel
theorem d_MO_times_33 : decode b_MO_times 33 = .ok (.istore_n 3, 1) := by decide +kernel
theorem d_MO_times_34 : decode b_MO_times 34 = .ok (.iinc 4 1, 3) := by decide +kernel
theorem d_MO_times_37 : decode b_MO_times 37 = .ok (.goto (-32), 3) := by decide +kernel
theorem d_MO_times_40 : decode b_MO_times 40 = .ok (.aload_n 0, 1) := by decide +kernel
theorem d_MO_times_41 : decode b_MO_times 41 = .ok (.iload_n 3, 1) := by decide +kernel
theorem d_MO_times_42 : decode b_MO_times 42 = .ok (.invokevirtual 50, 3) := by decide +kernel
theorem d_MO_times_45 : decode b_MO_times 45 = .ok (.ireturn, 1) := by decide +kernel
theorem d_MO_trivial_0 : decode b_MO_trivial 0 = .ok (.iconst 0, 1) := by decide +kernel
theorem d_MO_trivial_1 : decode b_MO_trivial 1 = .ok (.istore_n 2, 1) := by decide +kernel
theorem d_MO_trivial_2 : decode b_MO_trivial 2 = .ok (.iload_n 2, 1) := by decide +kernel
theorem d_MO_trivial_3 : decode b_MO_trivial 3 = .ok (.bipush 12, 2) := by decide +kernel
theorem d_MO_trivial_5 : decode b_MO_trivial 5 = .ok (.if_icmp .ge 21, 3) := by decide +kernel
theorem d_MO_trivial_8 : decode b_MO_trivial 8 = .ok (.aload_n 0, 1) := by decide +kernel
theorem d_MO_trivial_9 : decode b_MO_trivial 9 = .ok (.getfield 20, 3) := by decide +kernel
theorem d_MO_trivial_12 : decode b_MO_trivial 12 = .ok (.bipush 12, 2) := by decide +kernel
theorem d_MO_trivial_14 : decode b_MO_trivial 14 = .ok (.iload_n 1, 1) := by decide +kernel
theorem d_MO_trivial_15 : decode b_MO_trivial 15 = .ok (.imul, 1) := by decide +kernel
theorem d_MO_trivial_16 : decode b_MO_trivial 16 = .ok (.iload_n 2, 1) := by decide +kernel
theorem d_MO_trivial_17 : decode b_MO_trivial 17 = .ok (.iadd, 1) := by decide +kernel
theorem d_MO_trivial_18 : decode b_MO_trivial 18 = .ok (.lconst 0, 1) := by decide +kernel
theorem d_MO_trivial_19 : decode b_MO_trivial 19 = .ok (.lastore, 1) := by decide +kernel
theorem d_MO_trivial_20 : decode b_MO_trivial 20 = .ok (.iinc 2 1, 3) := by decide +kernel
theorem d_MO_trivial_23 : decode b_MO_trivial 23 = .ok (.goto (-21), 3) := by decide +kernel
theorem d_MO_trivial_26 : decode b_MO_trivial 26 = .ok (.aload_n 0, 1) := by decide +kernel
theorem d_MO_trivial_27 : decode b_MO_trivial 27 = .ok (.iload_n 1, 1) := by decide +kernel
theorem d_MO_trivial_28 : decode b_MO_trivial 28 = .ok (.iconst 0, 1) := by decide +kernel
theorem d_MO_trivial_29 : decode b_MO_trivial 29 = .ok (.invokevirtual 53, 3) := by decide +kernel
theorem d_MO_trivial_32 : decode b_MO_trivial 32 = .ok (.aload_n 0, 1) := by decide +kernel
theorem d_MO_trivial_33 : decode b_MO_trivial 33 = .ok (.getfield 24, 3) := by decide +kernel
theorem d_MO_trivial_36 : decode b_MO_trivial 36 = .ok (.iload_n 1, 1) := by decide +kernel
theorem d_MO_trivial_37 : decode b_MO_trivial 37 = .ok (.iconst 0, 1) := by decide +kernel
theorem d_MO_trivial_38 : decode b_MO_trivial 38 = .ok (.iastore, 1) := by decide +kernel
theorem d_MO_trivial_39 : decode b_MO_trivial 39 = .ok (.return_, 1) := by decide +kernel
theorem d_MO_turned_0 : decode b_MO_turned 0 = .ok (.aload_n 0, 1) := by decide +kernel
theorem d_MO_turned_1 : decode b_MO_turned 1 = .ok (.aload_n 0, 1) := by decide +kernel
theorem d_MO_turned_2 : decode b_MO_turned 2 = .ok (.aload_n 0, 1) := by decide +kernel
theorem d_MO_turned_3 : decode b_MO_turned 3 = .ok (.iload_n 1, 1) := by decide +kernel
theorem d_MO_turned_4 : decode b_MO_turned 4 = .ok (.invokevirtual 72, 3) := by decide +kernel
theorem d_MO_turned_7 : decode b_MO_turned 7 = .ok (.iload_n 2, 1) := by decide +kernel
theorem d_MO_turned_8 : decode b_MO_turned 8 = .ok (.invokevirtual 64, 3) := by decide +kernel
theorem d_MO_turned_11 : decode b_MO_turned 11 = .ok (.iload_n 1, 1) := by decide +kernel
theorem d_MO_turned_12 : decode b_MO_turned 12 = .ok (.invokevirtual 64, 3) := by decide +kernel
theorem d_MO_turned_15 : decode b_MO_turned 15 = .ok (.ireturn, 1) := by decide +kernel
theorem d_MO_type_0 : decode b_MO_type 0 = .ok (.iload_n 2, 1) := by decide +kernel
theorem d_MO_type_1 : decode b_MO_type 1 = .ok (.iconst 1, 1) := by decide +kernel
theorem d_MO_type_2 : decode b_MO_type 2 = .ok (.iconst 4, 1) := by decide +kernel
theorem d_MO_type_3 : decode b_MO_type 3 = .ok (.invokestatic 85, 3) := by decide +kernel
theorem d_MO_type_6 : decode b_MO_type 6 = .ok (.ifCond .eq 18, 3) := by decide +kernel
theorem d_MO_type_9 : decode b_MO_type 9 = .ok (.aload_n 0, 1) := by decide +kernel
theorem d_MO_type_10 : decode b_MO_type 10 = .ok (.getfield 89, 3) := by decide +kernel
theorem d_MO_type_13 : decode b_MO_type 13 = .ok (.iload_n 2, 1) := by decide +kernel
theorem d_MO_type_14 : decode b_MO_type 14 = .ok (.iadd, 1) := by decide +kernel
theorem d_MO_type_15 : decode b_MO_type 15 = .ok (.bipush 40, 2) := by decide +kernel
theorem d_MO_type_17 : decode b_MO_type 17 = .ok (.if_icmp .gt 7, 3) := by decide +kernel
theorem d_MO_type_20 : decode b_MO_type 20 = .ok (.iconst 1, 1) := by decide +kernel
theorem d_MO_type_21 : decode b_MO_type 21 = .ok (.goto 4, 3) := by decide +kernel
theorem d_MO_type_24 : decode b_MO_type 24 = .ok (.iconst 0, 1) := by decide +kernel
theorem d_MO_type_25 : decode b_MO_type 25 = .ok (.istore_n 3, 1) := by decide +kernel
theorem d_MO_type_26 : decode b_MO_type 26 = .ok (.iconst 0, 1) := by decide +kernel
theorem d_MO_type_27 : decode b_MO_type 27 = .ok (.istore 4, 2) := by decide +kernel
theorem d_MO_type_29 : decode b_MO_type 29 = .ok (.iload 4, 2) := by decide +kernel
theorem d_MO_type_31 : decode b_MO_type 31 = .ok (.iload_n 2, 1) := by decide +kernel
theorem d_MO_type_32 : decode b_MO_type 32 = .ok (.if_icmp .ge 32, 3) := by decide +kernel
theorem d_MO_type_35 : decode b_MO_type 35 = .ok (.iload_n 3, 1) := by decide +kernel
theorem d_MO_type_36 : decode b_MO_type 36 = .ok (.ifCond .eq 28, 3) := by decide +kernel
theorem d_MO_type_39 : decode b_MO_type 39 = .ok (.iload_n 1, 1) := by decide +kernel
theorem d_MO_type_40 : decode b_MO_type 40 = .ok (.bipush 8, 2) := by decide +kernel
theorem d_MO_type_42 : decode b_MO_type 42 = .ok (.iload 4, 2) := by decide +kernel
theorem d_MO_type_44 : decode b_MO_type 44 = .ok (.imul, 1) := by decide +kernel
theorem d_MO_type_45 : decode b_MO_type 45 = .ok (.ishr, 1) := by decide +kernel
theorem d_MO_type_46 : decode b_MO_type 46 = .ok (.sipush 255, 3) := by decide +kernel
theorem d_MO_type_49 : decode b_MO_type 49 = .ok (.iand, 1) := by decide +kernel
theorem d_MO_type_50 : decode b_MO_type 50 = .ok (.bipush 32, 2) := by decide +kernel
theorem d_MO_type_52 : decode b_MO_type 52 = .ok (.bipush 126, 2) := by decide +kernel
theorem d_MO_type_54 : decode b_MO_type 54 = .ok (.invokestatic 85, 3) := by decide +kernel
theorem d_MO_type_57 : decode b_MO_type 57 = .ok (.istore_n 3, 1) := by decide +kernel
theorem d_MO_type_58 : decode b_MO_type 58 = .ok (.iinc 4 1, 3) := by decide +kernel
theorem d_MO_type_61 : decode b_MO_type 61 = .ok (.goto (-32), 3) := by decide +kernel
theorem d_MO_type_64 : decode b_MO_type 64 = .ok (.iload_n 2, 1) := by decide +kernel
theorem d_MO_type_65 : decode b_MO_type 65 = .ok (.iconst 1, 1) := by decide +kernel
theorem d_MO_type_66 : decode b_MO_type 66 = .ok (.isub, 1) := by decide +kernel
theorem d_MO_type_67 : decode b_MO_type 67 = .ok (.istore 4, 2) := by decide +kernel
theorem d_MO_type_69 : decode b_MO_type 69 = .ok (.iload 4, 2) := by decide +kernel
theorem d_MO_type_71 : decode b_MO_type 71 = .ok (.ifCond .lt 43, 3) := by decide +kernel
theorem d_MO_type_74 : decode b_MO_type 74 = .ok (.iload_n 3, 1) := by decide +kernel
theorem d_MO_type_75 : decode b_MO_type 75 = .ok (.ifCond .eq 39, 3) := by decide +kernel
theorem d_MO_type_78 : decode b_MO_type 78 = .ok (.aload_n 0, 1) := by decide +kernel
theorem d_MO_type_79 : decode b_MO_type 79 = .ok (.getfield 33, 3) := by decide +kernel
theorem d_MO_type_82 : decode b_MO_type 82 = .ok (.aload_n 0, 1) := by decide +kernel
theorem d_MO_type_83 : decode b_MO_type 83 = .ok (.getfield 89, 3) := by decide +kernel
theorem d_MO_type_86 : decode b_MO_type 86 = .ok (.iload_n 1, 1) := by decide +kernel
theorem d_MO_type_87 : decode b_MO_type 87 = .ok (.bipush 8, 2) := by decide +kernel
theorem d_MO_type_89 : decode b_MO_type 89 = .ok (.iload 4, 2) := by decide +kernel
theorem d_MO_type_91 : decode b_MO_type 91 = .ok (.imul, 1) := by decide +kernel
theorem d_MO_type_92 : decode b_MO_type 92 = .ok (.ishr, 1) := by decide +kernel
theorem d_MO_type_93 : decode b_MO_type 93 = .ok (.sipush 255, 3) := by decide +kernel
theorem d_MO_type_96 : decode b_MO_type 96 = .ok (.iand, 1) := by decide +kernel
theorem d_MO_type_97 : decode b_MO_type 97 = .ok (.iastore, 1) := by decide +kernel
theorem d_MO_type_98 : decode b_MO_type 98 = .ok (.aload_n 0, 1) := by decide +kernel
theorem d_MO_type_99 : decode b_MO_type 99 = .ok (.aload_n 0, 1) := by decide +kernel
theorem d_MO_type_100 : decode b_MO_type 100 = .ok (.getfield 89, 3) := by decide +kernel
theorem d_MO_type_103 : decode b_MO_type 103 = .ok (.iconst 1, 1) := by decide +kernel
theorem d_MO_type_104 : decode b_MO_type 104 = .ok (.iadd, 1) := by decide +kernel
theorem d_MO_type_105 : decode b_MO_type 105 = .ok (.putfield 89, 3) := by decide +kernel
theorem d_MO_type_108 : decode b_MO_type 108 = .ok (.iinc 4 (-1), 3) := by decide +kernel
theorem d_MO_type_111 : decode b_MO_type 111 = .ok (.goto (-42), 3) := by decide +kernel
theorem d_MO_type_114 : decode b_MO_type 114 = .ok (.iload_n 3, 1) := by decide +kernel
theorem d_MO_type_115 : decode b_MO_type 115 = .ok (.ireturn, 1) := by decide +kernel
