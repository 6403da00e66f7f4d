theorem d_MG_init_0 : decode b_MG_init 0 = .ok (.aload_n 0, 1) := by decide +kernel
theorem d_MG_init_1 : decode b_MG_init 1 = .ok (.invokespecial 1, 3) := by decide +kernel
theorem d_MG_init_4 : decode b_MG_init 4 = .ok (.iload_n 1, 1) := by decide +kernel
theorem d_MG_init_5 : decode b_MG_init 5 = .ok (.iconst 2, 1) := by decide +kernel
theorem d_MG_init_6 : decode b_MG_init 6 = .ok (.if_icmp .lt 13, 3) := by decide +kernel
theorem d_MG_init_9 : decode b_MG_init 9 = .ok (.iload_n 1, 1) := by decide +kernel
theorem d_MG_init_10 : decode b_MG_init 10 = .ok (.bipush 6, 2) := by decide +kernel
theorem d_MG_init_12 : decode b_MG_init 12 = .ok (.if_icmp .gt 7, 3) := by decide +kernel
theorem d_MG_init_15 : decode b_MG_init 15 = .ok (.iload_n 1, 1) := by decide +kernel
theorem d_MG_init_16 : decode b_MG_init 16 = .ok (.goto 4, 3) := by decide +kernel
theorem d_MG_init_19 : decode b_MG_init 19 = .ok (.iconst 4, 1) := by decide +kernel
theorem d_MG_init_20 : decode b_MG_init 20 = .ok (.istore_n 2, 1) := by decide +kernel
theorem d_MG_init_21 : decode b_MG_init 21 = .ok (.aload_n 0, 1) := by decide +kernel
theorem d_MG_init_22 : decode b_MG_init 22 = .ok (.new 9, 3) := by decide +kernel
theorem d_MG_init_25 : decode b_MG_init 25 = .ok (.dup, 1) := by decide +kernel
theorem d_MG_init_26 : decode b_MG_init 26 = .ok (.iload_n 2, 1) := by decide +kernel
theorem d_MG_init_27 : decode b_MG_init 27 = .ok (.invokespecial 11, 3) := by decide +kernel
theorem d_MG_init_30 : decode b_MG_init 30 = .ok (.putfield 14, 3) := by decide +kernel
theorem d_MG_init_33 : decode b_MG_init 33 = .ok (.aload_n 0, 1) := by decide +kernel
theorem d_MG_init_34 : decode b_MG_init 34 = .ok (.new 18, 3) := by decide +kernel
theorem d_MG_init_37 : decode b_MG_init 37 = .ok (.dup, 1) := by decide +kernel
theorem d_MG_init_38 : decode b_MG_init 38 = .ok (.iload_n 2, 1) := by decide +kernel
theorem d_MG_init_39 : decode b_MG_init 39 = .ok (.invokespecial 20, 3) := by decide +kernel
theorem d_MG_init_42 : decode b_MG_init 42 = .ok (.putfield 21, 3) := by decide +kernel
theorem d_MG_init_45 : decode b_MG_init 45 = .ok (.aload_n 0, 1) := by decide +kernel
theorem d_MG_init_46 : decode b_MG_init 46 = .ok (.bipush 40, 2) := by decide +kernel
theorem d_MG_init_48 : decode b_MG_init 48 = .ok (.newarray .int, 2) := by decide +kernel
theorem d_MG_init_50 : decode b_MG_init 50 = .ok (.putfield 25, 3) := by decide +kernel
theorem d_MG_init_53 : decode b_MG_init 53 = .ok (.aload_n 0, 1) := by decide +kernel
theorem d_MG_init_54 : decode b_MG_init 54 = .ok (.getfield 25, 3) := by decide +kernel
theorem d_MG_init_57 : decode b_MG_init 57 = .ok (.iconst 0, 1) := by decide +kernel
theorem d_MG_init_58 : decode b_MG_init 58 = .ok (.iconst 0, 1) := by decide +kernel
theorem d_MG_init_59 : decode b_MG_init 59 = .ok (.iastore, 1) := by decide +kernel
theorem d_MG_init_60 : decode b_MG_init 60 = .ok (.aload_n 0, 1) := by decide +kernel
theorem d_MG_init_61 : decode b_MG_init 61 = .ok (.iconst 1, 1) := by decide +kernel
theorem d_MG_init_62 : decode b_MG_init 62 = .ok (.putfield 29, 3) := by decide +kernel
theorem d_MG_init_65 : decode b_MG_init 65 = .ok (.aload_n 0, 1) := by decide +kernel
theorem d_MG_init_66 : decode b_MG_init 66 = .ok (.getfield 14, 3) := by decide +kernel
theorem d_MG_init_69 : decode b_MG_init 69 = .ok (.getfield 33, 3) := by decide +kernel
theorem d_MG_init_72 : decode b_MG_init 72 = .ok (.newarray .int, 2) := by decide +kernel
theorem d_MG_init_74 : decode b_MG_init 74 = .ok (.astore_n 3, 1) := by decide +kernel
theorem d_MG_init_75 : decode b_MG_init 75 = .ok (.aload_n 0, 1) := by decide +kernel
theorem d_MG_init_76 : decode b_MG_init 76 = .ok (.bipush 12, 2) := by decide +kernel
theorem d_MG_init_78 : decode b_MG_init 78 = .ok (.anewarray 36, 3) := by decide +kernel
theorem d_MG_init_81 : decode b_MG_init 81 = .ok (.putfield 38, 3) := by decide +kernel
theorem d_MG_init_84 : decode b_MG_init 84 = .ok (.iconst 0, 1) := by decide +kernel
theorem d_MG_init_85 : decode b_MG_init 85 = .ok (.istore 4, 2) := by decide +kernel
theorem d_MG_init_87 : decode b_MG_init 87 = .ok (.iload 4, 2) := by decide +kernel
theorem d_MG_init_89 : decode b_MG_init 89 = .ok (.bipush 12, 2) := by decide +kernel
theorem d_MG_init_91 : decode b_MG_init 91 = .ok (.if_icmp .ge 28, 3) := by decide +kernel
theorem d_MG_init_94 : decode b_MG_init 94 = .ok (.aload_n 0, 1) := by decide +kernel
theorem d_MG_init_95 : decode b_MG_init 95 = .ok (.getfield 38, 3) := by decide +kernel
theorem d_MG_init_98 : decode b_MG_init 98 = .ok (.iload 4, 2) := by decide +kernel
theorem d_MG_init_100 : decode b_MG_init 100 = .ok (.new 36, 3) := by decide +kernel
theorem d_MG_init_103 : decode b_MG_init 103 = .ok (.dup, 1) := by decide +kernel
theorem d_MG_init_104 : decode b_MG_init 104 = .ok (.aload_n 0, 1) := by decide +kernel
theorem d_MG_init_105 : decode b_MG_init 105 = .ok (.getfield 14, 3) := by decide +kernel
theorem d_MG_init_108 : decode b_MG_init 108 = .ok (.aload_n 3, 1) := by decide +kernel
theorem d_MG_init_109 : decode b_MG_init 109 = .ok (.invokespecial 42, 3) := by decide +kernel
theorem d_MG_init_112 : decode b_MG_init 112 = .ok (.aastore, 1) := by decide +kernel
theorem d_MG_init_113 : decode b_MG_init 113 = .ok (.iinc 4 1, 3) := by decide +kernel
theorem d_MG_init_116 : decode b_MG_init 116 = .ok (.goto (-29), 3) := by decide +kernel
theorem d_MG_init_119 : decode b_MG_init 119 = .ok (.aload_n 0, 1) := by decide +kernel
theorem d_MG_init_120 : decode b_MG_init 120 = .ok (.iconst 0, 1) := by decide +kernel
theorem d_MG_init_121 : decode b_MG_init 121 = .ok (.putfield 45, 3) := by decide +kernel
theorem d_MG_init_124 : decode b_MG_init 124 = .ok (.aload_n 0, 1) := by decide +kernel
theorem d_MG_init_125 : decode b_MG_init 125 = .ok (.new 36, 3) := by decide +kernel
theorem d_MG_init_128 : decode b_MG_init 128 = .ok (.dup, 1) := by decide +kernel
theorem d_MG_init_129 : decode b_MG_init 129 = .ok (.aload_n 0, 1) := by decide +kernel
theorem d_MG_init_130 : decode b_MG_init 130 = .ok (.getfield 14, 3) := by decide +kernel
theorem d_MG_init_133 : decode b_MG_init 133 = .ok (.aload_n 3, 1) := by decide +kernel
theorem d_MG_init_134 : decode b_MG_init 134 = .ok (.invokespecial 42, 3) := by decide +kernel
theorem d_MG_init_137 : decode b_MG_init 137 = .ok (.putfield 48, 3) := by decide +kernel
theorem d_MG_init_140 : decode b_MG_init 140 = .ok (.aload_n 0, 1) := by decide +kernel
theorem d_MG_init_141 : decode b_MG_init 141 = .ok (.new 36, 3) := by decide +kernel
theorem d_MG_init_144 : decode b_MG_init 144 = .ok (.dup, 1) := by decide +kernel
theorem d_MG_init_145 : decode b_MG_init 145 = .ok (.aload_n 0, 1) := by decide +kernel
theorem d_MG_init_146 : decode b_MG_init 146 = .ok (.getfield 14, 3) := by decide +kernel
theorem d_MG_init_149 : decode b_MG_init 149 = .ok (.aload_n 3, 1) := by decide +kernel
theorem d_MG_init_150 : decode b_MG_init 150 = .ok (.invokespecial 42, 3) := by decide +kernel
theorem d_MG_init_153 : decode b_MG_init 153 = .ok (.putfield 52, 3) := by decide +kernel
theorem d_MG_init_156 : decode b_MG_init 156 = .ok (.return_, 1) := by decide +kernel
theorem d_MG_clear_0 : decode b_MG_clear 0 = .ok (.aload_n 0, 1) := by decide +kernel
theorem d_MG_clear_1 : decode b_MG_clear 1 = .ok (.getfield 45, 3) := by decide +kernel
theorem d_MG_clear_4 : decode b_MG_clear 4 = .ok (.istore_n 1, 1) := by decide +kernel
theorem d_MG_clear_5 : decode b_MG_clear 5 = .ok (.aload_n 0, 1) := by decide +kernel
theorem d_MG_clear_6 : decode b_MG_clear 6 = .ok (.iconst 0, 1) := by decide +kernel
theorem d_MG_clear_7 : decode b_MG_clear 7 = .ok (.putfield 45, 3) := by decide +kernel
theorem d_MG_clear_10 : decode b_MG_clear 10 = .ok (.aload_n 0, 1) := by decide +kernel
theorem d_MG_clear_11 : decode b_MG_clear 11 = .ok (.iconst 1, 1) := by decide +kernel
theorem d_MG_clear_12 : decode b_MG_clear 12 = .ok (.putfield 29, 3) := by decide +kernel
theorem d_MG_clear_15 : decode b_MG_clear 15 = .ok (.aload_n 0, 1) := by decide +kernel
theorem d_MG_clear_16 : decode b_MG_clear 16 = .ok (.getfield 21, 3) := by decide +kernel
theorem d_MG_clear_19 : decode b_MG_clear 19 = .ok (.invokevirtual 63, 3) := by decide +kernel
theorem d_MG_clear_22 : decode b_MG_clear 22 = .ok (.iload_n 1, 1) := by decide +kernel
theorem d_MG_clear_23 : decode b_MG_clear 23 = .ok (.ireturn, 1) := by decide +kernel
theorem d_MG_closure_0 : decode b_MG_closure 0 = .ok (.aload_n 0, 1) := by decide +kernel
theorem d_MG_closure_1 : decode b_MG_closure 1 = .ok (.iload_n 1, 1) := by decide +kernel
theorem d_MG_closure_2 : decode b_MG_closure 2 = .ok (.invokevirtual 94, 3) := by decide +kernel
theorem d_MG_closure_5 : decode b_MG_closure 5 = .ok (.ifCond .eq 11, 3) := by decide +kernel
theorem d_MG_closure_8 : decode b_MG_closure 8 = .ok (.aload_n 0, 1) := by decide +kernel
theorem d_MG_closure_9 : decode b_MG_closure 9 = .ok (.iload_n 2, 1) := by decide +kernel
theorem d_MG_closure_10 : decode b_MG_closure 10 = .ok (.invokevirtual 94, 3) := by decide +kernel
theorem d_MG_closure_13 : decode b_MG_closure 13 = .ok (.ifCond .ne 5, 3) := by decide +kernel
theorem d_MG_closure_16 : decode b_MG_closure 16 = .ok (.iconst (-1), 1) := by decide +kernel
theorem d_MG_closure_17 : decode b_MG_closure 17 = .ok (.ireturn, 1) := by decide +kernel
theorem d_MG_closure_18 : decode b_MG_closure 18 = .ok (.aload_n 0, 1) := by decide +kernel
theorem d_MG_closure_19 : decode b_MG_closure 19 = .ok (.invokevirtual 116, 3) := by decide +kernel
theorem d_MG_closure_22 : decode b_MG_closure 22 = .ok (.istore_n 3, 1) := by decide +kernel
theorem d_MG_closure_23 : decode b_MG_closure 23 = .ok (.iload_n 3, 1) := by decide +kernel
theorem d_MG_closure_24 : decode b_MG_closure 24 = .ok (.iconst (-1), 1) := by decide +kernel
theorem d_MG_closure_25 : decode b_MG_closure 25 = .ok (.if_icmp .eq 33, 3) := by decide +kernel
theorem d_MG_closure_28 : decode b_MG_closure 28 = .ok (.aload_n 0, 1) := by decide +kernel
theorem d_MG_closure_29 : decode b_MG_closure 29 = .ok (.getfield 38, 3) := by decide +kernel
theorem d_MG_closure_32 : decode b_MG_closure 32 = .ok (.iload_n 3, 1) := by decide +kernel
theorem d_MG_closure_33 : decode b_MG_closure 33 = .ok (.aaload, 1) := by decide +kernel
theorem d_MG_closure_34 : decode b_MG_closure 34 = .ok (.aload_n 0, 1) := by decide +kernel
theorem d_MG_closure_35 : decode b_MG_closure 35 = .ok (.getfield 38, 3) := by decide +kernel
theorem d_MG_closure_38 : decode b_MG_closure 38 = .ok (.iload_n 2, 1) := by decide +kernel
theorem d_MG_closure_39 : decode b_MG_closure 39 = .ok (.aaload, 1) := by decide +kernel
theorem d_MG_closure_40 : decode b_MG_closure 40 = .ok (.invokevirtual 130, 3) := by decide +kernel
theorem d_MG_closure_43 : decode b_MG_closure 43 = .ok (.aload_n 0, 1) := by decide +kernel
theorem d_MG_closure_44 : decode b_MG_closure 44 = .ok (.getfield 38, 3) := by decide +kernel
theorem d_MG_closure_47 : decode b_MG_closure 47 = .ok (.iload_n 3, 1) := by decide +kernel
theorem d_MG_closure_48 : decode b_MG_closure 48 = .ok (.aaload, 1) := by decide +kernel
theorem d_MG_closure_49 : decode b_MG_closure 49 = .ok (.aload_n 0, 1) := by decide +kernel
theorem d_MG_closure_50 : decode b_MG_closure 50 = .ok (.getfield 38, 3) := by decide +kernel
theorem d_MG_closure_53 : decode b_MG_closure 53 = .ok (.iload_n 1, 1) := by decide +kernel
theorem d_MG_closure_54 : decode b_MG_closure 54 = .ok (.aaload, 1) := by decide +kernel
theorem d_MG_closure_55 : decode b_MG_closure 55 = .ok (.invokevirtual 134, 3) := by decide +kernel
theorem d_MG_closure_58 : decode b_MG_closure 58 = .ok (.iload_n 3, 1) := by decide +kernel
theorem d_MG_closure_59 : decode b_MG_closure 59 = .ok (.ireturn, 1) := by decide +kernel
theorem d_MG_compare_0 : decode b_MG_compare 0 = .ok (.aload_n 0, 1) := by decide +kernel
theorem d_MG_compare_1 : decode b_MG_compare 1 = .ok (.iload_n 1, 1) := by decide +kernel
theorem d_MG_compare_2 : decode b_MG_compare 2 = .ok (.invokevirtual 94, 3) := by decide +kernel
theorem d_MG_compare_5 : decode b_MG_compare 5 = .ok (.ifCond .eq 11, 3) := by decide +kernel
theorem d_MG_compare_8 : decode b_MG_compare 8 = .ok (.aload_n 0, 1) := by decide +kernel
theorem d_MG_compare_9 : decode b_MG_compare 9 = .ok (.iload_n 2, 1) := by decide +kernel
theorem d_MG_compare_10 : decode b_MG_compare 10 = .ok (.invokevirtual 94, 3) := by decide +kernel
theorem d_MG_compare_13 : decode b_MG_compare 13 = .ok (.ifCond .ne 5, 3) := by decide +kernel
theorem d_MG_compare_16 : decode b_MG_compare 16 = .ok (.iconst (-1), 1) := by decide +kernel
theorem d_MG_compare_17 : decode b_MG_compare 17 = .ok (.ireturn, 1) := by decide +kernel
theorem d_MG_compare_18 : decode b_MG_compare 18 = .ok (.aload_n 0, 1) := by decide +kernel
theorem d_MG_compare_19 : decode b_MG_compare 19 = .ok (.getfield 38, 3) := by decide +kernel
theorem d_MG_compare_22 : decode b_MG_compare 22 = .ok (.iload_n 1, 1) := by decide +kernel
theorem d_MG_compare_23 : decode b_MG_compare 23 = .ok (.aaload, 1) := by decide +kernel
theorem d_MG_compare_24 : decode b_MG_compare 24 = .ok (.aload_n 0, 1) := by decide +kernel
theorem d_MG_compare_25 : decode b_MG_compare 25 = .ok (.getfield 38, 3) := by decide +kernel
theorem d_MG_compare_28 : decode b_MG_compare 28 = .ok (.iload_n 2, 1) := by decide +kernel
theorem d_MG_compare_29 : decode b_MG_compare 29 = .ok (.aaload, 1) := by decide +kernel
theorem d_MG_compare_30 : decode b_MG_compare 30 = .ok (.invokevirtual 123, 3) := by decide +kernel
theorem d_MG_compare_33 : decode b_MG_compare 33 = .ok (.istore_n 3, 1) := by decide +kernel
theorem d_MG_compare_34 : decode b_MG_compare 34 = .ok (.aload_n 0, 1) := by decide +kernel
theorem d_MG_compare_35 : decode b_MG_compare 35 = .ok (.getfield 38, 3) := by decide +kernel
theorem d_MG_compare_38 : decode b_MG_compare 38 = .ok (.iload_n 2, 1) := by decide +kernel
theorem d_MG_compare_39 : decode b_MG_compare 39 = .ok (.aaload, 1) := by decide +kernel
theorem d_MG_compare_40 : decode b_MG_compare 40 = .ok (.aload_n 0, 1) := by decide +kernel
theorem d_MG_compare_41 : decode b_MG_compare 41 = .ok (.getfield 38, 3) := by decide +kernel
theorem d_MG_compare_44 : decode b_MG_compare 44 = .ok (.iload_n 1, 1) := by decide +kernel
theorem d_MG_compare_45 : decode b_MG_compare 45 = .ok (.aaload, 1) := by decide +kernel
theorem d_MG_compare_46 : decode b_MG_compare 46 = .ok (.invokevirtual 123, 3) := by decide +kernel
theorem d_MG_compare_49 : decode b_MG_compare 49 = .ok (.istore 4, 2) := by decide +kernel
theorem d_MG_compare_51 : decode b_MG_compare 51 = .ok (.iload_n 3, 1) := by decide +kernel
theorem d_MG_compare_52 : decode b_MG_compare 52 = .ok (.ifCond .eq 14, 3) := by decide +kernel
theorem d_MG_compare_55 : decode b_MG_compare 55 = .ok (.iload 4, 2) := by decide +kernel
theorem d_MG_compare_57 : decode b_MG_compare 57 = .ok (.ifCond .eq 7, 3) := by decide +kernel
theorem d_MG_compare_60 : decode b_MG_compare 60 = .ok (.iconst 3, 1) := by decide +kernel
theorem d_MG_compare_61 : decode b_MG_compare 61 = .ok (.goto 4, 3) := by decide +kernel
theorem d_MG_compare_64 : decode b_MG_compare 64 = .ok (.iconst 1, 1) := by decide +kernel
theorem d_MG_compare_65 : decode b_MG_compare 65 = .ok (.ireturn, 1) := by decide +kernel
theorem d_MG_compare_66 : decode b_MG_compare 66 = .ok (.iload 4, 2) := by decide +kernel
theorem d_MG_compare_68 : decode b_MG_compare 68 = .ok (.ifCond .eq 7, 3) := by decide +kernel
theorem d_MG_compare_71 : decode b_MG_compare 71 = .ok (.iconst 2, 1) := by decide +kernel
theorem d_MG_compare_72 : decode b_MG_compare 72 = .ok (.goto 4, 3) := by decide +kernel
theorem d_MG_compare_75 : decode b_MG_compare 75 = .ok (.iconst 0, 1) := by decide +kernel
theorem d_MG_compare_76 : decode b_MG_compare 76 = .ok (.ireturn, 1) := by decide +kernel
theorem d_MG_contains_0 : decode b_MG_contains 0 = .ok (.aload_n 0, 1) := by decide +kernel
theorem d_MG_contains_1 : decode b_MG_contains 1 = .ok (.iload_n 1, 1) := by decide +kernel
theorem d_MG_contains_2 : decode b_MG_contains 2 = .ok (.invokevirtual 94, 3) := by decide +kernel
theorem d_MG_contains_5 : decode b_MG_contains 5 = .ok (.ifCond .eq 33, 3) := by decide +kernel
theorem d_MG_contains_8 : decode b_MG_contains 8 = .ok (.aload_n 0, 1) := by decide +kernel
theorem d_MG_contains_9 : decode b_MG_contains 9 = .ok (.iload_n 2, 1) := by decide +kernel
theorem d_MG_contains_10 : decode b_MG_contains 10 = .ok (.invokevirtual 77, 3) := by decide +kernel
theorem d_MG_contains_13 : decode b_MG_contains 13 = .ok (.ifCond .eq 25, 3) := by decide +kernel
theorem d_MG_contains_16 : decode b_MG_contains 16 = .ok (.aload_n 0, 1) := by decide +kernel
theorem d_MG_contains_17 : decode b_MG_contains 17 = .ok (.getfield 38, 3) := by decide +kernel
theorem d_MG_contains_20 : decode b_MG_contains 20 = .ok (.iload_n 1, 1) := by decide +kernel
theorem d_MG_contains_21 : decode b_MG_contains 21 = .ok (.aaload, 1) := by decide +kernel
theorem d_MG_contains_22 : decode b_MG_contains 22 = .ok (.aload_n 0, 1) := by decide +kernel
theorem d_MG_contains_23 : decode b_MG_contains 23 = .ok (.getfield 25, 3) := by decide +kernel
theorem d_MG_contains_26 : decode b_MG_contains 26 = .ok (.iload_n 2, 1) := by decide +kernel
theorem d_MG_contains_27 : decode b_MG_contains 27 = .ok (.iaload, 1) := by decide +kernel
theorem d_MG_contains_28 : decode b_MG_contains 28 = .ok (.invokevirtual 101, 3) := by decide +kernel
theorem d_MG_contains_31 : decode b_MG_contains 31 = .ok (.ifCond .eq 7, 3) := by decide +kernel
theorem d_MG_contains_34 : decode b_MG_contains 34 = .ok (.iconst 1, 1) := by decide +kernel
theorem d_MG_contains_35 : decode b_MG_contains 35 = .ok (.goto 4, 3) := by decide +kernel
theorem d_MG_contains_38 : decode b_MG_contains 38 = .ok (.iconst 0, 1) := by decide +kernel
theorem d_MG_contains_39 : decode b_MG_contains 39 = .ok (.ireturn, 1) := by decide +kernel
theorem d_MG_derived_0 : decode b_MG_derived 0 = .ok (.aload_n 0, 1) := by decide +kernel
theorem d_MG_derived_1 : decode b_MG_derived 1 = .ok (.iload_n 1, 1) := by decide +kernel
theorem d_MG_derived_2 : decode b_MG_derived 2 = .ok (.invokevirtual 94, 3) := by decide +kernel
theorem d_MG_derived_5 : decode b_MG_derived 5 = .ok (.ifCond .ne 5, 3) := by decide +kernel
theorem d_MG_derived_8 : decode b_MG_derived 8 = .ok (.iconst (-1), 1) := by decide +kernel
theorem d_MG_derived_9 : decode b_MG_derived 9 = .ok (.ireturn, 1) := by decide +kernel
theorem d_MG_derived_10 : decode b_MG_derived 10 = .ok (.aload_n 0, 1) := by decide +kernel
theorem d_MG_derived_11 : decode b_MG_derived 11 = .ok (.invokevirtual 116, 3) := by decide +kernel
theorem d_MG_derived_14 : decode b_MG_derived 14 = .ok (.istore_n 2, 1) := by decide +kernel
theorem d_MG_derived_15 : decode b_MG_derived 15 = .ok (.iload_n 2, 1) := by decide +kernel
theorem d_MG_derived_16 : decode b_MG_derived 16 = .ok (.iconst (-1), 1) := by decide +kernel
theorem d_MG_derived_17 : decode b_MG_derived 17 = .ok (.if_icmp .eq 18, 3) := by decide +kernel
theorem d_MG_derived_20 : decode b_MG_derived 20 = .ok (.aload_n 0, 1) := by decide +kernel
theorem d_MG_derived_21 : decode b_MG_derived 21 = .ok (.getfield 38, 3) := by decide +kernel
theorem d_MG_derived_24 : decode b_MG_derived 24 = .ok (.iload_n 2, 1) := by decide +kernel
theorem d_MG_derived_25 : decode b_MG_derived 25 = .ok (.aaload, 1) := by decide +kernel
theorem d_MG_derived_26 : decode b_MG_derived 26 = .ok (.aload_n 0, 1) := by decide +kernel
theorem d_MG_derived_27 : decode b_MG_derived 27 = .ok (.getfield 38, 3) := by decide +kernel
theorem d_MG_derived_30 : decode b_MG_derived 30 = .ok (.iload_n 1, 1) := by decide +kernel
theorem d_MG_derived_31 : decode b_MG_derived 31 = .ok (.aaload, 1) := by decide +kernel
theorem d_MG_derived_32 : decode b_MG_derived 32 = .ok (.invokevirtual 137, 3) := by decide +kernel
theorem d_MG_derived_35 : decode b_MG_derived 35 = .ok (.iload_n 2, 1) := by decide +kernel
theorem d_MG_derived_36 : decode b_MG_derived 36 = .ok (.ireturn, 1) := by decide +kernel
theorem d_MG_element_0 : decode b_MG_element 0 = .ok (.aload_n 0, 1) := by decide +kernel
theorem d_MG_element_1 : decode b_MG_element 1 = .ok (.iload_n 1, 1) := by decide +kernel
theorem d_MG_element_2 : decode b_MG_element 2 = .ok (.invokevirtual 94, 3) := by decide +kernel
theorem d_MG_element_5 : decode b_MG_element 5 = .ok (.ifCond .eq 20, 3) := by decide +kernel
theorem d_MG_element_8 : decode b_MG_element 8 = .ok (.iload_n 2, 1) := by decide +kernel
theorem d_MG_element_9 : decode b_MG_element 9 = .ok (.ifCond .lt 16, 3) := by decide +kernel
theorem d_MG_element_12 : decode b_MG_element 12 = .ok (.iload_n 2, 1) := by decide +kernel
theorem d_MG_element_13 : decode b_MG_element 13 = .ok (.aload_n 0, 1) := by decide +kernel
theorem d_MG_element_14 : decode b_MG_element 14 = .ok (.getfield 38, 3) := by decide +kernel
theorem d_MG_element_17 : decode b_MG_element 17 = .ok (.iload_n 1, 1) := by decide +kernel
theorem d_MG_element_18 : decode b_MG_element 18 = .ok (.aaload, 1) := by decide +kernel
theorem d_MG_element_19 : decode b_MG_element 19 = .ok (.getfield 100, 3) := by decide +kernel
theorem d_MG_element_22 : decode b_MG_element 22 = .ok (.if_icmp .lt 5, 3) := by decide +kernel
theorem d_MG_element_25 : decode b_MG_element 25 = .ok (.iconst (-1), 1) := by decide +kernel
theorem d_MG_element_26 : decode b_MG_element 26 = .ok (.ireturn, 1) := by decide +kernel
theorem d_MG_element_27 : decode b_MG_element 27 = .ok (.aload_n 0, 1) := by decide +kernel
theorem d_MG_element_28 : decode b_MG_element 28 = .ok (.aload_n 0, 1) := by decide +kernel
theorem d_MG_element_29 : decode b_MG_element 29 = .ok (.getfield 38, 3) := by decide +kernel
theorem d_MG_element_32 : decode b_MG_element 32 = .ok (.iload_n 1, 1) := by decide +kernel
theorem d_MG_element_33 : decode b_MG_element 33 = .ok (.aaload, 1) := by decide +kernel
theorem d_MG_element_34 : decode b_MG_element 34 = .ok (.iload_n 2, 1) := by decide +kernel
theorem d_MG_element_35 : decode b_MG_element 35 = .ok (.invokevirtual 104, 3) := by decide +kernel
theorem d_MG_element_38 : decode b_MG_element 38 = .ok (.invokevirtual 73, 3) := by decide +kernel
theorem d_MG_element_41 : decode b_MG_element 41 = .ok (.ireturn, 1) := by decide +kernel
theorem d_MG_generate_0 : decode b_MG_generate 0 = .ok (.aload_n 0, 1) := by decide +kernel
theorem d_MG_generate_1 : decode b_MG_generate 1 = .ok (.iload_n 1, 1) := by decide +kernel
theorem d_MG_generate_2 : decode b_MG_generate 2 = .ok (.invokevirtual 94, 3) := by decide +kernel
theorem d_MG_generate_5 : decode b_MG_generate 5 = .ok (.ifCond .eq 11, 3) := by decide +kernel
theorem d_MG_generate_8 : decode b_MG_generate 8 = .ok (.aload_n 0, 1) := by decide +kernel
theorem d_MG_generate_9 : decode b_MG_generate 9 = .ok (.iload_n 2, 1) := by decide +kernel
theorem d_MG_generate_10 : decode b_MG_generate 10 = .ok (.invokevirtual 77, 3) := by decide +kernel
theorem d_MG_generate_13 : decode b_MG_generate 13 = .ok (.ifCond .ne 5, 3) := by decide +kernel
theorem d_MG_generate_16 : decode b_MG_generate 16 = .ok (.iconst (-1), 1) := by decide +kernel
theorem d_MG_generate_17 : decode b_MG_generate 17 = .ok (.ireturn, 1) := by decide +kernel
theorem d_MG_generate_18 : decode b_MG_generate 18 = .ok (.aload_n 0, 1) := by decide +kernel
theorem d_MG_generate_19 : decode b_MG_generate 19 = .ok (.getfield 38, 3) := by decide +kernel
theorem d_MG_generate_22 : decode b_MG_generate 22 = .ok (.iload_n 1, 1) := by decide +kernel
theorem d_MG_generate_23 : decode b_MG_generate 23 = .ok (.aaload, 1) := by decide +kernel
theorem d_MG_generate_24 : decode b_MG_generate 24 = .ok (.aload_n 0, 1) := by decide +kernel
theorem d_MG_generate_25 : decode b_MG_generate 25 = .ok (.getfield 25, 3) := by decide +kernel
theorem d_MG_generate_28 : decode b_MG_generate 28 = .ok (.iload_n 2, 1) := by decide +kernel
theorem d_MG_generate_29 : decode b_MG_generate 29 = .ok (.iaload, 1) := by decide +kernel
theorem d_MG_generate_30 : decode b_MG_generate 30 = .ok (.invokevirtual 97, 3) := by decide +kernel
theorem d_MG_generate_33 : decode b_MG_generate 33 = .ok (.aload_n 0, 1) := by decide +kernel
theorem d_MG_generate_34 : decode b_MG_generate 34 = .ok (.getfield 38, 3) := by decide +kernel
theorem d_MG_generate_37 : decode b_MG_generate 37 = .ok (.iload_n 1, 1) := by decide +kernel
theorem d_MG_generate_38 : decode b_MG_generate 38 = .ok (.aaload, 1) := by decide +kernel
theorem d_MG_generate_39 : decode b_MG_generate 39 = .ok (.getfield 100, 3) := by decide +kernel
theorem d_MG_generate_42 : decode b_MG_generate 42 = .ok (.ireturn, 1) := by decide +kernel
theorem d_MG_group_0 : decode b_MG_group 0 = .ok (.aload_n 0, 1) := by decide +kernel
theorem d_MG_group_1 : decode b_MG_group 1 = .ok (.getfield 45, 3) := by decide +kernel
theorem d_MG_group_4 : decode b_MG_group 4 = .ok (.bipush 12, 2) := by decide +kernel
theorem d_MG_group_6 : decode b_MG_group 6 = .ok (.if_icmp .lt 5, 3) := by decide +kernel
theorem d_MG_group_9 : decode b_MG_group 9 = .ok (.iconst (-1), 1) := by decide +kernel
theorem d_MG_group_10 : decode b_MG_group 10 = .ok (.ireturn, 1) := by decide +kernel
theorem d_MG_group_11 : decode b_MG_group 11 = .ok (.aload_n 0, 1) := by decide +kernel
theorem d_MG_group_12 : decode b_MG_group 12 = .ok (.getfield 38, 3) := by decide +kernel
theorem d_MG_group_15 : decode b_MG_group 15 = .ok (.aload_n 0, 1) := by decide +kernel
theorem d_MG_group_16 : decode b_MG_group 16 = .ok (.getfield 45, 3) := by decide +kernel
theorem d_MG_group_19 : decode b_MG_group 19 = .ok (.aaload, 1) := by decide +kernel
theorem d_MG_group_20 : decode b_MG_group 20 = .ok (.invokevirtual 91, 3) := by decide +kernel
theorem d_MG_group_23 : decode b_MG_group 23 = .ok (.aload_n 0, 1) := by decide +kernel
theorem d_MG_group_24 : decode b_MG_group 24 = .ok (.dup, 1) := by decide +kernel
theorem d_MG_group_25 : decode b_MG_group 25 = .ok (.getfield 45, 3) := by decide +kernel
theorem d_MG_group_28 : decode b_MG_group 28 = .ok (.iconst 1, 1) := by decide +kernel
theorem d_MG_group_29 : decode b_MG_group 29 = .ok (.iadd, 1) := by decide +kernel
theorem d_MG_group_30 : decode b_MG_group 30 = .ok (.putfield 45, 3) := by decide +kernel
theorem d_MG_group_33 : decode b_MG_group 33 = .ok (.aload_n 0, 1) := by decide +kernel
theorem d_MG_group_34 : decode b_MG_group 34 = .ok (.getfield 45, 3) := by decide +kernel
theorem d_MG_group_37 : decode b_MG_group 37 = .ok (.iconst 1, 1) := by decide +kernel
theorem d_MG_group_38 : decode b_MG_group 38 = .ok (.isub, 1) := by decide +kernel
theorem d_MG_group_39 : decode b_MG_group 39 = .ok (.ireturn, 1) := by decide +kernel
theorem d_MG_hold_0 : decode b_MG_hold 0 = .ok (.aload_n 0, 1) := by decide +kernel
theorem d_MG_hold_1 : decode b_MG_hold 1 = .ok (.iload_n 1, 1) := by decide +kernel
theorem d_MG_hold_2 : decode b_MG_hold 2 = .ok (.invokevirtual 94, 3) := by decide +kernel
theorem d_MG_hold_5 : decode b_MG_hold 5 = .ok (.ifCond .eq 20, 3) := by decide +kernel
theorem d_MG_hold_8 : decode b_MG_hold 8 = .ok (.iload_n 2, 1) := by decide +kernel
theorem d_MG_hold_9 : decode b_MG_hold 9 = .ok (.ifCond .lt 16, 3) := by decide +kernel
theorem d_MG_hold_12 : decode b_MG_hold 12 = .ok (.iload_n 2, 1) := by decide +kernel
theorem d_MG_hold_13 : decode b_MG_hold 13 = .ok (.iconst 1, 1) := by decide +kernel
theorem d_MG_hold_14 : decode b_MG_hold 14 = .ok (.aload_n 0, 1) := by decide +kernel
theorem d_MG_hold_15 : decode b_MG_hold 15 = .ok (.getfield 14, 3) := by decide +kernel
theorem d_MG_hold_18 : decode b_MG_hold 18 = .ok (.getfield 110, 3) := by decide +kernel
theorem d_MG_hold_21 : decode b_MG_hold 21 = .ok (.ishl, 1) := by decide +kernel
theorem d_MG_hold_22 : decode b_MG_hold 22 = .ok (.if_icmp .lt 5, 3) := by decide +kernel
theorem d_MG_hold_25 : decode b_MG_hold 25 = .ok (.iconst (-1), 1) := by decide +kernel
theorem d_MG_hold_26 : decode b_MG_hold 26 = .ok (.ireturn, 1) := by decide +kernel
theorem d_MG_hold_27 : decode b_MG_hold 27 = .ok (.aload_n 0, 1) := by decide +kernel
theorem d_MG_hold_28 : decode b_MG_hold 28 = .ok (.invokevirtual 116, 3) := by decide +kernel
theorem d_MG_hold_31 : decode b_MG_hold 31 = .ok (.istore_n 3, 1) := by decide +kernel
theorem d_MG_hold_32 : decode b_MG_hold 32 = .ok (.iload_n 3, 1) := by decide +kernel
theorem d_MG_hold_33 : decode b_MG_hold 33 = .ok (.iconst (-1), 1) := by decide +kernel
theorem d_MG_hold_34 : decode b_MG_hold 34 = .ok (.if_icmp .eq 19, 3) := by decide +kernel
theorem d_MG_hold_37 : decode b_MG_hold 37 = .ok (.aload_n 0, 1) := by decide +kernel
theorem d_MG_hold_38 : decode b_MG_hold 38 = .ok (.getfield 38, 3) := by decide +kernel
theorem d_MG_hold_41 : decode b_MG_hold 41 = .ok (.iload_n 3, 1) := by decide +kernel
theorem d_MG_hold_42 : decode b_MG_hold 42 = .ok (.aaload, 1) := by decide +kernel
theorem d_MG_hold_43 : decode b_MG_hold 43 = .ok (.iload_n 2, 1) := by decide +kernel
theorem d_MG_hold_44 : decode b_MG_hold 44 = .ok (.aload_n 0, 1) := by decide +kernel
theorem d_MG_hold_45 : decode b_MG_hold 45 = .ok (.getfield 38, 3) := by decide +kernel
theorem d_MG_hold_48 : decode b_MG_hold 48 = .ok (.iload_n 1, 1) := by decide +kernel
theorem d_MG_hold_49 : decode b_MG_hold 49 = .ok (.aaload, 1) := by decide +kernel
theorem d_MG_hold_50 : decode b_MG_hold 50 = .ok (.invokevirtual 119, 3) := by decide +kernel
theorem d_MG_hold_53 : decode b_MG_hold 53 = .ok (.iload_n 3, 1) := by decide +kernel
theorem d_MG_hold_54 : decode b_MG_hold 54 = .ok (.ireturn, 1) := by decide +kernel
theorem d_MG_images_0 : decode b_MG_images 0 = .ok (.aload_n 0, 1) := by decide +kernel
theorem d_MG_images_1 : decode b_MG_images 1 = .ok (.iload_n 1, 1) := by decide +kernel
theorem d_MG_images_2 : decode b_MG_images 2 = .ok (.invokevirtual 77, 3) := by decide +kernel
theorem d_MG_images_5 : decode b_MG_images 5 = .ok (.ifCond .eq 19, 3) := by decide +kernel
theorem d_MG_images_8 : decode b_MG_images 8 = .ok (.aload_n 0, 1) := by decide +kernel
theorem d_MG_images_9 : decode b_MG_images 9 = .ok (.getfield 14, 3) := by decide +kernel
theorem d_MG_images_12 : decode b_MG_images 12 = .ok (.aload_n 0, 1) := by decide +kernel
theorem d_MG_images_13 : decode b_MG_images 13 = .ok (.getfield 25, 3) := by decide +kernel
theorem d_MG_images_16 : decode b_MG_images 16 = .ok (.iload_n 1, 1) := by decide +kernel
theorem d_MG_images_17 : decode b_MG_images 17 = .ok (.iaload, 1) := by decide +kernel
theorem d_MG_images_18 : decode b_MG_images 18 = .ok (.invokevirtual 88, 3) := by decide +kernel
theorem d_MG_images_21 : decode b_MG_images 21 = .ok (.goto 4, 3) := by decide +kernel
theorem d_MG_images_24 : decode b_MG_images 24 = .ok (.iconst (-1), 1) := by decide +kernel
theorem d_MG_images_25 : decode b_MG_images 25 = .ok (.ireturn, 1) := by decide +kernel
theorem d_MG_inverse_0 : decode b_MG_inverse 0 = .ok (.aload_n 0, 1) := by decide +kernel
theorem d_MG_inverse_1 : decode b_MG_inverse 1 = .ok (.iload_n 1, 1) := by decide +kernel
theorem d_MG_inverse_2 : decode b_MG_inverse 2 = .ok (.invokevirtual 77, 3) := by decide +kernel
theorem d_MG_inverse_5 : decode b_MG_inverse 5 = .ok (.ifCond .eq 23, 3) := by decide +kernel
theorem d_MG_inverse_8 : decode b_MG_inverse 8 = .ok (.aload_n 0, 1) := by decide +kernel
theorem d_MG_inverse_9 : decode b_MG_inverse 9 = .ok (.aload_n 0, 1) := by decide +kernel
theorem d_MG_inverse_10 : decode b_MG_inverse 10 = .ok (.getfield 14, 3) := by decide +kernel
theorem d_MG_inverse_13 : decode b_MG_inverse 13 = .ok (.aload_n 0, 1) := by decide +kernel
theorem d_MG_inverse_14 : decode b_MG_inverse 14 = .ok (.getfield 25, 3) := by decide +kernel
theorem d_MG_inverse_17 : decode b_MG_inverse 17 = .ok (.iload_n 1, 1) := by decide +kernel
theorem d_MG_inverse_18 : decode b_MG_inverse 18 = .ok (.iaload, 1) := by decide +kernel
theorem d_MG_inverse_19 : decode b_MG_inverse 19 = .ok (.invokevirtual 85, 3) := by decide +kernel
theorem d_MG_inverse_22 : decode b_MG_inverse 22 = .ok (.invokevirtual 73, 3) := by decide +kernel
theorem d_MG_inverse_25 : decode b_MG_inverse 25 = .ok (.goto 4, 3) := by decide +kernel
theorem d_MG_inverse_28 : decode b_MG_inverse 28 = .ok (.iconst (-1), 1) := by decide +kernel
theorem d_MG_inverse_29 : decode b_MG_inverse 29 = .ok (.ireturn, 1) := by decide +kernel
theorem d_MG_isGroup_0 : decode b_MG_isGroup 0 = .ok (.iload_n 1, 1) := by decide +kernel
theorem d_MG_isGroup_1 : decode b_MG_isGroup 1 = .ok (.ifCond .lt 15, 3) := by decide +kernel
theorem d_MG_isGroup_4 : decode b_MG_isGroup 4 = .ok (.iload_n 1, 1) := by decide +kernel
theorem d_MG_isGroup_5 : decode b_MG_isGroup 5 = .ok (.aload_n 0, 1) := by decide +kernel
theorem d_MG_isGroup_6 : decode b_MG_isGroup 6 = .ok (.getfield 45, 3) := by decide +kernel
theorem d_MG_isGroup_9 : decode b_MG_isGroup 9 = .ok (.if_icmp .ge 7, 3) := by decide +kernel
theorem d_MG_isGroup_12 : decode b_MG_isGroup 12 = .ok (.iconst 1, 1) := by decide +kernel
theorem d_MG_isGroup_13 : decode b_MG_isGroup 13 = .ok (.goto 4, 3) := by decide +kernel
theorem d_MG_isGroup_16 : decode b_MG_isGroup 16 = .ok (.iconst 0, 1) := by decide +kernel
theorem d_MG_isGroup_17 : decode b_MG_isGroup 17 = .ok (.ireturn, 1) := by decide +kernel
theorem d_MG_isPermutation_0 : decode b_MG_isPermutation 0 = .ok (.iload_n 1, 1) := by decide +kernel
theorem d_MG_isPermutation_1 : decode b_MG_isPermutation 1 = .ok (.ifCond .lt 15, 3) := by decide +kernel
theorem d_MG_isPermutation_4 : decode b_MG_isPermutation 4 = .ok (.iload_n 1, 1) := by decide +kernel
theorem d_MG_isPermutation_5 : decode b_MG_isPermutation 5 = .ok (.aload_n 0, 1) := by decide +kernel
theorem d_MG_isPermutation_6 : decode b_MG_isPermutation 6 = .ok (.getfield 29, 3) := by decide +kernel
theorem d_MG_isPermutation_9 : decode b_MG_isPermutation 9 = .ok (.if_icmp .ge 7, 3) := by decide +kernel
theorem d_MG_isPermutation_12 : decode b_MG_isPermutation 12 = .ok (.iconst 1, 1) := by decide +kernel
theorem d_MG_isPermutation_13 : decode b_MG_isPermutation 13 = .ok (.goto 4, 3) := by decide +kernel
theorem d_MG_isPermutation_16 : decode b_MG_isPermutation 16 = .ok (.iconst 0, 1) := by decide +kernel
theorem d_MG_isPermutation_17 : decode b_MG_isPermutation 17 = .ok (.ireturn, 1) := by decide +kernel
theorem d_MG_keep_0 : decode b_MG_keep 0 = .ok (.aload_n 0, 1) := by decide +kernel
theorem d_MG_keep_1 : decode b_MG_keep 1 = .ok (.getfield 29, 3) := by decide +kernel
theorem d_MG_keep_4 : decode b_MG_keep 4 = .ok (.bipush 40, 2) := by decide +kernel
theorem d_MG_keep_6 : decode b_MG_keep 6 = .ok (.if_icmp .lt 5, 3) := by decide +kernel
theorem d_MG_keep_9 : decode b_MG_keep 9 = .ok (.iconst (-1), 1) := by decide +kernel
theorem d_MG_keep_10 : decode b_MG_keep 10 = .ok (.ireturn, 1) := by decide +kernel
theorem d_MG_keep_11 : decode b_MG_keep 11 = .ok (.aload_n 0, 1) := by decide +kernel
theorem d_MG_keep_12 : decode b_MG_keep 12 = .ok (.getfield 25, 3) := by decide +kernel
theorem d_MG_keep_15 : decode b_MG_keep 15 = .ok (.aload_n 0, 1) := by decide +kernel
theorem d_MG_keep_16 : decode b_MG_keep 16 = .ok (.getfield 29, 3) := by decide +kernel
theorem d_MG_keep_19 : decode b_MG_keep 19 = .ok (.iload_n 1, 1) := by decide +kernel
theorem d_MG_keep_20 : decode b_MG_keep 20 = .ok (.iastore, 1) := by decide +kernel
theorem d_MG_keep_21 : decode b_MG_keep 21 = .ok (.aload_n 0, 1) := by decide +kernel
theorem d_MG_keep_22 : decode b_MG_keep 22 = .ok (.dup, 1) := by decide +kernel
theorem d_MG_keep_23 : decode b_MG_keep 23 = .ok (.getfield 29, 3) := by decide +kernel
theorem d_MG_keep_26 : decode b_MG_keep 26 = .ok (.iconst 1, 1) := by decide +kernel
theorem d_MG_keep_27 : decode b_MG_keep 27 = .ok (.iadd, 1) := by decide +kernel
theorem d_MG_keep_28 : decode b_MG_keep 28 = .ok (.putfield 29, 3) := by decide +kernel
theorem d_MG_keep_31 : decode b_MG_keep 31 = .ok (.aload_n 0, 1) := by decide +kernel
theorem d_MG_keep_32 : decode b_MG_keep 32 = .ok (.getfield 29, 3) := by decide +kernel
theorem d_MG_keep_35 : decode b_MG_keep 35 = .ok (.iconst 1, 1) := by decide +kernel
theorem d_MG_keep_36 : decode b_MG_keep 36 = .ok (.isub, 1) := by decide +kernel
theorem d_MG_keep_37 : decode b_MG_keep 37 = .ok (.ireturn, 1) := by decide +kernel
theorem d_MG_least_0 : decode b_MG_least 0 = .ok (.aload_n 0, 1) := by decide +kernel
theorem d_MG_least_1 : decode b_MG_least 1 = .ok (.iload_n 1, 1) := by decide +kernel
theorem d_MG_least_2 : decode b_MG_least 2 = .ok (.invokevirtual 94, 3) := by decide +kernel
theorem d_MG_least_5 : decode b_MG_least 5 = .ok (.ifCond .eq 11, 3) := by decide +kernel
theorem d_MG_least_8 : decode b_MG_least 8 = .ok (.aload_n 0, 1) := by decide +kernel
theorem d_MG_least_9 : decode b_MG_least 9 = .ok (.iload_n 2, 1) := by decide +kernel
theorem d_MG_least_10 : decode b_MG_least 10 = .ok (.invokevirtual 77, 3) := by decide +kernel
theorem d_MG_least_13 : decode b_MG_least 13 = .ok (.ifCond .ne 5, 3) := by decide +kernel
theorem d_MG_least_16 : decode b_MG_least 16 = .ok (.iconst (-1), 1) := by decide +kernel
theorem d_MG_least_17 : decode b_MG_least 17 = .ok (.ireturn, 1) := by decide +kernel
theorem d_MG_least_18 : decode b_MG_least 18 = .ok (.aload_n 0, 1) := by decide +kernel
theorem d_MG_least_19 : decode b_MG_least 19 = .ok (.aload_n 0, 1) := by decide +kernel
theorem d_MG_least_20 : decode b_MG_least 20 = .ok (.getfield 38, 3) := by decide +kernel
theorem d_MG_least_23 : decode b_MG_least 23 = .ok (.iload_n 1, 1) := by decide +kernel
theorem d_MG_least_24 : decode b_MG_least 24 = .ok (.aaload, 1) := by decide +kernel
theorem d_MG_least_25 : decode b_MG_least 25 = .ok (.aload_n 0, 1) := by decide +kernel
theorem d_MG_least_26 : decode b_MG_least 26 = .ok (.getfield 25, 3) := by decide +kernel
theorem d_MG_least_29 : decode b_MG_least 29 = .ok (.iload_n 2, 1) := by decide +kernel
theorem d_MG_least_30 : decode b_MG_least 30 = .ok (.iaload, 1) := by decide +kernel
theorem d_MG_least_31 : decode b_MG_least 31 = .ok (.invokevirtual 107, 3) := by decide +kernel
theorem d_MG_least_34 : decode b_MG_least 34 = .ok (.invokevirtual 73, 3) := by decide +kernel
theorem d_MG_least_37 : decode b_MG_least 37 = .ok (.ireturn, 1) := by decide +kernel
theorem d_MG_length_0 : decode b_MG_length 0 = .ok (.aload_n 0, 1) := by decide +kernel
theorem d_MG_length_1 : decode b_MG_length 1 = .ok (.iload_n 1, 1) := by decide +kernel
theorem d_MG_length_2 : decode b_MG_length 2 = .ok (.invokevirtual 94, 3) := by decide +kernel
theorem d_MG_length_5 : decode b_MG_length 5 = .ok (.ifCond .ne 5, 3) := by decide +kernel
theorem d_MG_length_8 : decode b_MG_length 8 = .ok (.iconst (-1), 1) := by decide +kernel
theorem d_MG_length_9 : decode b_MG_length 9 = .ok (.ireturn, 1) := by decide +kernel
theorem d_MG_length_10 : decode b_MG_length 10 = .ok (.aload_n 0, 1) := by decide +kernel
theorem d_MG_length_11 : decode b_MG_length 11 = .ok (.getfield 38, 3) := by decide +kernel
theorem d_MG_length_14 : decode b_MG_length 14 = .ok (.iload_n 1, 1) := by decide +kernel
theorem d_MG_length_15 : decode b_MG_length 15 = .ok (.aaload, 1) := by decide +kernel
theorem d_MG_length_16 : decode b_MG_length 16 = .ok (.astore_n 2, 1) := by decide +kernel
theorem d_MG_length_17 : decode b_MG_length 17 = .ok (.iconst 0, 1) := by decide +kernel
theorem d_MG_length_18 : decode b_MG_length 18 = .ok (.istore_n 3, 1) := by decide +kernel
theorem d_MG_length_19 : decode b_MG_length 19 = .ok (.iload_n 3, 1) := by decide +kernel
theorem d_MG_length_20 : decode b_MG_length 20 = .ok (.bipush 10, 2) := by decide +kernel
theorem d_MG_length_22 : decode b_MG_length 22 = .ok (.if_icmp .ge 61, 3) := by decide +kernel
theorem d_MG_length_25 : decode b_MG_length 25 = .ok (.aload_n 2, 1) := by decide +kernel
theorem d_MG_length_26 : decode b_MG_length 26 = .ok (.getfield 100, 3) := by decide +kernel
theorem d_MG_length_29 : decode b_MG_length 29 = .ok (.iconst 1, 1) := by decide +kernel
theorem d_MG_length_30 : decode b_MG_length 30 = .ok (.if_icmp .ne 5, 3) := by decide +kernel
theorem d_MG_length_33 : decode b_MG_length 33 = .ok (.iload_n 3, 1) := by decide +kernel
theorem d_MG_length_34 : decode b_MG_length 34 = .ok (.ireturn, 1) := by decide +kernel
theorem d_MG_length_35 : decode b_MG_length 35 = .ok (.iload_n 3, 1) := by decide +kernel
theorem d_MG_length_36 : decode b_MG_length 36 = .ok (.iconst 2, 1) := by decide +kernel
theorem d_MG_length_37 : decode b_MG_length 37 = .ok (.irem, 1) := by decide +kernel
theorem d_MG_length_38 : decode b_MG_length 38 = .ok (.ifCond .ne 10, 3) := by decide +kernel
theorem d_MG_length_41 : decode b_MG_length 41 = .ok (.aload_n 0, 1) := by decide +kernel
theorem d_MG_length_42 : decode b_MG_length 42 = .ok (.getfield 48, 3) := by decide +kernel
theorem d_MG_length_45 : decode b_MG_length 45 = .ok (.goto 7, 3) := by decide +kernel
theorem d_MG_length_48 : decode b_MG_length 48 = .ok (.aload_n 0, 1) := by decide +kernel
theorem d_MG_length_49 : decode b_MG_length 49 = .ok (.getfield 52, 3) := by decide +kernel
theorem d_MG_length_52 : decode b_MG_length 52 = .ok (.astore 4, 2) := by decide +kernel
theorem d_MG_length_54 : decode b_MG_length 54 = .ok (.aload 4, 2) := by decide +kernel
theorem d_MG_length_56 : decode b_MG_length 56 = .ok (.aload_n 2, 1) := by decide +kernel
theorem d_MG_length_57 : decode b_MG_length 57 = .ok (.invokevirtual 137, 3) := by decide +kernel
theorem d_MG_length_60 : decode b_MG_length 60 = .ok (.aload 4, 2) := by decide +kernel
theorem d_MG_length_62 : decode b_MG_length 62 = .ok (.getfield 100, 3) := by decide +kernel
theorem d_MG_length_65 : decode b_MG_length 65 = .ok (.aload_n 2, 1) := by decide +kernel
theorem d_MG_length_66 : decode b_MG_length 66 = .ok (.getfield 100, 3) := by decide +kernel
theorem d_MG_length_69 : decode b_MG_length 69 = .ok (.if_icmp .ne 5, 3) := by decide +kernel
theorem d_MG_length_72 : decode b_MG_length 72 = .ok (.iconst (-1), 1) := by decide +kernel
theorem d_MG_length_73 : decode b_MG_length 73 = .ok (.ireturn, 1) := by decide +kernel
theorem d_MG_length_74 : decode b_MG_length 74 = .ok (.aload 4, 2) := by decide +kernel
theorem d_MG_length_76 : decode b_MG_length 76 = .ok (.astore_n 2, 1) := by decide +kernel
theorem d_MG_length_77 : decode b_MG_length 77 = .ok (.iinc 3 1, 3) := by decide +kernel
theorem d_MG_length_80 : decode b_MG_length 80 = .ok (.goto (-61), 3) := by decide +kernel
theorem d_MG_length_83 : decode b_MG_length 83 = .ok (.iconst (-1), 1) := by decide +kernel
theorem d_MG_length_84 : decode b_MG_length 84 = .ok (.ireturn, 1) := by decide +kernel
theorem d_MG_normal_0 : decode b_MG_normal 0 = .ok (.aload_n 0, 1) := by decide +kernel
theorem d_MG_normal_1 : decode b_MG_normal 1 = .ok (.iload_n 1, 1) := by decide +kernel
theorem d_MG_normal_2 : decode b_MG_normal 2 = .ok (.invokevirtual 94, 3) := by decide +kernel
theorem d_MG_normal_5 : decode b_MG_normal 5 = .ok (.ifCond .eq 51, 3) := by decide +kernel
theorem d_MG_normal_8 : decode b_MG_normal 8 = .ok (.aload_n 0, 1) := by decide +kernel
theorem d_MG_normal_9 : decode b_MG_normal 9 = .ok (.iload_n 2, 1) := by decide +kernel
theorem d_MG_normal_10 : decode b_MG_normal 10 = .ok (.invokevirtual 94, 3) := by decide +kernel
theorem d_MG_normal_13 : decode b_MG_normal 13 = .ok (.ifCond .eq 43, 3) := by decide +kernel
theorem d_MG_normal_16 : decode b_MG_normal 16 = .ok (.aload_n 0, 1) := by decide +kernel
theorem d_MG_normal_17 : decode b_MG_normal 17 = .ok (.getfield 38, 3) := by decide +kernel
theorem d_MG_normal_20 : decode b_MG_normal 20 = .ok (.iload_n 2, 1) := by decide +kernel
theorem d_MG_normal_21 : decode b_MG_normal 21 = .ok (.aaload, 1) := by decide +kernel
theorem d_MG_normal_22 : decode b_MG_normal 22 = .ok (.aload_n 0, 1) := by decide +kernel
theorem d_MG_normal_23 : decode b_MG_normal 23 = .ok (.getfield 38, 3) := by decide +kernel
theorem d_MG_normal_26 : decode b_MG_normal 26 = .ok (.iload_n 1, 1) := by decide +kernel
theorem d_MG_normal_27 : decode b_MG_normal 27 = .ok (.aaload, 1) := by decide +kernel
theorem d_MG_normal_28 : decode b_MG_normal 28 = .ok (.invokevirtual 123, 3) := by decide +kernel
theorem d_MG_normal_31 : decode b_MG_normal 31 = .ok (.ifCond .eq 25, 3) := by decide +kernel
theorem d_MG_normal_34 : decode b_MG_normal 34 = .ok (.aload_n 0, 1) := by decide +kernel
theorem d_MG_normal_35 : decode b_MG_normal 35 = .ok (.getfield 38, 3) := by decide +kernel
theorem d_MG_normal_38 : decode b_MG_normal 38 = .ok (.iload_n 2, 1) := by decide +kernel
theorem d_MG_normal_39 : decode b_MG_normal 39 = .ok (.aaload, 1) := by decide +kernel
theorem d_MG_normal_40 : decode b_MG_normal 40 = .ok (.aload_n 0, 1) := by decide +kernel
theorem d_MG_normal_41 : decode b_MG_normal 41 = .ok (.getfield 38, 3) := by decide +kernel
theorem d_MG_normal_44 : decode b_MG_normal 44 = .ok (.iload_n 1, 1) := by decide +kernel
theorem d_MG_normal_45 : decode b_MG_normal 45 = .ok (.aaload, 1) := by decide +kernel
theorem d_MG_normal_46 : decode b_MG_normal 46 = .ok (.invokevirtual 127, 3) := by decide +kernel
theorem d_MG_normal_49 : decode b_MG_normal 49 = .ok (.ifCond .eq 7, 3) := by decide +kernel
theorem d_MG_normal_52 : decode b_MG_normal 52 = .ok (.iconst 1, 1) := by decide +kernel
theorem d_MG_normal_53 : decode b_MG_normal 53 = .ok (.goto 4, 3) := by decide +kernel
theorem d_MG_normal_56 : decode b_MG_normal 56 = .ok (.iconst 0, 1) := by decide +kernel
theorem d_MG_normal_57 : decode b_MG_normal 57 = .ok (.ireturn, 1) := by decide +kernel
theorem d_MG_orbit_0 : decode b_MG_orbit 0 = .ok (.aload_n 0, 1) := by decide +kernel
theorem d_MG_orbit_1 : decode b_MG_orbit 1 = .ok (.iload_n 1, 1) := by decide +kernel
theorem d_MG_orbit_2 : decode b_MG_orbit 2 = .ok (.invokevirtual 94, 3) := by decide +kernel
theorem d_MG_orbit_5 : decode b_MG_orbit 5 = .ok (.ifCond .eq 18, 3) := by decide +kernel
theorem d_MG_orbit_8 : decode b_MG_orbit 8 = .ok (.iload_n 2, 1) := by decide +kernel
theorem d_MG_orbit_9 : decode b_MG_orbit 9 = .ok (.ifCond .lt 14, 3) := by decide +kernel
theorem d_MG_orbit_12 : decode b_MG_orbit 12 = .ok (.iload_n 2, 1) := by decide +kernel
theorem d_MG_orbit_13 : decode b_MG_orbit 13 = .ok (.aload_n 0, 1) := by decide +kernel
theorem d_MG_orbit_14 : decode b_MG_orbit 14 = .ok (.getfield 14, 3) := by decide +kernel
theorem d_MG_orbit_17 : decode b_MG_orbit 17 = .ok (.getfield 110, 3) := by decide +kernel
theorem d_MG_orbit_20 : decode b_MG_orbit 20 = .ok (.if_icmp .lt 5, 3) := by decide +kernel
theorem d_MG_orbit_23 : decode b_MG_orbit 23 = .ok (.iconst (-1), 1) := by decide +kernel
theorem d_MG_orbit_24 : decode b_MG_orbit 24 = .ok (.ireturn, 1) := by decide +kernel
theorem d_MG_orbit_25 : decode b_MG_orbit 25 = .ok (.aload_n 0, 1) := by decide +kernel
theorem d_MG_orbit_26 : decode b_MG_orbit 26 = .ok (.getfield 38, 3) := by decide +kernel
theorem d_MG_orbit_29 : decode b_MG_orbit 29 = .ok (.iload_n 1, 1) := by decide +kernel
theorem d_MG_orbit_30 : decode b_MG_orbit 30 = .ok (.aaload, 1) := by decide +kernel
theorem d_MG_orbit_31 : decode b_MG_orbit 31 = .ok (.iload_n 2, 1) := by decide +kernel
theorem d_MG_orbit_32 : decode b_MG_orbit 32 = .ok (.invokevirtual 113, 3) := by decide +kernel
theorem d_MG_orbit_35 : decode b_MG_orbit 35 = .ok (.ireturn, 1) := by decide +kernel
theorem d_MG_order_0 : decode b_MG_order 0 = .ok (.aload_n 0, 1) := by decide +kernel
theorem d_MG_order_1 : decode b_MG_order 1 = .ok (.iload_n 1, 1) := by decide +kernel
theorem d_MG_order_2 : decode b_MG_order 2 = .ok (.invokevirtual 94, 3) := by decide +kernel
theorem d_MG_order_5 : decode b_MG_order 5 = .ok (.ifCond .eq 15, 3) := by decide +kernel
theorem d_MG_order_8 : decode b_MG_order 8 = .ok (.aload_n 0, 1) := by decide +kernel
theorem d_MG_order_9 : decode b_MG_order 9 = .ok (.getfield 38, 3) := by decide +kernel
theorem d_MG_order_12 : decode b_MG_order 12 = .ok (.iload_n 1, 1) := by decide +kernel
theorem d_MG_order_13 : decode b_MG_order 13 = .ok (.aaload, 1) := by decide +kernel
theorem d_MG_order_14 : decode b_MG_order 14 = .ok (.getfield 100, 3) := by decide +kernel
theorem d_MG_order_17 : decode b_MG_order 17 = .ok (.goto 4, 3) := by decide +kernel
theorem d_MG_order_20 : decode b_MG_order 20 = .ok (.iconst (-1), 1) := by decide +kernel
theorem d_MG_order_21 : decode b_MG_order 21 = .ok (.ireturn, 1) := by decide +kernel
theorem d_MG_product_0 : decode b_MG_product 0 = .ok (.aload_n 0, 1) := by decide +kernel
theorem d_MG_product_1 : decode b_MG_product 1 = .ok (.iload_n 1, 1) := by decide +kernel
theorem d_MG_product_2 : decode b_MG_product 2 = .ok (.invokevirtual 77, 3) := by decide +kernel
theorem d_MG_product_5 : decode b_MG_product 5 = .ok (.ifCond .eq 11, 3) := by decide +kernel
theorem d_MG_product_8 : decode b_MG_product 8 = .ok (.aload_n 0, 1) := by decide +kernel
theorem d_MG_product_9 : decode b_MG_product 9 = .ok (.iload_n 2, 1) := by decide +kernel
theorem d_MG_product_10 : decode b_MG_product 10 = .ok (.invokevirtual 77, 3) := by decide +kernel
theorem d_MG_product_13 : decode b_MG_product 13 = .ok (.ifCond .ne 5, 3) := by decide +kernel
theorem d_MG_product_16 : decode b_MG_product 16 = .ok (.iconst (-1), 1) := by decide +kernel
theorem d_MG_product_17 : decode b_MG_product 17 = .ok (.ireturn, 1) := by decide +kernel
theorem d_MG_product_18 : decode b_MG_product 18 = .ok (.aload_n 0, 1) := by decide +kernel
theorem d_MG_product_19 : decode b_MG_product 19 = .ok (.aload_n 0, 1) := by decide +kernel
theorem d_MG_product_20 : decode b_MG_product 20 = .ok (.getfield 14, 3) := by decide +kernel
theorem d_MG_product_23 : decode b_MG_product 23 = .ok (.aload_n 0, 1) := by decide +kernel
theorem d_MG_product_24 : decode b_MG_product 24 = .ok (.getfield 25, 3) := by decide +kernel
theorem d_MG_product_27 : decode b_MG_product 27 = .ok (.iload_n 1, 1) := by decide +kernel
theorem d_MG_product_28 : decode b_MG_product 28 = .ok (.iaload, 1) := by decide +kernel
theorem d_MG_product_29 : decode b_MG_product 29 = .ok (.aload_n 0, 1) := by decide +kernel
theorem d_MG_product_30 : decode b_MG_product 30 = .ok (.getfield 25, 3) := by decide +kernel
theorem d_MG_product_33 : decode b_MG_product 33 = .ok (.iload_n 2, 1) := by decide +kernel
theorem d_MG_product_34 : decode b_MG_product 34 = .ok (.iaload, 1) := by decide +kernel
theorem d_MG_product_35 : decode b_MG_product 35 = .ok (.invokevirtual 81, 3) := by decide +kernel
theorem d_MG_product_38 : decode b_MG_product 38 = .ok (.invokevirtual 73, 3) := by decide +kernel
theorem d_MG_product_41 : decode b_MG_product 41 = .ok (.ireturn, 1) := by decide +kernel
theorem d_MG_read_0 : decode b_MG_read 0 = .ok (.aload_n 0, 1) := by decide +kernel
theorem d_MG_read_1 : decode b_MG_read 1 = .ok (.getfield 21, 3) := by decide +kernel
theorem d_MG_read_4 : decode b_MG_read 4 = .ok (.invokevirtual 59, 3) := by decide +kernel
theorem d_MG_read_7 : decode b_MG_read 7 = .ok (.istore_n 1, 1) := by decide +kernel
theorem d_MG_read_8 : decode b_MG_read 8 = .ok (.aload_n 0, 1) := by decide +kernel
theorem d_MG_read_9 : decode b_MG_read 9 = .ok (.getfield 21, 3) := by decide +kernel
theorem d_MG_read_12 : decode b_MG_read 12 = .ok (.invokevirtual 63, 3) := by decide +kernel
theorem d_MG_read_15 : decode b_MG_read 15 = .ok (.iload_n 1, 1) := by decide +kernel
theorem d_MG_read_16 : decode b_MG_read 16 = .ok (.iconst (-1), 1) := by decide +kernel
theorem d_MG_read_17 : decode b_MG_read 17 = .ok (.if_icmp .eq 7, 3) := by decide +kernel
theorem d_MG_read_20 : decode b_MG_read 20 = .ok (.iconst (-1), 1) := by decide +kernel
theorem d_MG_read_21 : decode b_MG_read 21 = .ok (.iload_n 1, 1) := by decide +kernel
theorem d_MG_read_22 : decode b_MG_read 22 = .ok (.isub, 1) := by decide +kernel
theorem d_MG_read_23 : decode b_MG_read 23 = .ok (.ireturn, 1) := by decide +kernel
theorem d_MG_read_24 : decode b_MG_read 24 = .ok (.aload_n 0, 1) := by decide +kernel
theorem d_MG_read_25 : decode b_MG_read 25 = .ok (.aload_n 0, 1) := by decide +kernel
theorem d_MG_read_26 : decode b_MG_read 26 = .ok (.getfield 14, 3) := by decide +kernel
theorem d_MG_read_29 : decode b_MG_read 29 = .ok (.aload_n 0, 1) := by decide +kernel
theorem d_MG_read_30 : decode b_MG_read 30 = .ok (.getfield 21, 3) := by decide +kernel
theorem d_MG_read_33 : decode b_MG_read 33 = .ok (.getfield 66, 3) := by decide +kernel
theorem d_MG_read_36 : decode b_MG_read 36 = .ok (.invokevirtual 69, 3) := by decide +kernel
theorem d_MG_read_39 : decode b_MG_read 39 = .ok (.invokevirtual 73, 3) := by decide +kernel
theorem d_MG_read_42 : decode b_MG_read 42 = .ok (.istore_n 2, 1) := by decide +kernel
theorem d_MG_read_43 : decode b_MG_read 43 = .ok (.iload_n 2, 1) := by decide +kernel
theorem d_MG_read_44 : decode b_MG_read 44 = .ok (.iconst (-1), 1) := by decide +kernel
theorem d_MG_read_45 : decode b_MG_read 45 = .ok (.if_icmp .ne 9, 3) := by decide +kernel
theorem d_MG_read_48 : decode b_MG_read 48 = .ok (.sipush (-1000), 3) := by decide +kernel
theorem d_MG_read_51 : decode b_MG_read 51 = .ok (.goto 4, 3) := by decide +kernel
theorem d_MG_read_54 : decode b_MG_read 54 = .ok (.iload_n 2, 1) := by decide +kernel
theorem d_MG_read_55 : decode b_MG_read 55 = .ok (.ireturn, 1) := by decide +kernel
theorem d_MG_type_0 : decode b_MG_type 0 = .ok (.aload_n 0, 1) := by decide +kernel
theorem d_MG_type_1 : decode b_MG_type 1 = .ok (.getfield 21, 3) := by decide +kernel
theorem d_MG_type_4 : decode b_MG_type 4 = .ok (.iload_n 1, 1) := by decide +kernel
theorem d_MG_type_5 : decode b_MG_type 5 = .ok (.iload_n 2, 1) := by decide +kernel
theorem d_MG_type_6 : decode b_MG_type 6 = .ok (.invokevirtual 55, 3) := by decide +kernel
theorem d_MG_type_9 : decode b_MG_type 9 = .ok (.ireturn, 1) := by decide +kernel
