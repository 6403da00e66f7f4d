theorem d_CT_init_0 : decode b_CT_init 0 = .ok (.aload_n 0, 1) := by decide +kernel
theorem d_CT_init_1 : decode b_CT_init 1 = .ok (.invokespecial 1, 3) := by decide +kernel
theorem d_CT_init_4 : decode b_CT_init 4 = .ok (.aload_n 0, 1) := by decide +kernel
theorem d_CT_init_5 : decode b_CT_init 5 = .ok (.iload_n 1, 1) := by decide +kernel
theorem d_CT_init_6 : decode b_CT_init 6 = .ok (.putfield 7, 3) := by decide +kernel
theorem d_CT_init_9 : decode b_CT_init 9 = .ok (.aload_n 0, 1) := by decide +kernel
theorem d_CT_init_10 : decode b_CT_init 10 = .ok (.iload_n 1, 1) := by decide +kernel
theorem d_CT_init_11 : decode b_CT_init 11 = .ok (.newarray .int, 2) := by decide +kernel
theorem d_CT_init_13 : decode b_CT_init 13 = .ok (.putfield 13, 3) := by decide +kernel
theorem d_CT_init_16 : decode b_CT_init 16 = .ok (.aload_n 0, 1) := by decide +kernel
theorem d_CT_init_17 : decode b_CT_init 17 = .ok (.bipush 40, 2) := by decide +kernel
theorem d_CT_init_19 : decode b_CT_init 19 = .ok (.newarray .char, 2) := by decide +kernel
theorem d_CT_init_21 : decode b_CT_init 21 = .ok (.putfield 17, 3) := by decide +kernel
theorem d_CT_init_24 : decode b_CT_init 24 = .ok (.aload_n 0, 1) := by decide +kernel
theorem d_CT_init_25 : decode b_CT_init 25 = .ok (.iconst 0, 1) := by decide +kernel
theorem d_CT_init_26 : decode b_CT_init 26 = .ok (.putfield 21, 3) := by decide +kernel
theorem d_CT_init_29 : decode b_CT_init 29 = .ok (.return_, 1) := by decide +kernel
theorem d_CT_append_0 : decode b_CT_append 0 = .ok (.iload_n 2, 1) := by decide +kernel
theorem d_CT_append_1 : decode b_CT_append 1 = .ok (.iconst 1, 1) := by decide +kernel
theorem d_CT_append_2 : decode b_CT_append 2 = .ok (.if_icmp .lt 19, 3) := by decide +kernel
theorem d_CT_append_5 : decode b_CT_append 5 = .ok (.iload_n 2, 1) := by decide +kernel
theorem d_CT_append_6 : decode b_CT_append 6 = .ok (.iconst 4, 1) := by decide +kernel
theorem d_CT_append_7 : decode b_CT_append 7 = .ok (.if_icmp .gt 14, 3) := by decide +kernel
theorem d_CT_append_10 : decode b_CT_append 10 = .ok (.aload_n 0, 1) := by decide +kernel
theorem d_CT_append_11 : decode b_CT_append 11 = .ok (.getfield 21, 3) := by decide +kernel
theorem d_CT_append_14 : decode b_CT_append 14 = .ok (.iload_n 2, 1) := by decide +kernel
theorem d_CT_append_15 : decode b_CT_append 15 = .ok (.iadd, 1) := by decide +kernel
theorem d_CT_append_16 : decode b_CT_append 16 = .ok (.bipush 40, 2) := by decide +kernel
theorem d_CT_append_18 : decode b_CT_append 18 = .ok (.if_icmp .le 5, 3) := by decide +kernel
theorem d_CT_append_21 : decode b_CT_append 21 = .ok (.iconst 0, 1) := by decide +kernel
theorem d_CT_append_22 : decode b_CT_append 22 = .ok (.ireturn, 1) := by decide +kernel
theorem d_CT_append_23 : decode b_CT_append 23 = .ok (.iconst 0, 1) := by decide +kernel
theorem d_CT_append_24 : decode b_CT_append 24 = .ok (.istore_n 3, 1) := by decide +kernel
theorem d_CT_append_25 : decode b_CT_append 25 = .ok (.iload_n 3, 1) := by decide +kernel
theorem d_CT_append_26 : decode b_CT_append 26 = .ok (.iload_n 2, 1) := by decide +kernel
theorem d_CT_append_27 : decode b_CT_append 27 = .ok (.if_icmp .ge 32, 3) := by decide +kernel
theorem d_CT_append_30 : decode b_CT_append 30 = .ok (.iload_n 1, 1) := by decide +kernel
theorem d_CT_append_31 : decode b_CT_append 31 = .ok (.iload_n 3, 1) := by decide +kernel
theorem d_CT_append_32 : decode b_CT_append 32 = .ok (.invokestatic 24, 3) := by decide +kernel
theorem d_CT_append_35 : decode b_CT_append 35 = .ok (.istore 4, 2) := by decide +kernel
theorem d_CT_append_37 : decode b_CT_append 37 = .ok (.iload 4, 2) := by decide +kernel
theorem d_CT_append_39 : decode b_CT_append 39 = .ok (.bipush 32, 2) := by decide +kernel
theorem d_CT_append_41 : decode b_CT_append 41 = .ok (.if_icmp .lt 10, 3) := by decide +kernel
theorem d_CT_append_44 : decode b_CT_append 44 = .ok (.iload 4, 2) := by decide +kernel
theorem d_CT_append_46 : decode b_CT_append 46 = .ok (.bipush 126, 2) := by decide +kernel
theorem d_CT_append_48 : decode b_CT_append 48 = .ok (.if_icmp .le 5, 3) := by decide +kernel
theorem d_CT_append_51 : decode b_CT_append 51 = .ok (.iconst 0, 1) := by decide +kernel
theorem d_CT_append_52 : decode b_CT_append 52 = .ok (.ireturn, 1) := by decide +kernel
theorem d_CT_append_53 : decode b_CT_append 53 = .ok (.iinc 3 1, 3) := by decide +kernel
theorem d_CT_append_56 : decode b_CT_append 56 = .ok (.goto (-31), 3) := by decide +kernel
theorem d_CT_append_59 : decode b_CT_append 59 = .ok (.iload_n 2, 1) := by decide +kernel
theorem d_CT_append_60 : decode b_CT_append 60 = .ok (.iconst 1, 1) := by decide +kernel
theorem d_CT_append_61 : decode b_CT_append 61 = .ok (.isub, 1) := by decide +kernel
theorem d_CT_append_62 : decode b_CT_append 62 = .ok (.istore_n 3, 1) := by decide +kernel
theorem d_CT_append_63 : decode b_CT_append 63 = .ok (.iload_n 3, 1) := by decide +kernel
theorem d_CT_append_64 : decode b_CT_append 64 = .ok (.ifCond .lt 34, 3) := by decide +kernel
theorem d_CT_append_67 : decode b_CT_append 67 = .ok (.aload_n 0, 1) := by decide +kernel
theorem d_CT_append_68 : decode b_CT_append 68 = .ok (.getfield 17, 3) := by decide +kernel
theorem d_CT_append_71 : decode b_CT_append 71 = .ok (.aload_n 0, 1) := by decide +kernel
theorem d_CT_append_72 : decode b_CT_append 72 = .ok (.getfield 21, 3) := by decide +kernel
theorem d_CT_append_75 : decode b_CT_append 75 = .ok (.iload_n 1, 1) := by decide +kernel
theorem d_CT_append_76 : decode b_CT_append 76 = .ok (.iload_n 3, 1) := by decide +kernel
theorem d_CT_append_77 : decode b_CT_append 77 = .ok (.invokestatic 24, 3) := by decide +kernel
theorem d_CT_append_80 : decode b_CT_append 80 = .ok (.i2c, 1) := by decide +kernel
theorem d_CT_append_81 : decode b_CT_append 81 = .ok (.castore, 1) := by decide +kernel
theorem d_CT_append_82 : decode b_CT_append 82 = .ok (.aload_n 0, 1) := by decide +kernel
theorem d_CT_append_83 : decode b_CT_append 83 = .ok (.dup, 1) := by decide +kernel
theorem d_CT_append_84 : decode b_CT_append 84 = .ok (.getfield 21, 3) := by decide +kernel
theorem d_CT_append_87 : decode b_CT_append 87 = .ok (.iconst 1, 1) := by decide +kernel
theorem d_CT_append_88 : decode b_CT_append 88 = .ok (.iadd, 1) := by decide +kernel
theorem d_CT_append_89 : decode b_CT_append 89 = .ok (.putfield 21, 3) := by decide +kernel
theorem d_CT_append_92 : decode b_CT_append 92 = .ok (.iinc 3 (-1), 3) := by decide +kernel
theorem d_CT_append_95 : decode b_CT_append 95 = .ok (.goto (-32), 3) := by decide +kernel
theorem d_CT_append_98 : decode b_CT_append 98 = .ok (.iconst 1, 1) := by decide +kernel
theorem d_CT_append_99 : decode b_CT_append 99 = .ok (.ireturn, 1) := by decide +kernel
theorem d_CT_closeBracket_0 : decode b_CT_closeBracket 0 = .ok (.aload_n 0, 1) := by decide +kernel
theorem d_CT_closeBracket_1 : decode b_CT_closeBracket 1 = .ok (.getfield 50, 3) := by decide +kernel
theorem d_CT_closeBracket_4 : decode b_CT_closeBracket 4 = .ok (.iconst (-1), 1) := by decide +kernel
theorem d_CT_closeBracket_5 : decode b_CT_closeBracket 5 = .ok (.if_icmp .ne 5, 3) := by decide +kernel
theorem d_CT_closeBracket_8 : decode b_CT_closeBracket 8 = .ok (.iconst 0, 1) := by decide +kernel
theorem d_CT_closeBracket_9 : decode b_CT_closeBracket 9 = .ok (.ireturn, 1) := by decide +kernel
theorem d_CT_closeBracket_10 : decode b_CT_closeBracket 10 = .ok (.aload_n 0, 1) := by decide +kernel
theorem d_CT_closeBracket_11 : decode b_CT_closeBracket 11 = .ok (.getfield 13, 3) := by decide +kernel
theorem d_CT_closeBracket_14 : decode b_CT_closeBracket 14 = .ok (.aload_n 0, 1) := by decide +kernel
theorem d_CT_closeBracket_15 : decode b_CT_closeBracket 15 = .ok (.getfield 53, 3) := by decide +kernel
theorem d_CT_closeBracket_18 : decode b_CT_closeBracket 18 = .ok (.aload_n 0, 1) := by decide +kernel
theorem d_CT_closeBracket_19 : decode b_CT_closeBracket 19 = .ok (.getfield 50, 3) := by decide +kernel
theorem d_CT_closeBracket_22 : decode b_CT_closeBracket 22 = .ok (.iastore, 1) := by decide +kernel
theorem d_CT_closeBracket_23 : decode b_CT_closeBracket 23 = .ok (.aload_n 0, 1) := by decide +kernel
theorem d_CT_closeBracket_24 : decode b_CT_closeBracket 24 = .ok (.iconst 0, 1) := by decide +kernel
theorem d_CT_closeBracket_25 : decode b_CT_closeBracket 25 = .ok (.putfield 28, 3) := by decide +kernel
theorem d_CT_closeBracket_28 : decode b_CT_closeBracket 28 = .ok (.iconst 1, 1) := by decide +kernel
theorem d_CT_closeBracket_29 : decode b_CT_closeBracket 29 = .ok (.ireturn, 1) := by decide +kernel
theorem d_CT_forget_0 : decode b_CT_forget 0 = .ok (.aload_n 0, 1) := by decide +kernel
theorem d_CT_forget_1 : decode b_CT_forget 1 = .ok (.iconst 0, 1) := by decide +kernel
theorem d_CT_forget_2 : decode b_CT_forget 2 = .ok (.putfield 21, 3) := by decide +kernel
theorem d_CT_forget_5 : decode b_CT_forget 5 = .ok (.return_, 1) := by decide +kernel
theorem d_CT_lowByte_0 : decode b_CT_lowByte 0 = .ok (.iload_n 0, 1) := by decide +kernel
theorem d_CT_lowByte_1 : decode b_CT_lowByte 1 = .ok (.bipush 8, 2) := by decide +kernel
theorem d_CT_lowByte_3 : decode b_CT_lowByte 3 = .ok (.iload_n 1, 1) := by decide +kernel
theorem d_CT_lowByte_4 : decode b_CT_lowByte 4 = .ok (.imul, 1) := by decide +kernel
theorem d_CT_lowByte_5 : decode b_CT_lowByte 5 = .ok (.iushr, 1) := by decide +kernel
theorem d_CT_lowByte_6 : decode b_CT_lowByte 6 = .ok (.sipush 255, 3) := by decide +kernel
theorem d_CT_lowByte_9 : decode b_CT_lowByte 9 = .ok (.iand, 1) := by decide +kernel
theorem d_CT_lowByte_10 : decode b_CT_lowByte 10 = .ok (.ireturn, 1) := by decide +kernel
theorem d_CT_openBracket_0 : decode b_CT_openBracket 0 = .ok (.aload_n 0, 1) := by decide +kernel
theorem d_CT_openBracket_1 : decode b_CT_openBracket 1 = .ok (.iconst 1, 1) := by decide +kernel
theorem d_CT_openBracket_2 : decode b_CT_openBracket 2 = .ok (.putfield 28, 3) := by decide +kernel
theorem d_CT_openBracket_5 : decode b_CT_openBracket 5 = .ok (.aload_n 0, 1) := by decide +kernel
theorem d_CT_openBracket_6 : decode b_CT_openBracket 6 = .ok (.iconst (-1), 1) := by decide +kernel
theorem d_CT_openBracket_7 : decode b_CT_openBracket 7 = .ok (.putfield 50, 3) := by decide +kernel
theorem d_CT_openBracket_10 : decode b_CT_openBracket 10 = .ok (.aload_n 0, 1) := by decide +kernel
theorem d_CT_openBracket_11 : decode b_CT_openBracket 11 = .ok (.iconst (-1), 1) := by decide +kernel
theorem d_CT_openBracket_12 : decode b_CT_openBracket 12 = .ok (.putfield 53, 3) := by decide +kernel
theorem d_CT_openBracket_15 : decode b_CT_openBracket 15 = .ok (.iconst 1, 1) := by decide +kernel
theorem d_CT_openBracket_16 : decode b_CT_openBracket 16 = .ok (.ireturn, 1) := by decide +kernel
theorem d_CT_parse_0 : decode b_CT_parse 0 = .ok (.iconst 0, 1) := by decide +kernel
theorem d_CT_parse_1 : decode b_CT_parse 1 = .ok (.istore_n 1, 1) := by decide +kernel
theorem d_CT_parse_2 : decode b_CT_parse 2 = .ok (.iload_n 1, 1) := by decide +kernel
theorem d_CT_parse_3 : decode b_CT_parse 3 = .ok (.aload_n 0, 1) := by decide +kernel
theorem d_CT_parse_4 : decode b_CT_parse 4 = .ok (.getfield 7, 3) := by decide +kernel
theorem d_CT_parse_7 : decode b_CT_parse 7 = .ok (.if_icmp .ge 16, 3) := by decide +kernel
theorem d_CT_parse_10 : decode b_CT_parse 10 = .ok (.aload_n 0, 1) := by decide +kernel
theorem d_CT_parse_11 : decode b_CT_parse 11 = .ok (.getfield 13, 3) := by decide +kernel
theorem d_CT_parse_14 : decode b_CT_parse 14 = .ok (.iload_n 1, 1) := by decide +kernel
theorem d_CT_parse_15 : decode b_CT_parse 15 = .ok (.iload_n 1, 1) := by decide +kernel
theorem d_CT_parse_16 : decode b_CT_parse 16 = .ok (.iastore, 1) := by decide +kernel
theorem d_CT_parse_17 : decode b_CT_parse 17 = .ok (.iinc 1 1, 3) := by decide +kernel
theorem d_CT_parse_20 : decode b_CT_parse 20 = .ok (.goto (-18), 3) := by decide +kernel
theorem d_CT_parse_23 : decode b_CT_parse 23 = .ok (.aload_n 0, 1) := by decide +kernel
theorem d_CT_parse_24 : decode b_CT_parse 24 = .ok (.iconst 0, 1) := by decide +kernel
theorem d_CT_parse_25 : decode b_CT_parse 25 = .ok (.putfield 28, 3) := by decide +kernel
theorem d_CT_parse_28 : decode b_CT_parse 28 = .ok (.aload_n 0, 1) := by decide +kernel
theorem d_CT_parse_29 : decode b_CT_parse 29 = .ok (.iconst 0, 1) := by decide +kernel
theorem d_CT_parse_30 : decode b_CT_parse 30 = .ok (.putfield 32, 3) := by decide +kernel
theorem d_CT_parse_33 : decode b_CT_parse 33 = .ok (.iconst 0, 1) := by decide +kernel
theorem d_CT_parse_34 : decode b_CT_parse 34 = .ok (.istore_n 1, 1) := by decide +kernel
theorem d_CT_parse_35 : decode b_CT_parse 35 = .ok (.iload_n 1, 1) := by decide +kernel
theorem d_CT_parse_36 : decode b_CT_parse 36 = .ok (.aload_n 0, 1) := by decide +kernel
theorem d_CT_parse_37 : decode b_CT_parse 37 = .ok (.getfield 21, 3) := by decide +kernel
theorem d_CT_parse_40 : decode b_CT_parse 40 = .ok (.if_icmp .ge 35, 3) := by decide +kernel
theorem d_CT_parse_43 : decode b_CT_parse 43 = .ok (.aload_n 0, 1) := by decide +kernel
theorem d_CT_parse_44 : decode b_CT_parse 44 = .ok (.getfield 17, 3) := by decide +kernel
theorem d_CT_parse_47 : decode b_CT_parse 47 = .ok (.iload_n 1, 1) := by decide +kernel
theorem d_CT_parse_48 : decode b_CT_parse 48 = .ok (.caload, 1) := by decide +kernel
theorem d_CT_parse_49 : decode b_CT_parse 49 = .ok (.bipush 32, 2) := by decide +kernel
theorem d_CT_parse_51 : decode b_CT_parse 51 = .ok (.if_icmp .eq 18, 3) := by decide +kernel
theorem d_CT_parse_54 : decode b_CT_parse 54 = .ok (.aload_n 0, 1) := by decide +kernel
theorem d_CT_parse_55 : decode b_CT_parse 55 = .ok (.aload_n 0, 1) := by decide +kernel
theorem d_CT_parse_56 : decode b_CT_parse 56 = .ok (.getfield 17, 3) := by decide +kernel
theorem d_CT_parse_59 : decode b_CT_parse 59 = .ok (.iload_n 1, 1) := by decide +kernel
theorem d_CT_parse_60 : decode b_CT_parse 60 = .ok (.caload, 1) := by decide +kernel
theorem d_CT_parse_61 : decode b_CT_parse 61 = .ok (.invokevirtual 35, 3) := by decide +kernel
theorem d_CT_parse_64 : decode b_CT_parse 64 = .ok (.ifCond .ne 5, 3) := by decide +kernel
theorem d_CT_parse_67 : decode b_CT_parse 67 = .ok (.iload_n 1, 1) := by decide +kernel
theorem d_CT_parse_68 : decode b_CT_parse 68 = .ok (.ireturn, 1) := by decide +kernel
theorem d_CT_parse_69 : decode b_CT_parse 69 = .ok (.iinc 1 1, 3) := by decide +kernel
theorem d_CT_parse_72 : decode b_CT_parse 72 = .ok (.goto (-37), 3) := by decide +kernel
theorem d_CT_parse_75 : decode b_CT_parse 75 = .ok (.aload_n 0, 1) := by decide +kernel
theorem d_CT_parse_76 : decode b_CT_parse 76 = .ok (.getfield 28, 3) := by decide +kernel
theorem d_CT_parse_79 : decode b_CT_parse 79 = .ok (.ifCond .eq 10, 3) := by decide +kernel
theorem d_CT_parse_82 : decode b_CT_parse 82 = .ok (.aload_n 0, 1) := by decide +kernel
theorem d_CT_parse_83 : decode b_CT_parse 83 = .ok (.getfield 21, 3) := by decide +kernel
theorem d_CT_parse_86 : decode b_CT_parse 86 = .ok (.goto 4, 3) := by decide +kernel
theorem d_CT_parse_89 : decode b_CT_parse 89 = .ok (.iconst (-1), 1) := by decide +kernel
theorem d_CT_parse_90 : decode b_CT_parse 90 = .ok (.ireturn, 1) := by decide +kernel
theorem d_CT_take_0 : decode b_CT_take 0 = .ok (.aload_n 0, 1) := by decide +kernel
theorem d_CT_take_1 : decode b_CT_take 1 = .ok (.getfield 28, 3) := by decide +kernel
theorem d_CT_take_4 : decode b_CT_take 4 = .ok (.ifCond .ne 22, 3) := by decide +kernel
theorem d_CT_take_7 : decode b_CT_take 7 = .ok (.iload_n 1, 1) := by decide +kernel
theorem d_CT_take_8 : decode b_CT_take 8 = .ok (.bipush 40, 2) := by decide +kernel
theorem d_CT_take_10 : decode b_CT_take 10 = .ok (.if_icmp .ne 14, 3) := by decide +kernel
theorem d_CT_take_13 : decode b_CT_take 13 = .ok (.aload_n 0, 1) := by decide +kernel
theorem d_CT_take_14 : decode b_CT_take 14 = .ok (.invokevirtual 39, 3) := by decide +kernel
theorem d_CT_take_17 : decode b_CT_take 17 = .ok (.ifCond .eq 7, 3) := by decide +kernel
theorem d_CT_take_20 : decode b_CT_take 20 = .ok (.iconst 1, 1) := by decide +kernel
theorem d_CT_take_21 : decode b_CT_take 21 = .ok (.goto 4, 3) := by decide +kernel
theorem d_CT_take_24 : decode b_CT_take 24 = .ok (.iconst 0, 1) := by decide +kernel
theorem d_CT_take_25 : decode b_CT_take 25 = .ok (.ireturn, 1) := by decide +kernel
theorem d_CT_take_26 : decode b_CT_take 26 = .ok (.iload_n 1, 1) := by decide +kernel
theorem d_CT_take_27 : decode b_CT_take 27 = .ok (.bipush 41, 2) := by decide +kernel
theorem d_CT_take_29 : decode b_CT_take 29 = .ok (.if_icmp .ne 10, 3) := by decide +kernel
theorem d_CT_take_32 : decode b_CT_take 32 = .ok (.aload_n 0, 1) := by decide +kernel
theorem d_CT_take_33 : decode b_CT_take 33 = .ok (.invokevirtual 43, 3) := by decide +kernel
theorem d_CT_take_36 : decode b_CT_take 36 = .ok (.goto 11, 3) := by decide +kernel
theorem d_CT_take_39 : decode b_CT_take 39 = .ok (.aload_n 0, 1) := by decide +kernel
theorem d_CT_take_40 : decode b_CT_take 40 = .ok (.iload_n 1, 1) := by decide +kernel
theorem d_CT_take_41 : decode b_CT_take 41 = .ok (.bipush 48, 2) := by decide +kernel
theorem d_CT_take_43 : decode b_CT_take 43 = .ok (.isub, 1) := by decide +kernel
theorem d_CT_take_44 : decode b_CT_take 44 = .ok (.invokevirtual 46, 3) := by decide +kernel
theorem d_CT_take_47 : decode b_CT_take 47 = .ok (.ireturn, 1) := by decide +kernel
theorem d_CT_takePoint_0 : decode b_CT_takePoint 0 = .ok (.iload_n 1, 1) := by decide +kernel
theorem d_CT_takePoint_1 : decode b_CT_takePoint 1 = .ok (.ifCond .lt 22, 3) := by decide +kernel
theorem d_CT_takePoint_4 : decode b_CT_takePoint 4 = .ok (.iload_n 1, 1) := by decide +kernel
theorem d_CT_takePoint_5 : decode b_CT_takePoint 5 = .ok (.aload_n 0, 1) := by decide +kernel
theorem d_CT_takePoint_6 : decode b_CT_takePoint 6 = .ok (.getfield 7, 3) := by decide +kernel
theorem d_CT_takePoint_9 : decode b_CT_takePoint 9 = .ok (.if_icmp .ge 14, 3) := by decide +kernel
theorem d_CT_takePoint_12 : decode b_CT_takePoint 12 = .ok (.aload_n 0, 1) := by decide +kernel
theorem d_CT_takePoint_13 : decode b_CT_takePoint 13 = .ok (.getfield 32, 3) := by decide +kernel
theorem d_CT_takePoint_16 : decode b_CT_takePoint 16 = .ok (.iload_n 1, 1) := by decide +kernel
theorem d_CT_takePoint_17 : decode b_CT_takePoint 17 = .ok (.ishr, 1) := by decide +kernel
theorem d_CT_takePoint_18 : decode b_CT_takePoint 18 = .ok (.iconst 1, 1) := by decide +kernel
theorem d_CT_takePoint_19 : decode b_CT_takePoint 19 = .ok (.iand, 1) := by decide +kernel
theorem d_CT_takePoint_20 : decode b_CT_takePoint 20 = .ok (.ifCond .eq 5, 3) := by decide +kernel
theorem d_CT_takePoint_23 : decode b_CT_takePoint 23 = .ok (.iconst 0, 1) := by decide +kernel
theorem d_CT_takePoint_24 : decode b_CT_takePoint 24 = .ok (.ireturn, 1) := by decide +kernel
theorem d_CT_takePoint_25 : decode b_CT_takePoint 25 = .ok (.aload_n 0, 1) := by decide +kernel
theorem d_CT_takePoint_26 : decode b_CT_takePoint 26 = .ok (.getfield 50, 3) := by decide +kernel
theorem d_CT_takePoint_29 : decode b_CT_takePoint 29 = .ok (.iconst (-1), 1) := by decide +kernel
theorem d_CT_takePoint_30 : decode b_CT_takePoint 30 = .ok (.if_icmp .ne 11, 3) := by decide +kernel
theorem d_CT_takePoint_33 : decode b_CT_takePoint 33 = .ok (.aload_n 0, 1) := by decide +kernel
theorem d_CT_takePoint_34 : decode b_CT_takePoint 34 = .ok (.iload_n 1, 1) := by decide +kernel
theorem d_CT_takePoint_35 : decode b_CT_takePoint 35 = .ok (.putfield 50, 3) := by decide +kernel
theorem d_CT_takePoint_38 : decode b_CT_takePoint 38 = .ok (.goto 13, 3) := by decide +kernel
theorem d_CT_takePoint_41 : decode b_CT_takePoint 41 = .ok (.aload_n 0, 1) := by decide +kernel
theorem d_CT_takePoint_42 : decode b_CT_takePoint 42 = .ok (.getfield 13, 3) := by decide +kernel
theorem d_CT_takePoint_45 : decode b_CT_takePoint 45 = .ok (.aload_n 0, 1) := by decide +kernel
theorem d_CT_takePoint_46 : decode b_CT_takePoint 46 = .ok (.getfield 53, 3) := by decide +kernel
theorem d_CT_takePoint_49 : decode b_CT_takePoint 49 = .ok (.iload_n 1, 1) := by decide +kernel
theorem d_CT_takePoint_50 : decode b_CT_takePoint 50 = .ok (.iastore, 1) := by decide +kernel
theorem d_CT_takePoint_51 : decode b_CT_takePoint 51 = .ok (.aload_n 0, 1) := by decide +kernel
theorem d_CT_takePoint_52 : decode b_CT_takePoint 52 = .ok (.iload_n 1, 1) := by decide +kernel
theorem d_CT_takePoint_53 : decode b_CT_takePoint 53 = .ok (.putfield 53, 3) := by decide +kernel
theorem d_CT_takePoint_56 : decode b_CT_takePoint 56 = .ok (.aload_n 0, 1) := by decide +kernel
theorem d_CT_takePoint_57 : decode b_CT_takePoint 57 = .ok (.dup, 1) := by decide +kernel
theorem d_CT_takePoint_58 : decode b_CT_takePoint 58 = .ok (.getfield 32, 3) := by decide +kernel
theorem d_CT_takePoint_61 : decode b_CT_takePoint 61 = .ok (.iconst 1, 1) := by decide +kernel
theorem d_CT_takePoint_62 : decode b_CT_takePoint 62 = .ok (.iload_n 1, 1) := by decide +kernel
theorem d_CT_takePoint_63 : decode b_CT_takePoint 63 = .ok (.ishl, 1) := by decide +kernel
theorem d_CT_takePoint_64 : decode b_CT_takePoint 64 = .ok (.ior, 1) := by decide +kernel
theorem d_CT_takePoint_65 : decode b_CT_takePoint 65 = .ok (.putfield 32, 3) := by decide +kernel
theorem d_CT_takePoint_68 : decode b_CT_takePoint 68 = .ok (.iconst 1, 1) := by decide +kernel
theorem d_CT_takePoint_69 : decode b_CT_takePoint 69 = .ok (.ireturn, 1) := by decide +kernel
