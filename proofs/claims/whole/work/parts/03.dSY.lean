theorem d_SY_init_0 : decode b_SY_init 0 = .ok (.aload_n 0, 1) := by decide +kernel
theorem d_SY_init_1 : decode b_SY_init 1 = .ok (.invokespecial 1, 3) := by decide +kernel
theorem d_SY_init_4 : decode b_SY_init 4 = .ok (.aload_n 0, 1) := by decide +kernel
theorem d_SY_init_5 : decode b_SY_init 5 = .ok (.iload_n 1, 1) := by decide +kernel
theorem d_SY_init_6 : decode b_SY_init 6 = .ok (.putfield 7, 3) := by decide +kernel
theorem d_SY_init_9 : decode b_SY_init 9 = .ok (.aload_n 0, 1) := by decide +kernel
theorem d_SY_init_10 : decode b_SY_init 10 = .ok (.iload_n 1, 1) := by decide +kernel
theorem d_SY_init_11 : decode b_SY_init 11 = .ok (.invokestatic 13, 3) := by decide +kernel
theorem d_SY_init_14 : decode b_SY_init 14 = .ok (.putfield 17, 3) := by decide +kernel
theorem d_SY_init_17 : decode b_SY_init 17 = .ok (.aload_n 0, 1) := by decide +kernel
theorem d_SY_init_18 : decode b_SY_init 18 = .ok (.aload_n 0, 1) := by decide +kernel
theorem d_SY_init_19 : decode b_SY_init 19 = .ok (.getfield 17, 3) := by decide +kernel
theorem d_SY_init_22 : decode b_SY_init 22 = .ok (.iload_n 1, 1) := by decide +kernel
theorem d_SY_init_23 : decode b_SY_init 23 = .ok (.imul, 1) := by decide +kernel
theorem d_SY_init_24 : decode b_SY_init 24 = .ok (.newarray .byte, 2) := by decide +kernel
theorem d_SY_init_26 : decode b_SY_init 26 = .ok (.putfield 20, 3) := by decide +kernel
theorem d_SY_init_29 : decode b_SY_init 29 = .ok (.aload_n 0, 1) := by decide +kernel
theorem d_SY_init_30 : decode b_SY_init 30 = .ok (.iload_n 1, 1) := by decide +kernel
theorem d_SY_init_31 : decode b_SY_init 31 = .ok (.newarray .int, 2) := by decide +kernel
theorem d_SY_init_33 : decode b_SY_init 33 = .ok (.putfield 24, 3) := by decide +kernel
theorem d_SY_init_36 : decode b_SY_init 36 = .ok (.iconst 0, 1) := by decide +kernel
theorem d_SY_init_37 : decode b_SY_init 37 = .ok (.istore_n 2, 1) := by decide +kernel
theorem d_SY_init_38 : decode b_SY_init 38 = .ok (.iload_n 2, 1) := by decide +kernel
theorem d_SY_init_39 : decode b_SY_init 39 = .ok (.aload_n 0, 1) := by decide +kernel
theorem d_SY_init_40 : decode b_SY_init 40 = .ok (.getfield 17, 3) := by decide +kernel
theorem d_SY_init_43 : decode b_SY_init 43 = .ok (.if_icmp .ge 14, 3) := by decide +kernel
theorem d_SY_init_46 : decode b_SY_init 46 = .ok (.aload_n 0, 1) := by decide +kernel
theorem d_SY_init_47 : decode b_SY_init 47 = .ok (.iload_n 2, 1) := by decide +kernel
theorem d_SY_init_48 : decode b_SY_init 48 = .ok (.invokevirtual 28, 3) := by decide +kernel
theorem d_SY_init_51 : decode b_SY_init 51 = .ok (.iinc 2 1, 3) := by decide +kernel
theorem d_SY_init_54 : decode b_SY_init 54 = .ok (.goto (-16), 3) := by decide +kernel
theorem d_SY_init_57 : decode b_SY_init 57 = .ok (.return_, 1) := by decide +kernel
theorem d_SY_commutator_0 : decode b_SY_commutator 0 = .ok (.aload_n 0, 1) := by decide +kernel
theorem d_SY_commutator_1 : decode b_SY_commutator 1 = .ok (.aload_n 0, 1) := by decide +kernel
theorem d_SY_commutator_2 : decode b_SY_commutator 2 = .ok (.aload_n 0, 1) := by decide +kernel
theorem d_SY_commutator_3 : decode b_SY_commutator 3 = .ok (.iload_n 1, 1) := by decide +kernel
theorem d_SY_commutator_4 : decode b_SY_commutator 4 = .ok (.invokevirtual 48, 3) := by decide +kernel
theorem d_SY_commutator_7 : decode b_SY_commutator 7 = .ok (.aload_n 0, 1) := by decide +kernel
theorem d_SY_commutator_8 : decode b_SY_commutator 8 = .ok (.iload_n 2, 1) := by decide +kernel
theorem d_SY_commutator_9 : decode b_SY_commutator 9 = .ok (.invokevirtual 48, 3) := by decide +kernel
theorem d_SY_commutator_12 : decode b_SY_commutator 12 = .ok (.invokevirtual 51, 3) := by decide +kernel
theorem d_SY_commutator_15 : decode b_SY_commutator 15 = .ok (.aload_n 0, 1) := by decide +kernel
theorem d_SY_commutator_16 : decode b_SY_commutator 16 = .ok (.iload_n 1, 1) := by decide +kernel
theorem d_SY_commutator_17 : decode b_SY_commutator 17 = .ok (.iload_n 2, 1) := by decide +kernel
theorem d_SY_commutator_18 : decode b_SY_commutator 18 = .ok (.invokevirtual 51, 3) := by decide +kernel
theorem d_SY_commutator_21 : decode b_SY_commutator 21 = .ok (.invokevirtual 51, 3) := by decide +kernel
theorem d_SY_commutator_24 : decode b_SY_commutator 24 = .ok (.ireturn, 1) := by decide +kernel
theorem d_SY_conjugate_0 : decode b_SY_conjugate 0 = .ok (.aload_n 0, 1) := by decide +kernel
theorem d_SY_conjugate_1 : decode b_SY_conjugate 1 = .ok (.aload_n 0, 1) := by decide +kernel
theorem d_SY_conjugate_2 : decode b_SY_conjugate 2 = .ok (.aload_n 0, 1) := by decide +kernel
theorem d_SY_conjugate_3 : decode b_SY_conjugate 3 = .ok (.iload_n 2, 1) := by decide +kernel
theorem d_SY_conjugate_4 : decode b_SY_conjugate 4 = .ok (.invokevirtual 48, 3) := by decide +kernel
theorem d_SY_conjugate_7 : decode b_SY_conjugate 7 = .ok (.iload_n 1, 1) := by decide +kernel
theorem d_SY_conjugate_8 : decode b_SY_conjugate 8 = .ok (.invokevirtual 51, 3) := by decide +kernel
theorem d_SY_conjugate_11 : decode b_SY_conjugate 11 = .ok (.iload_n 2, 1) := by decide +kernel
theorem d_SY_conjugate_12 : decode b_SY_conjugate 12 = .ok (.invokevirtual 51, 3) := by decide +kernel
theorem d_SY_conjugate_15 : decode b_SY_conjugate 15 = .ok (.ireturn, 1) := by decide +kernel
theorem d_SY_digits_0 : decode b_SY_digits 0 = .ok (.iconst 0, 1) := by decide +kernel
theorem d_SY_digits_1 : decode b_SY_digits 1 = .ok (.istore_n 2, 1) := by decide +kernel
theorem d_SY_digits_2 : decode b_SY_digits 2 = .ok (.iconst 0, 1) := by decide +kernel
theorem d_SY_digits_3 : decode b_SY_digits 3 = .ok (.istore_n 3, 1) := by decide +kernel
theorem d_SY_digits_4 : decode b_SY_digits 4 = .ok (.iload_n 3, 1) := by decide +kernel
theorem d_SY_digits_5 : decode b_SY_digits 5 = .ok (.aload_n 0, 1) := by decide +kernel
theorem d_SY_digits_6 : decode b_SY_digits 6 = .ok (.getfield 7, 3) := by decide +kernel
theorem d_SY_digits_9 : decode b_SY_digits 9 = .ok (.if_icmp .ge 21, 3) := by decide +kernel
theorem d_SY_digits_12 : decode b_SY_digits 12 = .ok (.iload_n 2, 1) := by decide +kernel
theorem d_SY_digits_13 : decode b_SY_digits 13 = .ok (.bipush 10, 2) := by decide +kernel
theorem d_SY_digits_15 : decode b_SY_digits 15 = .ok (.imul, 1) := by decide +kernel
theorem d_SY_digits_16 : decode b_SY_digits 16 = .ok (.aload_n 0, 1) := by decide +kernel
theorem d_SY_digits_17 : decode b_SY_digits 17 = .ok (.iload_n 1, 1) := by decide +kernel
theorem d_SY_digits_18 : decode b_SY_digits 18 = .ok (.iload_n 3, 1) := by decide +kernel
theorem d_SY_digits_19 : decode b_SY_digits 19 = .ok (.invokevirtual 45, 3) := by decide +kernel
theorem d_SY_digits_22 : decode b_SY_digits 22 = .ok (.iadd, 1) := by decide +kernel
theorem d_SY_digits_23 : decode b_SY_digits 23 = .ok (.istore_n 2, 1) := by decide +kernel
theorem d_SY_digits_24 : decode b_SY_digits 24 = .ok (.iinc 3 1, 3) := by decide +kernel
theorem d_SY_digits_27 : decode b_SY_digits 27 = .ok (.goto (-23), 3) := by decide +kernel
theorem d_SY_digits_30 : decode b_SY_digits 30 = .ok (.iload_n 2, 1) := by decide +kernel
theorem d_SY_digits_31 : decode b_SY_digits 31 = .ok (.ireturn, 1) := by decide +kernel
theorem d_SY_factorial_0 : decode b_SY_factorial 0 = .ok (.iconst 1, 1) := by decide +kernel
theorem d_SY_factorial_1 : decode b_SY_factorial 1 = .ok (.istore_n 1, 1) := by decide +kernel
theorem d_SY_factorial_2 : decode b_SY_factorial 2 = .ok (.iconst 2, 1) := by decide +kernel
theorem d_SY_factorial_3 : decode b_SY_factorial 3 = .ok (.istore_n 2, 1) := by decide +kernel
theorem d_SY_factorial_4 : decode b_SY_factorial 4 = .ok (.iload_n 2, 1) := by decide +kernel
theorem d_SY_factorial_5 : decode b_SY_factorial 5 = .ok (.iload_n 0, 1) := by decide +kernel
theorem d_SY_factorial_6 : decode b_SY_factorial 6 = .ok (.if_icmp .gt 13, 3) := by decide +kernel
theorem d_SY_factorial_9 : decode b_SY_factorial 9 = .ok (.iload_n 1, 1) := by decide +kernel
theorem d_SY_factorial_10 : decode b_SY_factorial 10 = .ok (.iload_n 2, 1) := by decide +kernel
theorem d_SY_factorial_11 : decode b_SY_factorial 11 = .ok (.imul, 1) := by decide +kernel
theorem d_SY_factorial_12 : decode b_SY_factorial 12 = .ok (.istore_n 1, 1) := by decide +kernel
theorem d_SY_factorial_13 : decode b_SY_factorial 13 = .ok (.iinc 2 1, 3) := by decide +kernel
theorem d_SY_factorial_16 : decode b_SY_factorial 16 = .ok (.goto (-12), 3) := by decide +kernel
theorem d_SY_factorial_19 : decode b_SY_factorial 19 = .ok (.iload_n 1, 1) := by decide +kernel
theorem d_SY_factorial_20 : decode b_SY_factorial 20 = .ok (.ireturn, 1) := by decide +kernel
theorem d_SY_holds_0 : decode b_SY_holds 0 = .ok (.iconst 0, 1) := by decide +kernel
theorem d_SY_holds_1 : decode b_SY_holds 1 = .ok (.istore_n 3, 1) := by decide +kernel
theorem d_SY_holds_2 : decode b_SY_holds 2 = .ok (.iload_n 3, 1) := by decide +kernel
theorem d_SY_holds_3 : decode b_SY_holds 3 = .ok (.aload_n 0, 1) := by decide +kernel
theorem d_SY_holds_4 : decode b_SY_holds 4 = .ok (.getfield 7, 3) := by decide +kernel
theorem d_SY_holds_7 : decode b_SY_holds 7 = .ok (.if_icmp .ge 29, 3) := by decide +kernel
theorem d_SY_holds_10 : decode b_SY_holds 10 = .ok (.iload_n 2, 1) := by decide +kernel
theorem d_SY_holds_11 : decode b_SY_holds 11 = .ok (.iload_n 3, 1) := by decide +kernel
theorem d_SY_holds_12 : decode b_SY_holds 12 = .ok (.ishr, 1) := by decide +kernel
theorem d_SY_holds_13 : decode b_SY_holds 13 = .ok (.iconst 1, 1) := by decide +kernel
theorem d_SY_holds_14 : decode b_SY_holds 14 = .ok (.iand, 1) := by decide +kernel
theorem d_SY_holds_15 : decode b_SY_holds 15 = .ok (.ifCond .eq 15, 3) := by decide +kernel
theorem d_SY_holds_18 : decode b_SY_holds 18 = .ok (.aload_n 0, 1) := by decide +kernel
theorem d_SY_holds_19 : decode b_SY_holds 19 = .ok (.iload_n 1, 1) := by decide +kernel
theorem d_SY_holds_20 : decode b_SY_holds 20 = .ok (.iload_n 3, 1) := by decide +kernel
theorem d_SY_holds_21 : decode b_SY_holds 21 = .ok (.invokevirtual 45, 3) := by decide +kernel
theorem d_SY_holds_24 : decode b_SY_holds 24 = .ok (.iload_n 3, 1) := by decide +kernel
theorem d_SY_holds_25 : decode b_SY_holds 25 = .ok (.if_icmp .eq 5, 3) := by decide +kernel
theorem d_SY_holds_28 : decode b_SY_holds 28 = .ok (.iconst 0, 1) := by decide +kernel
theorem d_SY_holds_29 : decode b_SY_holds 29 = .ok (.ireturn, 1) := by decide +kernel
theorem d_SY_holds_30 : decode b_SY_holds 30 = .ok (.iinc 3 1, 3) := by decide +kernel
theorem d_SY_holds_33 : decode b_SY_holds 33 = .ok (.goto (-31), 3) := by decide +kernel
theorem d_SY_holds_36 : decode b_SY_holds 36 = .ok (.iconst 1, 1) := by decide +kernel
theorem d_SY_holds_37 : decode b_SY_holds 37 = .ok (.ireturn, 1) := by decide +kernel
theorem d_SY_image_0 : decode b_SY_image 0 = .ok (.aload_n 0, 1) := by decide +kernel
theorem d_SY_image_1 : decode b_SY_image 1 = .ok (.getfield 20, 3) := by decide +kernel
theorem d_SY_image_4 : decode b_SY_image 4 = .ok (.iload_n 1, 1) := by decide +kernel
theorem d_SY_image_5 : decode b_SY_image 5 = .ok (.aload_n 0, 1) := by decide +kernel
theorem d_SY_image_6 : decode b_SY_image 6 = .ok (.getfield 7, 3) := by decide +kernel
theorem d_SY_image_9 : decode b_SY_image 9 = .ok (.imul, 1) := by decide +kernel
theorem d_SY_image_10 : decode b_SY_image 10 = .ok (.iload_n 2, 1) := by decide +kernel
theorem d_SY_image_11 : decode b_SY_image 11 = .ok (.iadd, 1) := by decide +kernel
theorem d_SY_image_12 : decode b_SY_image 12 = .ok (.baload, 1) := by decide +kernel
theorem d_SY_image_13 : decode b_SY_image 13 = .ok (.ireturn, 1) := by decide +kernel
theorem d_SY_invert_0 : decode b_SY_invert 0 = .ok (.iconst 0, 1) := by decide +kernel
theorem d_SY_invert_1 : decode b_SY_invert 1 = .ok (.istore_n 2, 1) := by decide +kernel
theorem d_SY_invert_2 : decode b_SY_invert 2 = .ok (.iload_n 2, 1) := by decide +kernel
theorem d_SY_invert_3 : decode b_SY_invert 3 = .ok (.aload_n 0, 1) := by decide +kernel
theorem d_SY_invert_4 : decode b_SY_invert 4 = .ok (.getfield 7, 3) := by decide +kernel
theorem d_SY_invert_7 : decode b_SY_invert 7 = .ok (.if_icmp .ge 21, 3) := by decide +kernel
theorem d_SY_invert_10 : decode b_SY_invert 10 = .ok (.aload_n 0, 1) := by decide +kernel
theorem d_SY_invert_11 : decode b_SY_invert 11 = .ok (.getfield 24, 3) := by decide +kernel
theorem d_SY_invert_14 : decode b_SY_invert 14 = .ok (.aload_n 0, 1) := by decide +kernel
theorem d_SY_invert_15 : decode b_SY_invert 15 = .ok (.iload_n 1, 1) := by decide +kernel
theorem d_SY_invert_16 : decode b_SY_invert 16 = .ok (.iload_n 2, 1) := by decide +kernel
theorem d_SY_invert_17 : decode b_SY_invert 17 = .ok (.invokevirtual 45, 3) := by decide +kernel
theorem d_SY_invert_20 : decode b_SY_invert 20 = .ok (.iload_n 2, 1) := by decide +kernel
theorem d_SY_invert_21 : decode b_SY_invert 21 = .ok (.iastore, 1) := by decide +kernel
theorem d_SY_invert_22 : decode b_SY_invert 22 = .ok (.iinc 2 1, 3) := by decide +kernel
theorem d_SY_invert_25 : decode b_SY_invert 25 = .ok (.goto (-23), 3) := by decide +kernel
theorem d_SY_invert_28 : decode b_SY_invert 28 = .ok (.aload_n 0, 1) := by decide +kernel
theorem d_SY_invert_29 : decode b_SY_invert 29 = .ok (.aload_n 0, 1) := by decide +kernel
theorem d_SY_invert_30 : decode b_SY_invert 30 = .ok (.getfield 24, 3) := by decide +kernel
theorem d_SY_invert_33 : decode b_SY_invert 33 = .ok (.invokevirtual 41, 3) := by decide +kernel
theorem d_SY_invert_36 : decode b_SY_invert 36 = .ok (.ireturn, 1) := by decide +kernel
theorem d_SY_multiply_0 : decode b_SY_multiply 0 = .ok (.iload_n 1, 1) := by decide +kernel
theorem d_SY_multiply_1 : decode b_SY_multiply 1 = .ok (.aload_n 0, 1) := by decide +kernel
theorem d_SY_multiply_2 : decode b_SY_multiply 2 = .ok (.getfield 7, 3) := by decide +kernel
theorem d_SY_multiply_5 : decode b_SY_multiply 5 = .ok (.imul, 1) := by decide +kernel
theorem d_SY_multiply_6 : decode b_SY_multiply 6 = .ok (.istore_n 3, 1) := by decide +kernel
theorem d_SY_multiply_7 : decode b_SY_multiply 7 = .ok (.iload_n 2, 1) := by decide +kernel
theorem d_SY_multiply_8 : decode b_SY_multiply 8 = .ok (.aload_n 0, 1) := by decide +kernel
theorem d_SY_multiply_9 : decode b_SY_multiply 9 = .ok (.getfield 7, 3) := by decide +kernel
theorem d_SY_multiply_12 : decode b_SY_multiply 12 = .ok (.imul, 1) := by decide +kernel
theorem d_SY_multiply_13 : decode b_SY_multiply 13 = .ok (.istore 4, 2) := by decide +kernel
theorem d_SY_multiply_15 : decode b_SY_multiply 15 = .ok (.iconst 0, 1) := by decide +kernel
theorem d_SY_multiply_16 : decode b_SY_multiply 16 = .ok (.istore 5, 2) := by decide +kernel
theorem d_SY_multiply_18 : decode b_SY_multiply 18 = .ok (.iload 5, 2) := by decide +kernel
theorem d_SY_multiply_20 : decode b_SY_multiply 20 = .ok (.aload_n 0, 1) := by decide +kernel
theorem d_SY_multiply_21 : decode b_SY_multiply 21 = .ok (.getfield 7, 3) := by decide +kernel
theorem d_SY_multiply_24 : decode b_SY_multiply 24 = .ok (.if_icmp .ge 33, 3) := by decide +kernel
theorem d_SY_multiply_27 : decode b_SY_multiply 27 = .ok (.aload_n 0, 1) := by decide +kernel
theorem d_SY_multiply_28 : decode b_SY_multiply 28 = .ok (.getfield 24, 3) := by decide +kernel
theorem d_SY_multiply_31 : decode b_SY_multiply 31 = .ok (.iload 5, 2) := by decide +kernel
theorem d_SY_multiply_33 : decode b_SY_multiply 33 = .ok (.aload_n 0, 1) := by decide +kernel
theorem d_SY_multiply_34 : decode b_SY_multiply 34 = .ok (.getfield 20, 3) := by decide +kernel
theorem d_SY_multiply_37 : decode b_SY_multiply 37 = .ok (.iload 4, 2) := by decide +kernel
theorem d_SY_multiply_39 : decode b_SY_multiply 39 = .ok (.aload_n 0, 1) := by decide +kernel
theorem d_SY_multiply_40 : decode b_SY_multiply 40 = .ok (.getfield 20, 3) := by decide +kernel
theorem d_SY_multiply_43 : decode b_SY_multiply 43 = .ok (.iload_n 3, 1) := by decide +kernel
theorem d_SY_multiply_44 : decode b_SY_multiply 44 = .ok (.iload 5, 2) := by decide +kernel
theorem d_SY_multiply_46 : decode b_SY_multiply 46 = .ok (.iadd, 1) := by decide +kernel
theorem d_SY_multiply_47 : decode b_SY_multiply 47 = .ok (.baload, 1) := by decide +kernel
theorem d_SY_multiply_48 : decode b_SY_multiply 48 = .ok (.iadd, 1) := by decide +kernel
theorem d_SY_multiply_49 : decode b_SY_multiply 49 = .ok (.baload, 1) := by decide +kernel
theorem d_SY_multiply_50 : decode b_SY_multiply 50 = .ok (.iastore, 1) := by decide +kernel
theorem d_SY_multiply_51 : decode b_SY_multiply 51 = .ok (.iinc 5 1, 3) := by decide +kernel
theorem d_SY_multiply_54 : decode b_SY_multiply 54 = .ok (.goto (-36), 3) := by decide +kernel
theorem d_SY_multiply_57 : decode b_SY_multiply 57 = .ok (.aload_n 0, 1) := by decide +kernel
theorem d_SY_multiply_58 : decode b_SY_multiply 58 = .ok (.aload_n 0, 1) := by decide +kernel
theorem d_SY_multiply_59 : decode b_SY_multiply 59 = .ok (.getfield 24, 3) := by decide +kernel
theorem d_SY_multiply_62 : decode b_SY_multiply 62 = .ok (.invokevirtual 41, 3) := by decide +kernel
theorem d_SY_multiply_65 : decode b_SY_multiply 65 = .ok (.ireturn, 1) := by decide +kernel
theorem d_SY_rankOf_0 : decode b_SY_rankOf 0 = .ok (.iconst 0, 1) := by decide +kernel
theorem d_SY_rankOf_1 : decode b_SY_rankOf 1 = .ok (.istore_n 2, 1) := by decide +kernel
theorem d_SY_rankOf_2 : decode b_SY_rankOf 2 = .ok (.iconst 0, 1) := by decide +kernel
theorem d_SY_rankOf_3 : decode b_SY_rankOf 3 = .ok (.istore_n 3, 1) := by decide +kernel
theorem d_SY_rankOf_4 : decode b_SY_rankOf 4 = .ok (.iconst 0, 1) := by decide +kernel
theorem d_SY_rankOf_5 : decode b_SY_rankOf 5 = .ok (.istore 4, 2) := by decide +kernel
theorem d_SY_rankOf_7 : decode b_SY_rankOf 7 = .ok (.iload 4, 2) := by decide +kernel
theorem d_SY_rankOf_9 : decode b_SY_rankOf 9 = .ok (.aload_n 0, 1) := by decide +kernel
theorem d_SY_rankOf_10 : decode b_SY_rankOf 10 = .ok (.getfield 7, 3) := by decide +kernel
theorem d_SY_rankOf_13 : decode b_SY_rankOf 13 = .ok (.if_icmp .ge 51, 3) := by decide +kernel
theorem d_SY_rankOf_16 : decode b_SY_rankOf 16 = .ok (.aload_n 1, 1) := by decide +kernel
theorem d_SY_rankOf_17 : decode b_SY_rankOf 17 = .ok (.iload 4, 2) := by decide +kernel
theorem d_SY_rankOf_19 : decode b_SY_rankOf 19 = .ok (.iaload, 1) := by decide +kernel
theorem d_SY_rankOf_20 : decode b_SY_rankOf 20 = .ok (.istore 5, 2) := by decide +kernel
theorem d_SY_rankOf_22 : decode b_SY_rankOf 22 = .ok (.iload_n 3, 1) := by decide +kernel
theorem d_SY_rankOf_23 : decode b_SY_rankOf 23 = .ok (.iconst 1, 1) := by decide +kernel
theorem d_SY_rankOf_24 : decode b_SY_rankOf 24 = .ok (.iload 5, 2) := by decide +kernel
theorem d_SY_rankOf_26 : decode b_SY_rankOf 26 = .ok (.ishl, 1) := by decide +kernel
theorem d_SY_rankOf_27 : decode b_SY_rankOf 27 = .ok (.iconst 1, 1) := by decide +kernel
theorem d_SY_rankOf_28 : decode b_SY_rankOf 28 = .ok (.isub, 1) := by decide +kernel
theorem d_SY_rankOf_29 : decode b_SY_rankOf 29 = .ok (.iand, 1) := by decide +kernel
theorem d_SY_rankOf_30 : decode b_SY_rankOf 30 = .ok (.invokestatic 36, 3) := by decide +kernel
theorem d_SY_rankOf_33 : decode b_SY_rankOf 33 = .ok (.istore 6, 2) := by decide +kernel
theorem d_SY_rankOf_35 : decode b_SY_rankOf 35 = .ok (.iload_n 2, 1) := by decide +kernel
theorem d_SY_rankOf_36 : decode b_SY_rankOf 36 = .ok (.aload_n 0, 1) := by decide +kernel
theorem d_SY_rankOf_37 : decode b_SY_rankOf 37 = .ok (.getfield 7, 3) := by decide +kernel
theorem d_SY_rankOf_40 : decode b_SY_rankOf 40 = .ok (.iload 4, 2) := by decide +kernel
theorem d_SY_rankOf_42 : decode b_SY_rankOf 42 = .ok (.isub, 1) := by decide +kernel
theorem d_SY_rankOf_43 : decode b_SY_rankOf 43 = .ok (.imul, 1) := by decide +kernel
theorem d_SY_rankOf_44 : decode b_SY_rankOf 44 = .ok (.iload 5, 2) := by decide +kernel
theorem d_SY_rankOf_46 : decode b_SY_rankOf 46 = .ok (.iadd, 1) := by decide +kernel
theorem d_SY_rankOf_47 : decode b_SY_rankOf 47 = .ok (.iload 6, 2) := by decide +kernel
theorem d_SY_rankOf_49 : decode b_SY_rankOf 49 = .ok (.isub, 1) := by decide +kernel
theorem d_SY_rankOf_50 : decode b_SY_rankOf 50 = .ok (.istore_n 2, 1) := by decide +kernel
theorem d_SY_rankOf_51 : decode b_SY_rankOf 51 = .ok (.iload_n 3, 1) := by decide +kernel
theorem d_SY_rankOf_52 : decode b_SY_rankOf 52 = .ok (.iconst 1, 1) := by decide +kernel
theorem d_SY_rankOf_53 : decode b_SY_rankOf 53 = .ok (.iload 5, 2) := by decide +kernel
theorem d_SY_rankOf_55 : decode b_SY_rankOf 55 = .ok (.ishl, 1) := by decide +kernel
theorem d_SY_rankOf_56 : decode b_SY_rankOf 56 = .ok (.ior, 1) := by decide +kernel
theorem d_SY_rankOf_57 : decode b_SY_rankOf 57 = .ok (.istore_n 3, 1) := by decide +kernel
theorem d_SY_rankOf_58 : decode b_SY_rankOf 58 = .ok (.iinc 4 1, 3) := by decide +kernel
theorem d_SY_rankOf_61 : decode b_SY_rankOf 61 = .ok (.goto (-54), 3) := by decide +kernel
theorem d_SY_rankOf_64 : decode b_SY_rankOf 64 = .ok (.iload_n 2, 1) := by decide +kernel
theorem d_SY_rankOf_65 : decode b_SY_rankOf 65 = .ok (.ireturn, 1) := by decide +kernel
theorem d_SY_unusedPoint_0 : decode b_SY_unusedPoint 0 = .ok (.iload_n 2, 1) := by decide +kernel
theorem d_SY_unusedPoint_1 : decode b_SY_unusedPoint 1 = .ok (.istore_n 3, 1) := by decide +kernel
theorem d_SY_unusedPoint_2 : decode b_SY_unusedPoint 2 = .ok (.iconst 0, 1) := by decide +kernel
theorem d_SY_unusedPoint_3 : decode b_SY_unusedPoint 3 = .ok (.istore 4, 2) := by decide +kernel
theorem d_SY_unusedPoint_5 : decode b_SY_unusedPoint 5 = .ok (.iload 4, 2) := by decide +kernel
theorem d_SY_unusedPoint_7 : decode b_SY_unusedPoint 7 = .ok (.aload_n 0, 1) := by decide +kernel
theorem d_SY_unusedPoint_8 : decode b_SY_unusedPoint 8 = .ok (.getfield 7, 3) := by decide +kernel
theorem d_SY_unusedPoint_11 : decode b_SY_unusedPoint 11 = .ok (.if_icmp .ge 45, 3) := by decide +kernel
theorem d_SY_unusedPoint_14 : decode b_SY_unusedPoint 14 = .ok (.iload_n 1, 1) := by decide +kernel
theorem d_SY_unusedPoint_15 : decode b_SY_unusedPoint 15 = .ok (.iload 4, 2) := by decide +kernel
theorem d_SY_unusedPoint_17 : decode b_SY_unusedPoint 17 = .ok (.ishr, 1) := by decide +kernel
theorem d_SY_unusedPoint_18 : decode b_SY_unusedPoint 18 = .ok (.iconst 1, 1) := by decide +kernel
theorem d_SY_unusedPoint_19 : decode b_SY_unusedPoint 19 = .ok (.iand, 1) := by decide +kernel
theorem d_SY_unusedPoint_20 : decode b_SY_unusedPoint 20 = .ok (.ifCond .ne 7, 3) := by decide +kernel
theorem d_SY_unusedPoint_23 : decode b_SY_unusedPoint 23 = .ok (.iconst 1, 1) := by decide +kernel
theorem d_SY_unusedPoint_24 : decode b_SY_unusedPoint 24 = .ok (.goto 4, 3) := by decide +kernel
theorem d_SY_unusedPoint_27 : decode b_SY_unusedPoint 27 = .ok (.iconst 0, 1) := by decide +kernel
theorem d_SY_unusedPoint_28 : decode b_SY_unusedPoint 28 = .ok (.istore 5, 2) := by decide +kernel
theorem d_SY_unusedPoint_30 : decode b_SY_unusedPoint 30 = .ok (.iload 5, 2) := by decide +kernel
theorem d_SY_unusedPoint_32 : decode b_SY_unusedPoint 32 = .ok (.ifCond .eq 10, 3) := by decide +kernel
theorem d_SY_unusedPoint_35 : decode b_SY_unusedPoint 35 = .ok (.iload_n 3, 1) := by decide +kernel
theorem d_SY_unusedPoint_36 : decode b_SY_unusedPoint 36 = .ok (.ifCond .ne 6, 3) := by decide +kernel
theorem d_SY_unusedPoint_39 : decode b_SY_unusedPoint 39 = .ok (.iload 4, 2) := by decide +kernel
theorem d_SY_unusedPoint_41 : decode b_SY_unusedPoint 41 = .ok (.ireturn, 1) := by decide +kernel
theorem d_SY_unusedPoint_42 : decode b_SY_unusedPoint 42 = .ok (.iload 5, 2) := by decide +kernel
theorem d_SY_unusedPoint_44 : decode b_SY_unusedPoint 44 = .ok (.ifCond .eq 6, 3) := by decide +kernel
theorem d_SY_unusedPoint_47 : decode b_SY_unusedPoint 47 = .ok (.iinc 3 (-1), 3) := by decide +kernel
theorem d_SY_unusedPoint_50 : decode b_SY_unusedPoint 50 = .ok (.iinc 4 1, 3) := by decide +kernel
theorem d_SY_unusedPoint_53 : decode b_SY_unusedPoint 53 = .ok (.goto (-48), 3) := by decide +kernel
theorem d_SY_unusedPoint_56 : decode b_SY_unusedPoint 56 = .ok (.iconst 0, 1) := by decide +kernel
theorem d_SY_unusedPoint_57 : decode b_SY_unusedPoint 57 = .ok (.ireturn, 1) := by decide +kernel
theorem d_SY_writeImages_0 : decode b_SY_writeImages 0 = .ok (.iload_n 1, 1) := by decide +kernel
theorem d_SY_writeImages_1 : decode b_SY_writeImages 1 = .ok (.istore_n 2, 1) := by decide +kernel
theorem d_SY_writeImages_2 : decode b_SY_writeImages 2 = .ok (.aload_n 0, 1) := by decide +kernel
theorem d_SY_writeImages_3 : decode b_SY_writeImages 3 = .ok (.getfield 7, 3) := by decide +kernel
theorem d_SY_writeImages_6 : decode b_SY_writeImages 6 = .ok (.iconst 1, 1) := by decide +kernel
theorem d_SY_writeImages_7 : decode b_SY_writeImages 7 = .ok (.isub, 1) := by decide +kernel
theorem d_SY_writeImages_8 : decode b_SY_writeImages 8 = .ok (.istore_n 3, 1) := by decide +kernel
theorem d_SY_writeImages_9 : decode b_SY_writeImages 9 = .ok (.iload_n 3, 1) := by decide +kernel
theorem d_SY_writeImages_10 : decode b_SY_writeImages 10 = .ok (.ifCond .lt 32, 3) := by decide +kernel
theorem d_SY_writeImages_13 : decode b_SY_writeImages 13 = .ok (.aload_n 0, 1) := by decide +kernel
theorem d_SY_writeImages_14 : decode b_SY_writeImages 14 = .ok (.getfield 24, 3) := by decide +kernel
theorem d_SY_writeImages_17 : decode b_SY_writeImages 17 = .ok (.iload_n 3, 1) := by decide +kernel
theorem d_SY_writeImages_18 : decode b_SY_writeImages 18 = .ok (.iload_n 2, 1) := by decide +kernel
theorem d_SY_writeImages_19 : decode b_SY_writeImages 19 = .ok (.aload_n 0, 1) := by decide +kernel
theorem d_SY_writeImages_20 : decode b_SY_writeImages 20 = .ok (.getfield 7, 3) := by decide +kernel
theorem d_SY_writeImages_23 : decode b_SY_writeImages 23 = .ok (.iload_n 3, 1) := by decide +kernel
theorem d_SY_writeImages_24 : decode b_SY_writeImages 24 = .ok (.isub, 1) := by decide +kernel
theorem d_SY_writeImages_25 : decode b_SY_writeImages 25 = .ok (.irem, 1) := by decide +kernel
theorem d_SY_writeImages_26 : decode b_SY_writeImages 26 = .ok (.iastore, 1) := by decide +kernel
theorem d_SY_writeImages_27 : decode b_SY_writeImages 27 = .ok (.iload_n 2, 1) := by decide +kernel
theorem d_SY_writeImages_28 : decode b_SY_writeImages 28 = .ok (.aload_n 0, 1) := by decide +kernel
theorem d_SY_writeImages_29 : decode b_SY_writeImages 29 = .ok (.getfield 7, 3) := by decide +kernel
theorem d_SY_writeImages_32 : decode b_SY_writeImages 32 = .ok (.iload_n 3, 1) := by decide +kernel
theorem d_SY_writeImages_33 : decode b_SY_writeImages 33 = .ok (.isub, 1) := by decide +kernel
theorem d_SY_writeImages_34 : decode b_SY_writeImages 34 = .ok (.idiv, 1) := by decide +kernel
theorem d_SY_writeImages_35 : decode b_SY_writeImages 35 = .ok (.istore_n 2, 1) := by decide +kernel
theorem d_SY_writeImages_36 : decode b_SY_writeImages 36 = .ok (.iinc 3 (-1), 3) := by decide +kernel
theorem d_SY_writeImages_39 : decode b_SY_writeImages 39 = .ok (.goto (-30), 3) := by decide +kernel
theorem d_SY_writeImages_42 : decode b_SY_writeImages 42 = .ok (.iconst 0, 1) := by decide +kernel
theorem d_SY_writeImages_43 : decode b_SY_writeImages 43 = .ok (.istore_n 3, 1) := by decide +kernel
theorem d_SY_writeImages_44 : decode b_SY_writeImages 44 = .ok (.iconst 0, 1) := by decide +kernel
theorem d_SY_writeImages_45 : decode b_SY_writeImages 45 = .ok (.istore 4, 2) := by decide +kernel
theorem d_SY_writeImages_47 : decode b_SY_writeImages 47 = .ok (.iload 4, 2) := by decide +kernel
theorem d_SY_writeImages_49 : decode b_SY_writeImages 49 = .ok (.aload_n 0, 1) := by decide +kernel
theorem d_SY_writeImages_50 : decode b_SY_writeImages 50 = .ok (.getfield 7, 3) := by decide +kernel
theorem d_SY_writeImages_53 : decode b_SY_writeImages 53 = .ok (.if_icmp .ge 47, 3) := by decide +kernel
theorem d_SY_writeImages_56 : decode b_SY_writeImages 56 = .ok (.aload_n 0, 1) := by decide +kernel
theorem d_SY_writeImages_57 : decode b_SY_writeImages 57 = .ok (.iload_n 3, 1) := by decide +kernel
theorem d_SY_writeImages_58 : decode b_SY_writeImages 58 = .ok (.aload_n 0, 1) := by decide +kernel
theorem d_SY_writeImages_59 : decode b_SY_writeImages 59 = .ok (.getfield 24, 3) := by decide +kernel
theorem d_SY_writeImages_62 : decode b_SY_writeImages 62 = .ok (.iload 4, 2) := by decide +kernel
theorem d_SY_writeImages_64 : decode b_SY_writeImages 64 = .ok (.iaload, 1) := by decide +kernel
theorem d_SY_writeImages_65 : decode b_SY_writeImages 65 = .ok (.invokevirtual 32, 3) := by decide +kernel
theorem d_SY_writeImages_68 : decode b_SY_writeImages 68 = .ok (.istore 5, 2) := by decide +kernel
theorem d_SY_writeImages_70 : decode b_SY_writeImages 70 = .ok (.aload_n 0, 1) := by decide +kernel
theorem d_SY_writeImages_71 : decode b_SY_writeImages 71 = .ok (.getfield 20, 3) := by decide +kernel
theorem d_SY_writeImages_74 : decode b_SY_writeImages 74 = .ok (.iload_n 1, 1) := by decide +kernel
theorem d_SY_writeImages_75 : decode b_SY_writeImages 75 = .ok (.aload_n 0, 1) := by decide +kernel
theorem d_SY_writeImages_76 : decode b_SY_writeImages 76 = .ok (.getfield 7, 3) := by decide +kernel
theorem d_SY_writeImages_79 : decode b_SY_writeImages 79 = .ok (.imul, 1) := by decide +kernel
theorem d_SY_writeImages_80 : decode b_SY_writeImages 80 = .ok (.iload 4, 2) := by decide +kernel
theorem d_SY_writeImages_82 : decode b_SY_writeImages 82 = .ok (.iadd, 1) := by decide +kernel
theorem d_SY_writeImages_83 : decode b_SY_writeImages 83 = .ok (.iload 5, 2) := by decide +kernel
theorem d_SY_writeImages_85 : decode b_SY_writeImages 85 = .ok (.i2b, 1) := by decide +kernel
theorem d_SY_writeImages_86 : decode b_SY_writeImages 86 = .ok (.bastore, 1) := by decide +kernel
theorem d_SY_writeImages_87 : decode b_SY_writeImages 87 = .ok (.iload_n 3, 1) := by decide +kernel
theorem d_SY_writeImages_88 : decode b_SY_writeImages 88 = .ok (.iconst 1, 1) := by decide +kernel
theorem d_SY_writeImages_89 : decode b_SY_writeImages 89 = .ok (.iload 5, 2) := by decide +kernel
theorem d_SY_writeImages_91 : decode b_SY_writeImages 91 = .ok (.ishl, 1) := by decide +kernel
theorem d_SY_writeImages_92 : decode b_SY_writeImages 92 = .ok (.ior, 1) := by decide +kernel
theorem d_SY_writeImages_93 : decode b_SY_writeImages 93 = .ok (.istore_n 3, 1) := by decide +kernel
theorem d_SY_writeImages_94 : decode b_SY_writeImages 94 = .ok (.iinc 4 1, 3) := by decide +kernel
theorem d_SY_writeImages_97 : decode b_SY_writeImages 97 = .ok (.goto (-50), 3) := by decide +kernel
theorem d_SY_writeImages_100 : decode b_SY_writeImages 100 = .ok (.return_, 1) := by decide +kernel
theorem d_JI_bitCount_0 : decode b_JI_bitCount 0 = .ok (.iload_n 0, 1) := by decide +kernel
theorem d_JI_bitCount_1 : decode b_JI_bitCount 1 = .ok (.iload_n 0, 1) := by decide +kernel
theorem d_JI_bitCount_2 : decode b_JI_bitCount 2 = .ok (.iconst 1, 1) := by decide +kernel
theorem d_JI_bitCount_3 : decode b_JI_bitCount 3 = .ok (.iushr, 1) := by decide +kernel
theorem d_JI_bitCount_4 : decode b_JI_bitCount 4 = .ok (.ldc_w 265, 3) := by decide +kernel
theorem d_JI_bitCount_7 : decode b_JI_bitCount 7 = .ok (.iand, 1) := by decide +kernel
theorem d_JI_bitCount_8 : decode b_JI_bitCount 8 = .ok (.isub, 1) := by decide +kernel
theorem d_JI_bitCount_9 : decode b_JI_bitCount 9 = .ok (.istore_n 0, 1) := by decide +kernel
theorem d_JI_bitCount_10 : decode b_JI_bitCount 10 = .ok (.iload_n 0, 1) := by decide +kernel
theorem d_JI_bitCount_11 : decode b_JI_bitCount 11 = .ok (.ldc_w 266, 3) := by decide +kernel
theorem d_JI_bitCount_14 : decode b_JI_bitCount 14 = .ok (.iand, 1) := by decide +kernel
theorem d_JI_bitCount_15 : decode b_JI_bitCount 15 = .ok (.iload_n 0, 1) := by decide +kernel
theorem d_JI_bitCount_16 : decode b_JI_bitCount 16 = .ok (.iconst 2, 1) := by decide +kernel
theorem d_JI_bitCount_17 : decode b_JI_bitCount 17 = .ok (.iushr, 1) := by decide +kernel
theorem d_JI_bitCount_18 : decode b_JI_bitCount 18 = .ok (.ldc_w 266, 3) := by decide +kernel
theorem d_JI_bitCount_21 : decode b_JI_bitCount 21 = .ok (.iand, 1) := by decide +kernel
theorem d_JI_bitCount_22 : decode b_JI_bitCount 22 = .ok (.iadd, 1) := by decide +kernel
theorem d_JI_bitCount_23 : decode b_JI_bitCount 23 = .ok (.istore_n 0, 1) := by decide +kernel
theorem d_JI_bitCount_24 : decode b_JI_bitCount 24 = .ok (.iload_n 0, 1) := by decide +kernel
theorem d_JI_bitCount_25 : decode b_JI_bitCount 25 = .ok (.iload_n 0, 1) := by decide +kernel
theorem d_JI_bitCount_26 : decode b_JI_bitCount 26 = .ok (.iconst 4, 1) := by decide +kernel
theorem d_JI_bitCount_27 : decode b_JI_bitCount 27 = .ok (.iushr, 1) := by decide +kernel
theorem d_JI_bitCount_28 : decode b_JI_bitCount 28 = .ok (.iadd, 1) := by decide +kernel
theorem d_JI_bitCount_29 : decode b_JI_bitCount 29 = .ok (.ldc_w 267, 3) := by decide +kernel
theorem d_JI_bitCount_32 : decode b_JI_bitCount 32 = .ok (.iand, 1) := by decide +kernel
theorem d_JI_bitCount_33 : decode b_JI_bitCount 33 = .ok (.istore_n 0, 1) := by decide +kernel
theorem d_JI_bitCount_34 : decode b_JI_bitCount 34 = .ok (.iload_n 0, 1) := by decide +kernel
theorem d_JI_bitCount_35 : decode b_JI_bitCount 35 = .ok (.iload_n 0, 1) := by decide +kernel
theorem d_JI_bitCount_36 : decode b_JI_bitCount 36 = .ok (.bipush 8, 2) := by decide +kernel
theorem d_JI_bitCount_38 : decode b_JI_bitCount 38 = .ok (.iushr, 1) := by decide +kernel
theorem d_JI_bitCount_39 : decode b_JI_bitCount 39 = .ok (.iadd, 1) := by decide +kernel
theorem d_JI_bitCount_40 : decode b_JI_bitCount 40 = .ok (.istore_n 0, 1) := by decide +kernel
theorem d_JI_bitCount_41 : decode b_JI_bitCount 41 = .ok (.iload_n 0, 1) := by decide +kernel
theorem d_JI_bitCount_42 : decode b_JI_bitCount 42 = .ok (.iload_n 0, 1) := by decide +kernel
theorem d_JI_bitCount_43 : decode b_JI_bitCount 43 = .ok (.bipush 16, 2) := by decide +kernel
theorem d_JI_bitCount_45 : decode b_JI_bitCount 45 = .ok (.iushr, 1) := by decide +kernel
theorem d_JI_bitCount_46 : decode b_JI_bitCount 46 = .ok (.iadd, 1) := by decide +kernel
theorem d_JI_bitCount_47 : decode b_JI_bitCount 47 = .ok (.istore_n 0, 1) := by decide +kernel
theorem d_JI_bitCount_48 : decode b_JI_bitCount 48 = .ok (.iload_n 0, 1) := by decide +kernel
theorem d_JI_bitCount_49 : decode b_JI_bitCount 49 = .ok (.bipush 63, 2) := by decide +kernel
theorem d_JI_bitCount_51 : decode b_JI_bitCount 51 = .ok (.iand, 1) := by decide +kernel
theorem d_JI_bitCount_52 : decode b_JI_bitCount 52 = .ok (.ireturn, 1) := by decide +kernel
