theorem dX0_init_0 : decode cX0_init 0 = .ok (.aload_n 0, 1) := by decide +kernel
theorem dX0_init_1 : decode cX0_init 1 = .ok (.invokespecial 3, 3) := by decide +kernel
theorem dX0_init_4 : decode cX0_init 4 = .ok (.aload_n 0, 1) := by decide +kernel
theorem dX0_init_5 : decode cX0_init 5 = .ok (.new 9, 3) := by decide +kernel
theorem dX0_init_8 : decode cX0_init 8 = .ok (.dup, 1) := by decide +kernel
theorem dX0_init_9 : decode cX0_init 9 = .ok (.invokespecial 11, 3) := by decide +kernel
theorem dX0_init_12 : decode cX0_init 12 = .ok (.putfield 12, 3) := by decide +kernel
theorem dX0_init_15 : decode cX0_init 15 = .ok (.aload_n 0, 1) := by decide +kernel
theorem dX0_init_16 : decode cX0_init 16 = .ok (.new 18, 3) := by decide +kernel
theorem dX0_init_19 : decode cX0_init 19 = .ok (.dup, 1) := by decide +kernel
theorem dX0_init_20 : decode cX0_init 20 = .ok (.invokespecial 20, 3) := by decide +kernel
theorem dX0_init_23 : decode cX0_init 23 = .ok (.putfield 21, 3) := by decide +kernel
theorem dX0_init_26 : decode cX0_init 26 = .ok (.aload_n 0, 1) := by decide +kernel
theorem dX0_init_27 : decode cX0_init 27 = .ok (.new 18, 3) := by decide +kernel
theorem dX0_init_30 : decode cX0_init 30 = .ok (.dup, 1) := by decide +kernel
theorem dX0_init_31 : decode cX0_init 31 = .ok (.invokespecial 20, 3) := by decide +kernel
theorem dX0_init_34 : decode cX0_init 34 = .ok (.putfield 25, 3) := by decide +kernel
theorem dX0_init_37 : decode cX0_init 37 = .ok (.return_, 1) := by decide +kernel
theorem dX0_join_0 : decode cX0_join 0 = .ok (.aload_n 0, 1) := by decide +kernel
theorem dX0_join_1 : decode cX0_join 1 = .ok (.getfield 12, 3) := by decide +kernel
theorem dX0_join_4 : decode cX0_join 4 = .ok (.aload_n 1, 1) := by decide +kernel
theorem dX0_join_5 : decode cX0_join 5 = .ok (.lconst 1, 1) := by decide +kernel
theorem dX0_join_6 : decode cX0_join 6 = .ok (.invokevirtual 28, 3) := by decide +kernel
theorem dX0_join_9 : decode cX0_join 9 = .ok (.aload_n 0, 1) := by decide +kernel
theorem dX0_join_10 : decode cX0_join 10 = .ok (.getfield 12, 3) := by decide +kernel
theorem dX0_join_13 : decode cX0_join 13 = .ok (.iload 4, 2) := by decide +kernel
theorem dX0_join_15 : decode cX0_join 15 = .ok (.lload_n 2, 1) := by decide +kernel
theorem dX0_join_16 : decode cX0_join 16 = .ok (.invokevirtual 32, 3) := by decide +kernel
theorem dX0_join_19 : decode cX0_join 19 = .ok (.aload_n 0, 1) := by decide +kernel
theorem dX0_join_20 : decode cX0_join 20 = .ok (.getfield 12, 3) := by decide +kernel
theorem dX0_join_23 : decode cX0_join 23 = .ok (.aload_n 1, 1) := by decide +kernel
theorem dX0_join_24 : decode cX0_join 24 = .ok (.invokevirtual 36, 3) := by decide +kernel
theorem dX0_join_27 : decode cX0_join 27 = .ok (.ireturn, 1) := by decide +kernel
theorem dX0_combine_0 : decode cX0_combine 0 = .ok (.aload_n 0, 1) := by decide +kernel
theorem dX0_combine_1 : decode cX0_combine 1 = .ok (.getfield 12, 3) := by decide +kernel
theorem dX0_combine_4 : decode cX0_combine 4 = .ok (.aload_n 2, 1) := by decide +kernel
theorem dX0_combine_5 : decode cX0_combine 5 = .ok (.lconst 1, 1) := by decide +kernel
theorem dX0_combine_6 : decode cX0_combine 6 = .ok (.invokevirtual 28, 3) := by decide +kernel
theorem dX0_combine_9 : decode cX0_combine 9 = .ok (.aload_n 0, 1) := by decide +kernel
theorem dX0_combine_10 : decode cX0_combine 10 = .ok (.getfield 12, 3) := by decide +kernel
theorem dX0_combine_13 : decode cX0_combine 13 = .ok (.aload_n 3, 1) := by decide +kernel
theorem dX0_combine_14 : decode cX0_combine 14 = .ok (.iload 4, 2) := by decide +kernel
theorem dX0_combine_16 : decode cX0_combine 16 = .ok (.i2l, 1) := by decide +kernel
theorem dX0_combine_17 : decode cX0_combine 17 = .ok (.invokevirtual 28, 3) := by decide +kernel
theorem dX0_combine_20 : decode cX0_combine 20 = .ok (.aload_n 0, 1) := by decide +kernel
theorem dX0_combine_21 : decode cX0_combine 21 = .ok (.getfield 12, 3) := by decide +kernel
theorem dX0_combine_24 : decode cX0_combine 24 = .ok (.aload_n 1, 1) := by decide +kernel
theorem dX0_combine_25 : decode cX0_combine 25 = .ok (.invokevirtual 36, 3) := by decide +kernel
theorem dX0_combine_28 : decode cX0_combine 28 = .ok (.ireturn, 1) := by decide +kernel
theorem dX0_multiply_0 : decode cX0_multiply 0 = .ok (.aload_n 2, 1) := by decide +kernel
theorem dX0_multiply_1 : decode cX0_multiply 1 = .ok (.aload_n 3, 1) := by decide +kernel
theorem dX0_multiply_2 : decode cX0_multiply 2 = .ok (.invokestatic 40, 3) := by decide +kernel
theorem dX0_multiply_5 : decode cX0_multiply 5 = .ok (.ifCond .eq 6, 3) := by decide +kernel
theorem dX0_multiply_8 : decode cX0_multiply 8 = .ok (.bipush (-4), 2) := by decide +kernel
theorem dX0_multiply_10 : decode cX0_multiply 10 = .ok (.ireturn, 1) := by decide +kernel
theorem dX0_multiply_11 : decode cX0_multiply 11 = .ok (.iconst 0, 1) := by decide +kernel
theorem dX0_multiply_12 : decode cX0_multiply 12 = .ok (.istore 4, 2) := by decide +kernel
theorem dX0_multiply_14 : decode cX0_multiply 14 = .ok (.iload 4, 2) := by decide +kernel
theorem dX0_multiply_16 : decode cX0_multiply 16 = .ok (.aload_n 2, 1) := by decide +kernel
theorem dX0_multiply_17 : decode cX0_multiply 17 = .ok (.invokevirtual 44, 3) := by decide +kernel
theorem dX0_multiply_20 : decode cX0_multiply 20 = .ok (.if_icmp .ge 66, 3) := by decide +kernel
theorem dX0_multiply_23 : decode cX0_multiply 23 = .ok (.aload_n 2, 1) := by decide +kernel
theorem dX0_multiply_24 : decode cX0_multiply 24 = .ok (.iload 4, 2) := by decide +kernel
theorem dX0_multiply_26 : decode cX0_multiply 26 = .ok (.invokevirtual 48, 3) := by decide +kernel
theorem dX0_multiply_29 : decode cX0_multiply 29 = .ok (.i2l, 1) := by decide +kernel
theorem dX0_multiply_30 : decode cX0_multiply 30 = .ok (.lstore 5, 2) := by decide +kernel
theorem dX0_multiply_32 : decode cX0_multiply 32 = .ok (.iconst 0, 1) := by decide +kernel
theorem dX0_multiply_33 : decode cX0_multiply 33 = .ok (.istore 7, 2) := by decide +kernel
theorem dX0_multiply_35 : decode cX0_multiply 35 = .ok (.iload 7, 2) := by decide +kernel
theorem dX0_multiply_37 : decode cX0_multiply 37 = .ok (.aload_n 3, 1) := by decide +kernel
theorem dX0_multiply_38 : decode cX0_multiply 38 = .ok (.invokevirtual 44, 3) := by decide +kernel
theorem dX0_multiply_41 : decode cX0_multiply 41 = .ok (.if_icmp .ge 39, 3) := by decide +kernel
theorem dX0_multiply_44 : decode cX0_multiply 44 = .ok (.aload_n 0, 1) := by decide +kernel
theorem dX0_multiply_45 : decode cX0_multiply 45 = .ok (.getfield 12, 3) := by decide +kernel
theorem dX0_multiply_48 : decode cX0_multiply 48 = .ok (.aload_n 2, 1) := by decide +kernel
theorem dX0_multiply_49 : decode cX0_multiply 49 = .ok (.iload 4, 2) := by decide +kernel
theorem dX0_multiply_51 : decode cX0_multiply 51 = .ok (.invokevirtual 52, 3) := by decide +kernel
theorem dX0_multiply_54 : decode cX0_multiply 54 = .ok (.aload_n 3, 1) := by decide +kernel
theorem dX0_multiply_55 : decode cX0_multiply 55 = .ok (.iload 7, 2) := by decide +kernel
theorem dX0_multiply_57 : decode cX0_multiply 57 = .ok (.invokevirtual 52, 3) := by decide +kernel
theorem dX0_multiply_60 : decode cX0_multiply 60 = .ok (.iadd, 1) := by decide +kernel
theorem dX0_multiply_61 : decode cX0_multiply 61 = .ok (.lload 5, 2) := by decide +kernel
theorem dX0_multiply_63 : decode cX0_multiply 63 = .ok (.aload_n 3, 1) := by decide +kernel
theorem dX0_multiply_64 : decode cX0_multiply 64 = .ok (.iload 7, 2) := by decide +kernel
theorem dX0_multiply_66 : decode cX0_multiply 66 = .ok (.invokevirtual 48, 3) := by decide +kernel
theorem dX0_multiply_69 : decode cX0_multiply 69 = .ok (.i2l, 1) := by decide +kernel
theorem dX0_multiply_70 : decode cX0_multiply 70 = .ok (.lmul, 1) := by decide +kernel
theorem dX0_multiply_71 : decode cX0_multiply 71 = .ok (.invokevirtual 32, 3) := by decide +kernel
theorem dX0_multiply_74 : decode cX0_multiply 74 = .ok (.iinc 7 1, 3) := by decide +kernel
theorem dX0_multiply_77 : decode cX0_multiply 77 = .ok (.goto (-42), 3) := by decide +kernel
theorem dX0_multiply_80 : decode cX0_multiply 80 = .ok (.iinc 4 1, 3) := by decide +kernel
theorem dX0_multiply_83 : decode cX0_multiply 83 = .ok (.goto (-69), 3) := by decide +kernel
theorem dX0_multiply_86 : decode cX0_multiply 86 = .ok (.aload_n 0, 1) := by decide +kernel
theorem dX0_multiply_87 : decode cX0_multiply 87 = .ok (.getfield 12, 3) := by decide +kernel
theorem dX0_multiply_90 : decode cX0_multiply 90 = .ok (.aload_n 1, 1) := by decide +kernel
theorem dX0_multiply_91 : decode cX0_multiply 91 = .ok (.invokevirtual 36, 3) := by decide +kernel
theorem dX0_multiply_94 : decode cX0_multiply 94 = .ok (.ireturn, 1) := by decide +kernel
theorem dX0_isTooHigh_0 : decode cX0_isTooHigh 0 = .ok (.iconst 1, 1) := by decide +kernel
theorem dX0_isTooHigh_1 : decode cX0_isTooHigh 1 = .ok (.istore_n 2, 1) := by decide +kernel
theorem dX0_isTooHigh_2 : decode cX0_isTooHigh 2 = .ok (.iload_n 2, 1) := by decide +kernel
theorem dX0_isTooHigh_3 : decode cX0_isTooHigh 3 = .ok (.iconst 5, 1) := by decide +kernel
theorem dX0_isTooHigh_4 : decode cX0_isTooHigh 4 = .ok (.if_icmp .gt 27, 3) := by decide +kernel
theorem dX0_isTooHigh_7 : decode cX0_isTooHigh 7 = .ok (.aload_n 0, 1) := by decide +kernel
theorem dX0_isTooHigh_8 : decode cX0_isTooHigh 8 = .ok (.iload_n 2, 1) := by decide +kernel
theorem dX0_isTooHigh_9 : decode cX0_isTooHigh 9 = .ok (.invokevirtual 55, 3) := by decide +kernel
theorem dX0_isTooHigh_12 : decode cX0_isTooHigh 12 = .ok (.aload_n 1, 1) := by decide +kernel
theorem dX0_isTooHigh_13 : decode cX0_isTooHigh 13 = .ok (.iload_n 2, 1) := by decide +kernel
theorem dX0_isTooHigh_14 : decode cX0_isTooHigh 14 = .ok (.invokevirtual 55, 3) := by decide +kernel
theorem dX0_isTooHigh_17 : decode cX0_isTooHigh 17 = .ok (.iadd, 1) := by decide +kernel
theorem dX0_isTooHigh_18 : decode cX0_isTooHigh 18 = .ok (.bipush 8, 2) := by decide +kernel
theorem dX0_isTooHigh_20 : decode cX0_isTooHigh 20 = .ok (.if_icmp .le 5, 3) := by decide +kernel
theorem dX0_isTooHigh_23 : decode cX0_isTooHigh 23 = .ok (.iconst 1, 1) := by decide +kernel
theorem dX0_isTooHigh_24 : decode cX0_isTooHigh 24 = .ok (.ireturn, 1) := by decide +kernel
theorem dX0_isTooHigh_25 : decode cX0_isTooHigh 25 = .ok (.iinc 2 1, 3) := by decide +kernel
theorem dX0_isTooHigh_28 : decode cX0_isTooHigh 28 = .ok (.goto (-26), 3) := by decide +kernel
theorem dX0_isTooHigh_31 : decode cX0_isTooHigh 31 = .ok (.iconst 0, 1) := by decide +kernel
theorem dX0_isTooHigh_32 : decode cX0_isTooHigh 32 = .ok (.ireturn, 1) := by decide +kernel
theorem dX0_swapLetters_0 : decode cX0_swapLetters 0 = .ok (.iconst 0, 1) := by decide +kernel
theorem dX0_swapLetters_1 : decode cX0_swapLetters 1 = .ok (.istore 4, 2) := by decide +kernel
theorem dX0_swapLetters_3 : decode cX0_swapLetters 3 = .ok (.iload 4, 2) := by decide +kernel
theorem dX0_swapLetters_5 : decode cX0_swapLetters 5 = .ok (.aload_n 2, 1) := by decide +kernel
theorem dX0_swapLetters_6 : decode cX0_swapLetters 6 = .ok (.invokevirtual 44, 3) := by decide +kernel
theorem dX0_swapLetters_9 : decode cX0_swapLetters 9 = .ok (.if_icmp .ge 37, 3) := by decide +kernel
theorem dX0_swapLetters_12 : decode cX0_swapLetters 12 = .ok (.aload_n 0, 1) := by decide +kernel
theorem dX0_swapLetters_13 : decode cX0_swapLetters 13 = .ok (.getfield 12, 3) := by decide +kernel
theorem dX0_swapLetters_16 : decode cX0_swapLetters 16 = .ok (.aload_n 2, 1) := by decide +kernel
theorem dX0_swapLetters_17 : decode cX0_swapLetters 17 = .ok (.iload 4, 2) := by decide +kernel
theorem dX0_swapLetters_19 : decode cX0_swapLetters 19 = .ok (.invokevirtual 52, 3) := by decide +kernel
theorem dX0_swapLetters_22 : decode cX0_swapLetters 22 = .ok (.iconst 5, 1) := by decide +kernel
theorem dX0_swapLetters_23 : decode cX0_swapLetters 23 = .ok (.iload_n 3, 1) := by decide +kernel
theorem dX0_swapLetters_24 : decode cX0_swapLetters 24 = .ok (.iload_n 3, 1) := by decide +kernel
theorem dX0_swapLetters_25 : decode cX0_swapLetters 25 = .ok (.iconst 1, 1) := by decide +kernel
theorem dX0_swapLetters_26 : decode cX0_swapLetters 26 = .ok (.iadd, 1) := by decide +kernel
theorem dX0_swapLetters_27 : decode cX0_swapLetters 27 = .ok (.invokestatic 58, 3) := by decide +kernel
theorem dX0_swapLetters_30 : decode cX0_swapLetters 30 = .ok (.aload_n 2, 1) := by decide +kernel
theorem dX0_swapLetters_31 : decode cX0_swapLetters 31 = .ok (.iload 4, 2) := by decide +kernel
theorem dX0_swapLetters_33 : decode cX0_swapLetters 33 = .ok (.invokevirtual 48, 3) := by decide +kernel
theorem dX0_swapLetters_36 : decode cX0_swapLetters 36 = .ok (.i2l, 1) := by decide +kernel
theorem dX0_swapLetters_37 : decode cX0_swapLetters 37 = .ok (.invokevirtual 32, 3) := by decide +kernel
theorem dX0_swapLetters_40 : decode cX0_swapLetters 40 = .ok (.iinc 4 1, 3) := by decide +kernel
theorem dX0_swapLetters_43 : decode cX0_swapLetters 43 = .ok (.goto (-40), 3) := by decide +kernel
theorem dX0_swapLetters_46 : decode cX0_swapLetters 46 = .ok (.aload_n 0, 1) := by decide +kernel
theorem dX0_swapLetters_47 : decode cX0_swapLetters 47 = .ok (.getfield 12, 3) := by decide +kernel
theorem dX0_swapLetters_50 : decode cX0_swapLetters 50 = .ok (.aload_n 1, 1) := by decide +kernel
theorem dX0_swapLetters_51 : decode cX0_swapLetters 51 = .ok (.invokevirtual 36, 3) := by decide +kernel
theorem dX0_swapLetters_54 : decode cX0_swapLetters 54 = .ok (.ireturn, 1) := by decide +kernel
theorem dX0_differ_0 : decode cX0_differ 0 = .ok (.iconst 0, 1) := by decide +kernel
theorem dX0_differ_1 : decode cX0_differ 1 = .ok (.istore 4, 2) := by decide +kernel
theorem dX0_differ_3 : decode cX0_differ 3 = .ok (.iload 4, 2) := by decide +kernel
theorem dX0_differ_5 : decode cX0_differ 5 = .ok (.aload_n 2, 1) := by decide +kernel
theorem dX0_differ_6 : decode cX0_differ 6 = .ok (.invokevirtual 44, 3) := by decide +kernel
theorem dX0_differ_9 : decode cX0_differ 9 = .ok (.if_icmp .ge 17, 3) := by decide +kernel
theorem dX0_differ_12 : decode cX0_differ 12 = .ok (.aload_n 0, 1) := by decide +kernel
theorem dX0_differ_13 : decode cX0_differ 13 = .ok (.aload_n 2, 1) := by decide +kernel
theorem dX0_differ_14 : decode cX0_differ 14 = .ok (.iload 4, 2) := by decide +kernel
theorem dX0_differ_16 : decode cX0_differ 16 = .ok (.iload_n 3, 1) := by decide +kernel
theorem dX0_differ_17 : decode cX0_differ 17 = .ok (.invokevirtual 64, 3) := by decide +kernel
theorem dX0_differ_20 : decode cX0_differ 20 = .ok (.iinc 4 1, 3) := by decide +kernel
theorem dX0_differ_23 : decode cX0_differ 23 = .ok (.goto (-20), 3) := by decide +kernel
theorem dX0_differ_26 : decode cX0_differ 26 = .ok (.aload_n 0, 1) := by decide +kernel
theorem dX0_differ_27 : decode cX0_differ 27 = .ok (.getfield 12, 3) := by decide +kernel
theorem dX0_differ_30 : decode cX0_differ 30 = .ok (.aload_n 1, 1) := by decide +kernel
theorem dX0_differ_31 : decode cX0_differ 31 = .ok (.invokevirtual 36, 3) := by decide +kernel
theorem dX0_differ_34 : decode cX0_differ 34 = .ok (.ireturn, 1) := by decide +kernel
theorem dX0_pourDifference_0 : decode cX0_pourDifference 0 = .ok (.aload_n 1, 1) := by decide +kernel
theorem dX0_pourDifference_1 : decode cX0_pourDifference 1 = .ok (.iload_n 2, 1) := by decide +kernel
theorem dX0_pourDifference_2 : decode cX0_pourDifference 2 = .ok (.iload_n 3, 1) := by decide +kernel
theorem dX0_pourDifference_3 : decode cX0_pourDifference 3 = .ok (.invokevirtual 68, 3) := by decide +kernel
theorem dX0_pourDifference_6 : decode cX0_pourDifference 6 = .ok (.istore 4, 2) := by decide +kernel
theorem dX0_pourDifference_8 : decode cX0_pourDifference 8 = .ok (.aload_n 1, 1) := by decide +kernel
theorem dX0_pourDifference_9 : decode cX0_pourDifference 9 = .ok (.iload_n 2, 1) := by decide +kernel
theorem dX0_pourDifference_10 : decode cX0_pourDifference 10 = .ok (.iload_n 3, 1) := by decide +kernel
theorem dX0_pourDifference_11 : decode cX0_pourDifference 11 = .ok (.iconst 1, 1) := by decide +kernel
theorem dX0_pourDifference_12 : decode cX0_pourDifference 12 = .ok (.iadd, 1) := by decide +kernel
theorem dX0_pourDifference_13 : decode cX0_pourDifference 13 = .ok (.invokevirtual 68, 3) := by decide +kernel
theorem dX0_pourDifference_16 : decode cX0_pourDifference 16 = .ok (.istore 5, 2) := by decide +kernel
theorem dX0_pourDifference_18 : decode cX0_pourDifference 18 = .ok (.bipush 10, 2) := by decide +kernel
theorem dX0_pourDifference_20 : decode cX0_pourDifference 20 = .ok (.iconst 5, 1) := by decide +kernel
theorem dX0_pourDifference_21 : decode cX0_pourDifference 21 = .ok (.iload_n 3, 1) := by decide +kernel
theorem dX0_pourDifference_22 : decode cX0_pourDifference 22 = .ok (.isub, 1) := by decide +kernel
theorem dX0_pourDifference_23 : decode cX0_pourDifference 23 = .ok (.invokestatic 72, 3) := by decide +kernel
theorem dX0_pourDifference_26 : decode cX0_pourDifference 26 = .ok (.istore 6, 2) := by decide +kernel
theorem dX0_pourDifference_28 : decode cX0_pourDifference 28 = .ok (.bipush 10, 2) := by decide +kernel
theorem dX0_pourDifference_30 : decode cX0_pourDifference 30 = .ok (.iconst 5, 1) := by decide +kernel
theorem dX0_pourDifference_31 : decode cX0_pourDifference 31 = .ok (.iload_n 3, 1) := by decide +kernel
theorem dX0_pourDifference_32 : decode cX0_pourDifference 32 = .ok (.isub, 1) := by decide +kernel
theorem dX0_pourDifference_33 : decode cX0_pourDifference 33 = .ok (.iconst 1, 1) := by decide +kernel
theorem dX0_pourDifference_34 : decode cX0_pourDifference 34 = .ok (.isub, 1) := by decide +kernel
theorem dX0_pourDifference_35 : decode cX0_pourDifference 35 = .ok (.invokestatic 72, 3) := by decide +kernel
theorem dX0_pourDifference_38 : decode cX0_pourDifference 38 = .ok (.istore 7, 2) := by decide +kernel
theorem dX0_pourDifference_40 : decode cX0_pourDifference 40 = .ok (.aload_n 1, 1) := by decide +kernel
theorem dX0_pourDifference_41 : decode cX0_pourDifference 41 = .ok (.iload_n 2, 1) := by decide +kernel
theorem dX0_pourDifference_42 : decode cX0_pourDifference 42 = .ok (.invokevirtual 52, 3) := by decide +kernel
theorem dX0_pourDifference_45 : decode cX0_pourDifference 45 = .ok (.iload 4, 2) := by decide +kernel
theorem dX0_pourDifference_47 : decode cX0_pourDifference 47 = .ok (.iload 6, 2) := by decide +kernel
theorem dX0_pourDifference_49 : decode cX0_pourDifference 49 = .ok (.imul, 1) := by decide +kernel
theorem dX0_pourDifference_50 : decode cX0_pourDifference 50 = .ok (.isub, 1) := by decide +kernel
theorem dX0_pourDifference_51 : decode cX0_pourDifference 51 = .ok (.iload 5, 2) := by decide +kernel
theorem dX0_pourDifference_53 : decode cX0_pourDifference 53 = .ok (.iload 7, 2) := by decide +kernel
theorem dX0_pourDifference_55 : decode cX0_pourDifference 55 = .ok (.imul, 1) := by decide +kernel
theorem dX0_pourDifference_56 : decode cX0_pourDifference 56 = .ok (.isub, 1) := by decide +kernel
theorem dX0_pourDifference_57 : decode cX0_pourDifference 57 = .ok (.istore 8, 2) := by decide +kernel
theorem dX0_pourDifference_59 : decode cX0_pourDifference 59 = .ok (.iload 4, 2) := by decide +kernel
theorem dX0_pourDifference_61 : decode cX0_pourDifference 61 = .ok (.iload 5, 2) := by decide +kernel
theorem dX0_pourDifference_63 : decode cX0_pourDifference 63 = .ok (.if_icmp .le 11, 3) := by decide +kernel
theorem dX0_pourDifference_66 : decode cX0_pourDifference 66 = .ok (.aload_n 1, 1) := by decide +kernel
theorem dX0_pourDifference_67 : decode cX0_pourDifference 67 = .ok (.iload_n 2, 1) := by decide +kernel
theorem dX0_pourDifference_68 : decode cX0_pourDifference 68 = .ok (.invokevirtual 48, 3) := by decide +kernel
theorem dX0_pourDifference_71 : decode cX0_pourDifference 71 = .ok (.goto 9, 3) := by decide +kernel
theorem dX0_pourDifference_74 : decode cX0_pourDifference 74 = .ok (.aload_n 1, 1) := by decide +kernel
theorem dX0_pourDifference_75 : decode cX0_pourDifference 75 = .ok (.iload_n 2, 1) := by decide +kernel
theorem dX0_pourDifference_76 : decode cX0_pourDifference 76 = .ok (.invokevirtual 48, 3) := by decide +kernel
theorem dX0_pourDifference_79 : decode cX0_pourDifference 79 = .ok (.ineg, 1) := by decide +kernel
theorem dX0_pourDifference_80 : decode cX0_pourDifference 80 = .ok (.istore 9, 2) := by decide +kernel
theorem dX0_pourDifference_82 : decode cX0_pourDifference 82 = .ok (.iload 4, 2) := by decide +kernel
theorem dX0_pourDifference_84 : decode cX0_pourDifference 84 = .ok (.iload 5, 2) := by decide +kernel
theorem dX0_pourDifference_86 : decode cX0_pourDifference 86 = .ok (.iadd, 1) := by decide +kernel
theorem dX0_pourDifference_87 : decode cX0_pourDifference 87 = .ok (.iconst 1, 1) := by decide +kernel
theorem dX0_pourDifference_88 : decode cX0_pourDifference 88 = .ok (.isub, 1) := by decide +kernel
theorem dX0_pourDifference_89 : decode cX0_pourDifference 89 = .ok (.istore 10, 2) := by decide +kernel
theorem dX0_pourDifference_91 : decode cX0_pourDifference 91 = .ok (.iload 4, 2) := by decide +kernel
theorem dX0_pourDifference_93 : decode cX0_pourDifference 93 = .ok (.iload 5, 2) := by decide +kernel
theorem dX0_pourDifference_95 : decode cX0_pourDifference 95 = .ok (.invokestatic 77, 3) := by decide +kernel
theorem dX0_pourDifference_98 : decode cX0_pourDifference 98 = .ok (.istore 11, 2) := by decide +kernel
theorem dX0_pourDifference_100 : decode cX0_pourDifference 100 = .ok (.iload 11, 2) := by decide +kernel
theorem dX0_pourDifference_102 : decode cX0_pourDifference 102 = .ok (.iload 4, 2) := by decide +kernel
theorem dX0_pourDifference_104 : decode cX0_pourDifference 104 = .ok (.iload 5, 2) := by decide +kernel
theorem dX0_pourDifference_106 : decode cX0_pourDifference 106 = .ok (.invokestatic 82, 3) := by decide +kernel
theorem dX0_pourDifference_109 : decode cX0_pourDifference 109 = .ok (.if_icmp .ge 36, 3) := by decide +kernel
theorem dX0_pourDifference_112 : decode cX0_pourDifference 112 = .ok (.aload_n 0, 1) := by decide +kernel
theorem dX0_pourDifference_113 : decode cX0_pourDifference 113 = .ok (.getfield 12, 3) := by decide +kernel
theorem dX0_pourDifference_116 : decode cX0_pourDifference 116 = .ok (.iload 8, 2) := by decide +kernel
theorem dX0_pourDifference_118 : decode cX0_pourDifference 118 = .ok (.iload 11, 2) := by decide +kernel
theorem dX0_pourDifference_120 : decode cX0_pourDifference 120 = .ok (.iload 6, 2) := by decide +kernel
theorem dX0_pourDifference_122 : decode cX0_pourDifference 122 = .ok (.imul, 1) := by decide +kernel
theorem dX0_pourDifference_123 : decode cX0_pourDifference 123 = .ok (.iadd, 1) := by decide +kernel
theorem dX0_pourDifference_124 : decode cX0_pourDifference 124 = .ok (.iload 10, 2) := by decide +kernel
theorem dX0_pourDifference_126 : decode cX0_pourDifference 126 = .ok (.iload 11, 2) := by decide +kernel
theorem dX0_pourDifference_128 : decode cX0_pourDifference 128 = .ok (.isub, 1) := by decide +kernel
theorem dX0_pourDifference_129 : decode cX0_pourDifference 129 = .ok (.iload 7, 2) := by decide +kernel
theorem dX0_pourDifference_131 : decode cX0_pourDifference 131 = .ok (.imul, 1) := by decide +kernel
theorem dX0_pourDifference_132 : decode cX0_pourDifference 132 = .ok (.iadd, 1) := by decide +kernel
theorem dX0_pourDifference_133 : decode cX0_pourDifference 133 = .ok (.iload 9, 2) := by decide +kernel
theorem dX0_pourDifference_135 : decode cX0_pourDifference 135 = .ok (.i2l, 1) := by decide +kernel
theorem dX0_pourDifference_136 : decode cX0_pourDifference 136 = .ok (.invokevirtual 32, 3) := by decide +kernel
theorem dX0_pourDifference_139 : decode cX0_pourDifference 139 = .ok (.iinc 11 1, 3) := by decide +kernel
theorem dX0_pourDifference_142 : decode cX0_pourDifference 142 = .ok (.goto (-42), 3) := by decide +kernel
theorem dX0_pourDifference_145 : decode cX0_pourDifference 145 = .ok (.return_, 1) := by decide +kernel
theorem dX0_compose_0 : decode cX0_compose 0 = .ok (.lconst 0, 1) := by decide +kernel
theorem dX0_compose_1 : decode cX0_compose 1 = .ok (.lstore 4, 2) := by decide +kernel
theorem dX0_compose_3 : decode cX0_compose 3 = .ok (.iload_n 2, 1) := by decide +kernel
theorem dX0_compose_4 : decode cX0_compose 4 = .ok (.istore 6, 2) := by decide +kernel
theorem dX0_compose_6 : decode cX0_compose 6 = .ok (.iconst 0, 1) := by decide +kernel
theorem dX0_compose_7 : decode cX0_compose 7 = .ok (.istore 7, 2) := by decide +kernel
theorem dX0_compose_9 : decode cX0_compose 9 = .ok (.iload 6, 2) := by decide +kernel
theorem dX0_compose_11 : decode cX0_compose 11 = .ok (.iload_n 3, 1) := by decide +kernel
theorem dX0_compose_12 : decode cX0_compose 12 = .ok (.iconst 0, 1) := by decide +kernel
theorem dX0_compose_13 : decode cX0_compose 13 = .ok (.invokestatic 85, 3) := by decide +kernel
theorem dX0_compose_16 : decode cX0_compose 16 = .ok (.istore 8, 2) := by decide +kernel
theorem dX0_compose_18 : decode cX0_compose 18 = .ok (.iload 8, 2) := by decide +kernel
theorem dX0_compose_20 : decode cX0_compose 20 = .ok (.ifCond .le 51, 3) := by decide +kernel
theorem dX0_compose_23 : decode cX0_compose 23 = .ok (.iload 7, 2) := by decide +kernel
theorem dX0_compose_25 : decode cX0_compose 25 = .ok (.bipush 10, 2) := by decide +kernel
theorem dX0_compose_27 : decode cX0_compose 27 = .ok (.if_icmp .ge 44, 3) := by decide +kernel
theorem dX0_compose_30 : decode cX0_compose 30 = .ok (.lload 4, 2) := by decide +kernel
theorem dX0_compose_32 : decode cX0_compose 32 = .ok (.ldc2_w 89, 3) := by decide +kernel
theorem dX0_compose_35 : decode cX0_compose 35 = .ok (.lmul, 1) := by decide +kernel
theorem dX0_compose_36 : decode cX0_compose 36 = .ok (.iload 8, 2) := by decide +kernel
theorem dX0_compose_38 : decode cX0_compose 38 = .ok (.i2l, 1) := by decide +kernel
theorem dX0_compose_39 : decode cX0_compose 39 = .ok (.ladd, 1) := by decide +kernel
theorem dX0_compose_40 : decode cX0_compose 40 = .ok (.lstore 4, 2) := by decide +kernel
theorem dX0_compose_42 : decode cX0_compose 42 = .ok (.iload 6, 2) := by decide +kernel
theorem dX0_compose_44 : decode cX0_compose 44 = .ok (.iload_n 3, 1) := by decide +kernel
theorem dX0_compose_45 : decode cX0_compose 45 = .ok (.iload 8, 2) := by decide +kernel
theorem dX0_compose_47 : decode cX0_compose 47 = .ok (.iload 8, 2) := by decide +kernel
theorem dX0_compose_49 : decode cX0_compose 49 = .ok (.iconst 1, 1) := by decide +kernel
theorem dX0_compose_50 : decode cX0_compose 50 = .ok (.iadd, 1) := by decide +kernel
theorem dX0_compose_51 : decode cX0_compose 51 = .ok (.invokestatic 58, 3) := by decide +kernel
theorem dX0_compose_54 : decode cX0_compose 54 = .ok (.istore 6, 2) := by decide +kernel
theorem dX0_compose_56 : decode cX0_compose 56 = .ok (.iload 6, 2) := by decide +kernel
theorem dX0_compose_58 : decode cX0_compose 58 = .ok (.iload_n 3, 1) := by decide +kernel
theorem dX0_compose_59 : decode cX0_compose 59 = .ok (.iconst 0, 1) := by decide +kernel
theorem dX0_compose_60 : decode cX0_compose 60 = .ok (.invokestatic 85, 3) := by decide +kernel
theorem dX0_compose_63 : decode cX0_compose 63 = .ok (.istore 8, 2) := by decide +kernel
theorem dX0_compose_65 : decode cX0_compose 65 = .ok (.iinc 7 1, 3) := by decide +kernel
theorem dX0_compose_68 : decode cX0_compose 68 = .ok (.goto (-50), 3) := by decide +kernel
theorem dX0_compose_71 : decode cX0_compose 71 = .ok (.aload_n 1, 1) := by decide +kernel
theorem dX0_compose_72 : decode cX0_compose 72 = .ok (.invokevirtual 91, 3) := by decide +kernel
theorem dX0_compose_75 : decode cX0_compose 75 = .ok (.aload_n 1, 1) := by decide +kernel
theorem dX0_compose_76 : decode cX0_compose 76 = .ok (.iload_n 3, 1) := by decide +kernel
theorem dX0_compose_77 : decode cX0_compose 77 = .ok (.invokestatic 94, 3) := by decide +kernel
theorem dX0_compose_80 : decode cX0_compose 80 = .ok (.iconst 1, 1) := by decide +kernel
theorem dX0_compose_81 : decode cX0_compose 81 = .ok (.invokevirtual 97, 3) := by decide +kernel
theorem dX0_compose_84 : decode cX0_compose 84 = .ok (.iconst 0, 1) := by decide +kernel
theorem dX0_compose_85 : decode cX0_compose 85 = .ok (.istore 8, 2) := by decide +kernel
theorem dX0_compose_87 : decode cX0_compose 87 = .ok (.iload 8, 2) := by decide +kernel
theorem dX0_compose_89 : decode cX0_compose 89 = .ok (.iload 7, 2) := by decide +kernel
theorem dX0_compose_91 : decode cX0_compose 91 = .ok (.if_icmp .ge 31, 3) := by decide +kernel
theorem dX0_compose_94 : decode cX0_compose 94 = .ok (.aload_n 0, 1) := by decide +kernel
theorem dX0_compose_95 : decode cX0_compose 95 = .ok (.aload_n 1, 1) := by decide +kernel
theorem dX0_compose_96 : decode cX0_compose 96 = .ok (.aload_n 1, 1) := by decide +kernel
theorem dX0_compose_97 : decode cX0_compose 97 = .ok (.lload 4, 2) := by decide +kernel
theorem dX0_compose_99 : decode cX0_compose 99 = .ok (.ldc2_w 89, 3) := by decide +kernel
theorem dX0_compose_102 : decode cX0_compose 102 = .ok (.lrem, 1) := by decide +kernel
theorem dX0_compose_103 : decode cX0_compose 103 = .ok (.l2i, 1) := by decide +kernel
theorem dX0_compose_104 : decode cX0_compose 104 = .ok (.invokevirtual 101, 3) := by decide +kernel
theorem dX0_compose_107 : decode cX0_compose 107 = .ok (.pop, 1) := by decide +kernel
theorem dX0_compose_108 : decode cX0_compose 108 = .ok (.lload 4, 2) := by decide +kernel
theorem dX0_compose_110 : decode cX0_compose 110 = .ok (.ldc2_w 89, 3) := by decide +kernel
theorem dX0_compose_113 : decode cX0_compose 113 = .ok (.ldiv, 1) := by decide +kernel
theorem dX0_compose_114 : decode cX0_compose 114 = .ok (.lstore 4, 2) := by decide +kernel
theorem dX0_compose_116 : decode cX0_compose 116 = .ok (.iinc 8 1, 3) := by decide +kernel
theorem dX0_compose_119 : decode cX0_compose 119 = .ok (.goto (-32), 3) := by decide +kernel
theorem dX0_compose_122 : decode cX0_compose 122 = .ok (.aload_n 1, 1) := by decide +kernel
theorem dX0_compose_123 : decode cX0_compose 123 = .ok (.invokevirtual 44, 3) := by decide +kernel
theorem dX0_compose_126 : decode cX0_compose 126 = .ok (.ireturn, 1) := by decide +kernel
theorem dX0_staircase_0 : decode cX0_staircase 0 = .ok (.iconst 0, 1) := by decide +kernel
theorem dX0_staircase_1 : decode cX0_staircase 1 = .ok (.istore_n 1, 1) := by decide +kernel
theorem dX0_staircase_2 : decode cX0_staircase 2 = .ok (.iconst 1, 1) := by decide +kernel
theorem dX0_staircase_3 : decode cX0_staircase 3 = .ok (.istore_n 2, 1) := by decide +kernel
theorem dX0_staircase_4 : decode cX0_staircase 4 = .ok (.iload_n 2, 1) := by decide +kernel
theorem dX0_staircase_5 : decode cX0_staircase 5 = .ok (.iconst 5, 1) := by decide +kernel
theorem dX0_staircase_6 : decode cX0_staircase 6 = .ok (.if_icmp .gt 22, 3) := by decide +kernel
theorem dX0_staircase_9 : decode cX0_staircase 9 = .ok (.iload_n 1, 1) := by decide +kernel
theorem dX0_staircase_10 : decode cX0_staircase 10 = .ok (.bipush 10, 2) := by decide +kernel
theorem dX0_staircase_12 : decode cX0_staircase 12 = .ok (.imul, 1) := by decide +kernel
theorem dX0_staircase_13 : decode cX0_staircase 13 = .ok (.iload_n 0, 1) := by decide +kernel
theorem dX0_staircase_14 : decode cX0_staircase 14 = .ok (.iload_n 2, 1) := by decide +kernel
theorem dX0_staircase_15 : decode cX0_staircase 15 = .ok (.isub, 1) := by decide +kernel
theorem dX0_staircase_16 : decode cX0_staircase 16 = .ok (.iconst 0, 1) := by decide +kernel
theorem dX0_staircase_17 : decode cX0_staircase 17 = .ok (.invokestatic 82, 3) := by decide +kernel
theorem dX0_staircase_20 : decode cX0_staircase 20 = .ok (.iadd, 1) := by decide +kernel
theorem dX0_staircase_21 : decode cX0_staircase 21 = .ok (.istore_n 1, 1) := by decide +kernel
theorem dX0_staircase_22 : decode cX0_staircase 22 = .ok (.iinc 2 1, 3) := by decide +kernel
theorem dX0_staircase_25 : decode cX0_staircase 25 = .ok (.goto (-21), 3) := by decide +kernel
theorem dX0_staircase_28 : decode cX0_staircase 28 = .ok (.iload_n 1, 1) := by decide +kernel
theorem dX0_staircase_29 : decode cX0_staircase 29 = .ok (.ireturn, 1) := by decide +kernel
theorem dX0_partOf_0 : decode cX0_partOf 0 = .ok (.aload_n 0, 1) := by decide +kernel
theorem dX0_partOf_1 : decode cX0_partOf 1 = .ok (.getfield 21, 3) := by decide +kernel
theorem dX0_partOf_4 : decode cX0_partOf 4 = .ok (.aload_n 1, 1) := by decide +kernel
theorem dX0_partOf_5 : decode cX0_partOf 5 = .ok (.invokevirtual 105, 3) := by decide +kernel
theorem dX0_partOf_8 : decode cX0_partOf 8 = .ok (.aload_n 0, 1) := by decide +kernel
theorem dX0_partOf_9 : decode cX0_partOf 9 = .ok (.iload_n 2, 1) := by decide +kernel
theorem dX0_partOf_10 : decode cX0_partOf 10 = .ok (.iload_n 3, 1) := by decide +kernel
theorem dX0_partOf_11 : decode cX0_partOf 11 = .ok (.invokevirtual 109, 3) := by decide +kernel
theorem dX0_partOf_14 : decode cX0_partOf 14 = .ok (.lreturn, 1) := by decide +kernel
theorem dX0_partOfProduct_0 : decode cX0_partOfProduct 0 = .ok (.aload_n 0, 1) := by decide +kernel
theorem dX0_partOfProduct_1 : decode cX0_partOfProduct 1 = .ok (.aload_n 0, 1) := by decide +kernel
theorem dX0_partOfProduct_2 : decode cX0_partOfProduct 2 = .ok (.getfield 21, 3) := by decide +kernel
theorem dX0_partOfProduct_5 : decode cX0_partOfProduct 5 = .ok (.iload_n 1, 1) := by decide +kernel
theorem dX0_partOfProduct_6 : decode cX0_partOfProduct 6 = .ok (.iload_n 1, 1) := by decide +kernel
theorem dX0_partOfProduct_7 : decode cX0_partOfProduct 7 = .ok (.invokestatic 113, 3) := by decide +kernel
theorem dX0_partOfProduct_10 : decode cX0_partOfProduct 10 = .ok (.invokevirtual 116, 3) := by decide +kernel
theorem dX0_partOfProduct_13 : decode cX0_partOfProduct 13 = .ok (.pop, 1) := by decide +kernel
theorem dX0_partOfProduct_14 : decode cX0_partOfProduct 14 = .ok (.aload_n 0, 1) := by decide +kernel
theorem dX0_partOfProduct_15 : decode cX0_partOfProduct 15 = .ok (.aload_n 0, 1) := by decide +kernel
theorem dX0_partOfProduct_16 : decode cX0_partOfProduct 16 = .ok (.getfield 25, 3) := by decide +kernel
theorem dX0_partOfProduct_19 : decode cX0_partOfProduct 19 = .ok (.iload_n 2, 1) := by decide +kernel
theorem dX0_partOfProduct_20 : decode cX0_partOfProduct 20 = .ok (.iload_n 2, 1) := by decide +kernel
theorem dX0_partOfProduct_21 : decode cX0_partOfProduct 21 = .ok (.invokestatic 113, 3) := by decide +kernel
theorem dX0_partOfProduct_24 : decode cX0_partOfProduct 24 = .ok (.invokevirtual 116, 3) := by decide +kernel
theorem dX0_partOfProduct_27 : decode cX0_partOfProduct 27 = .ok (.pop, 1) := by decide +kernel
theorem dX0_partOfProduct_28 : decode cX0_partOfProduct 28 = .ok (.aload_n 0, 1) := by decide +kernel
theorem dX0_partOfProduct_29 : decode cX0_partOfProduct 29 = .ok (.aload_n 0, 1) := by decide +kernel
theorem dX0_partOfProduct_30 : decode cX0_partOfProduct 30 = .ok (.getfield 21, 3) := by decide +kernel
theorem dX0_partOfProduct_33 : decode cX0_partOfProduct 33 = .ok (.aload_n 0, 1) := by decide +kernel
theorem dX0_partOfProduct_34 : decode cX0_partOfProduct 34 = .ok (.getfield 21, 3) := by decide +kernel
theorem dX0_partOfProduct_37 : decode cX0_partOfProduct 37 = .ok (.aload_n 0, 1) := by decide +kernel
theorem dX0_partOfProduct_38 : decode cX0_partOfProduct 38 = .ok (.getfield 25, 3) := by decide +kernel
theorem dX0_partOfProduct_41 : decode cX0_partOfProduct 41 = .ok (.invokevirtual 120, 3) := by decide +kernel
theorem dX0_partOfProduct_44 : decode cX0_partOfProduct 44 = .ok (.istore 4, 2) := by decide +kernel
theorem dX0_partOfProduct_46 : decode cX0_partOfProduct 46 = .ok (.iload 4, 2) := by decide +kernel
theorem dX0_partOfProduct_48 : decode cX0_partOfProduct 48 = .ok (.ifCond .ge 11, 3) := by decide +kernel
theorem dX0_partOfProduct_51 : decode cX0_partOfProduct 51 = .ok (.iload 4, 2) := by decide +kernel
theorem dX0_partOfProduct_53 : decode cX0_partOfProduct 53 = .ok (.invokestatic 124, 3) := by decide +kernel
theorem dX0_partOfProduct_56 : decode cX0_partOfProduct 56 = .ok (.goto 12, 3) := by decide +kernel
theorem dX0_partOfProduct_59 : decode cX0_partOfProduct 59 = .ok (.aload_n 0, 1) := by decide +kernel
theorem dX0_partOfProduct_60 : decode cX0_partOfProduct 60 = .ok (.iload_n 3, 1) := by decide +kernel
theorem dX0_partOfProduct_61 : decode cX0_partOfProduct 61 = .ok (.iload_n 3, 1) := by decide +kernel
theorem dX0_partOfProduct_62 : decode cX0_partOfProduct 62 = .ok (.invokestatic 113, 3) := by decide +kernel
theorem dX0_partOfProduct_65 : decode cX0_partOfProduct 65 = .ok (.invokevirtual 109, 3) := by decide +kernel
theorem dX0_partOfProduct_68 : decode cX0_partOfProduct 68 = .ok (.lreturn, 1) := by decide +kernel
theorem dX0_partOfLeft_0 : decode cX0_partOfLeft 0 = .ok (.iload_n 1, 1) := by decide +kernel
theorem dX0_partOfLeft_1 : decode cX0_partOfLeft 1 = .ok (.istore_n 3, 1) := by decide +kernel
theorem dX0_partOfLeft_2 : decode cX0_partOfLeft 2 = .ok (.iload_n 3, 1) := by decide +kernel
theorem dX0_partOfLeft_3 : decode cX0_partOfLeft 3 = .ok (.iload_n 2, 1) := by decide +kernel
theorem dX0_partOfLeft_4 : decode cX0_partOfLeft 4 = .ok (.iconst 1, 1) := by decide +kernel
theorem dX0_partOfLeft_5 : decode cX0_partOfLeft 5 = .ok (.invokestatic 85, 3) := by decide +kernel
theorem dX0_partOfLeft_8 : decode cX0_partOfLeft 8 = .ok (.istore 4, 2) := by decide +kernel
theorem dX0_partOfLeft_10 : decode cX0_partOfLeft 10 = .ok (.iconst 0, 1) := by decide +kernel
theorem dX0_partOfLeft_11 : decode cX0_partOfLeft 11 = .ok (.istore 5, 2) := by decide +kernel
theorem dX0_partOfLeft_13 : decode cX0_partOfLeft 13 = .ok (.iload 4, 2) := by decide +kernel
theorem dX0_partOfLeft_15 : decode cX0_partOfLeft 15 = .ok (.ifCond .le 63, 3) := by decide +kernel
theorem dX0_partOfLeft_18 : decode cX0_partOfLeft 18 = .ok (.iload 5, 2) := by decide +kernel
theorem dX0_partOfLeft_20 : decode cX0_partOfLeft 20 = .ok (.bipush 10, 2) := by decide +kernel
theorem dX0_partOfLeft_22 : decode cX0_partOfLeft 22 = .ok (.if_icmp .ge 56, 3) := by decide +kernel
theorem dX0_partOfLeft_25 : decode cX0_partOfLeft 25 = .ok (.aload_n 0, 1) := by decide +kernel
theorem dX0_partOfLeft_26 : decode cX0_partOfLeft 26 = .ok (.aload_n 0, 1) := by decide +kernel
theorem dX0_partOfLeft_27 : decode cX0_partOfLeft 27 = .ok (.getfield 21, 3) := by decide +kernel
theorem dX0_partOfLeft_30 : decode cX0_partOfLeft 30 = .ok (.aload_n 0, 1) := by decide +kernel
theorem dX0_partOfLeft_31 : decode cX0_partOfLeft 31 = .ok (.getfield 21, 3) := by decide +kernel
theorem dX0_partOfLeft_34 : decode cX0_partOfLeft 34 = .ok (.iload 4, 2) := by decide +kernel
theorem dX0_partOfLeft_36 : decode cX0_partOfLeft 36 = .ok (.invokevirtual 101, 3) := by decide +kernel
theorem dX0_partOfLeft_39 : decode cX0_partOfLeft 39 = .ok (.istore 6, 2) := by decide +kernel
theorem dX0_partOfLeft_41 : decode cX0_partOfLeft 41 = .ok (.iload 6, 2) := by decide +kernel
theorem dX0_partOfLeft_43 : decode cX0_partOfLeft 43 = .ok (.ifCond .ge 9, 3) := by decide +kernel
theorem dX0_partOfLeft_46 : decode cX0_partOfLeft 46 = .ok (.iload 6, 2) := by decide +kernel
theorem dX0_partOfLeft_48 : decode cX0_partOfLeft 48 = .ok (.invokestatic 124, 3) := by decide +kernel
theorem dX0_partOfLeft_51 : decode cX0_partOfLeft 51 = .ok (.lreturn, 1) := by decide +kernel
theorem dX0_partOfLeft_52 : decode cX0_partOfLeft 52 = .ok (.iload_n 3, 1) := by decide +kernel
theorem dX0_partOfLeft_53 : decode cX0_partOfLeft 53 = .ok (.iload_n 2, 1) := by decide +kernel
theorem dX0_partOfLeft_54 : decode cX0_partOfLeft 54 = .ok (.iload 4, 2) := by decide +kernel
theorem dX0_partOfLeft_56 : decode cX0_partOfLeft 56 = .ok (.iload 4, 2) := by decide +kernel
theorem dX0_partOfLeft_58 : decode cX0_partOfLeft 58 = .ok (.iconst 1, 1) := by decide +kernel
theorem dX0_partOfLeft_59 : decode cX0_partOfLeft 59 = .ok (.iadd, 1) := by decide +kernel
theorem dX0_partOfLeft_60 : decode cX0_partOfLeft 60 = .ok (.invokestatic 58, 3) := by decide +kernel
theorem dX0_partOfLeft_63 : decode cX0_partOfLeft 63 = .ok (.istore_n 3, 1) := by decide +kernel
theorem dX0_partOfLeft_64 : decode cX0_partOfLeft 64 = .ok (.iload_n 3, 1) := by decide +kernel
theorem dX0_partOfLeft_65 : decode cX0_partOfLeft 65 = .ok (.iload_n 2, 1) := by decide +kernel
theorem dX0_partOfLeft_66 : decode cX0_partOfLeft 66 = .ok (.iconst 1, 1) := by decide +kernel
theorem dX0_partOfLeft_67 : decode cX0_partOfLeft 67 = .ok (.invokestatic 85, 3) := by decide +kernel
theorem dX0_partOfLeft_70 : decode cX0_partOfLeft 70 = .ok (.istore 4, 2) := by decide +kernel
theorem dX0_partOfLeft_72 : decode cX0_partOfLeft 72 = .ok (.iinc 5 1, 3) := by decide +kernel
theorem dX0_partOfLeft_75 : decode cX0_partOfLeft 75 = .ok (.goto (-62), 3) := by decide +kernel
theorem dX0_partOfLeft_78 : decode cX0_partOfLeft 78 = .ok (.aload_n 0, 1) := by decide +kernel
theorem dX0_partOfLeft_79 : decode cX0_partOfLeft 79 = .ok (.getfield 21, 3) := by decide +kernel
theorem dX0_partOfLeft_82 : decode cX0_partOfLeft 82 = .ok (.iconst 0, 1) := by decide +kernel
theorem dX0_partOfLeft_83 : decode cX0_partOfLeft 83 = .ok (.invokevirtual 128, 3) := by decide +kernel
theorem dX0_partOfLeft_86 : decode cX0_partOfLeft 86 = .ok (.i2l, 1) := by decide +kernel
theorem dX0_partOfLeft_87 : decode cX0_partOfLeft 87 = .ok (.lreturn, 1) := by decide +kernel
theorem dX1_isShape_0 : decode cX1_isShape 0 = .ok (.iload_n 0, 1) := by decide +kernel
theorem dX1_isShape_1 : decode cX1_isShape 1 = .ok (.iconst 1, 1) := by decide +kernel
theorem dX1_isShape_2 : decode cX1_isShape 2 = .ok (.if_icmp .lt 22, 3) := by decide +kernel
theorem dX1_isShape_5 : decode cX1_isShape 5 = .ok (.iload_n 0, 1) := by decide +kernel
theorem dX1_isShape_6 : decode cX1_isShape 6 = .ok (.iconst 4, 1) := by decide +kernel
theorem dX1_isShape_7 : decode cX1_isShape 7 = .ok (.if_icmp .gt 17, 3) := by decide +kernel
theorem dX1_isShape_10 : decode cX1_isShape 10 = .ok (.iload_n 1, 1) := by decide +kernel
theorem dX1_isShape_11 : decode cX1_isShape 11 = .ok (.iconst 1, 1) := by decide +kernel
theorem dX1_isShape_12 : decode cX1_isShape 12 = .ok (.if_icmp .lt 12, 3) := by decide +kernel
theorem dX1_isShape_15 : decode cX1_isShape 15 = .ok (.iload_n 1, 1) := by decide +kernel
theorem dX1_isShape_16 : decode cX1_isShape 16 = .ok (.iconst 4, 1) := by decide +kernel
theorem dX1_isShape_17 : decode cX1_isShape 17 = .ok (.if_icmp .gt 7, 3) := by decide +kernel
theorem dX1_isShape_20 : decode cX1_isShape 20 = .ok (.iconst 1, 1) := by decide +kernel
theorem dX1_isShape_21 : decode cX1_isShape 21 = .ok (.goto 4, 3) := by decide +kernel
theorem dX1_isShape_24 : decode cX1_isShape 24 = .ok (.iconst 0, 1) := by decide +kernel
theorem dX1_isShape_25 : decode cX1_isShape 25 = .ok (.ireturn, 1) := by decide +kernel
theorem dX1_isBox_0 : decode cX1_isBox 0 = .ok (.iload_n 0, 1) := by decide +kernel
theorem dX1_isBox_1 : decode cX1_isBox 1 = .ok (.iload_n 1, 1) := by decide +kernel
theorem dX1_isBox_2 : decode cX1_isBox 2 = .ok (.invokestatic 9, 3) := by decide +kernel
theorem dX1_isBox_5 : decode cX1_isBox 5 = .ok (.ifCond .eq 17, 3) := by decide +kernel
theorem dX1_isBox_8 : decode cX1_isBox 8 = .ok (.iload_n 2, 1) := by decide +kernel
theorem dX1_isBox_9 : decode cX1_isBox 9 = .ok (.ifCond .lt 13, 3) := by decide +kernel
theorem dX1_isBox_12 : decode cX1_isBox 12 = .ok (.iload_n 2, 1) := by decide +kernel
theorem dX1_isBox_13 : decode cX1_isBox 13 = .ok (.bipush 10, 2) := by decide +kernel
theorem dX1_isBox_15 : decode cX1_isBox 15 = .ok (.iload_n 0, 1) := by decide +kernel
theorem dX1_isBox_16 : decode cX1_isBox 16 = .ok (.invokestatic 15, 3) := by decide +kernel
theorem dX1_isBox_19 : decode cX1_isBox 19 = .ok (.if_icmp .lt 5, 3) := by decide +kernel
theorem dX1_isBox_22 : decode cX1_isBox 22 = .ok (.iconst 0, 1) := by decide +kernel
theorem dX1_isBox_23 : decode cX1_isBox 23 = .ok (.ireturn, 1) := by decide +kernel
theorem dX1_isBox_24 : decode cX1_isBox 24 = .ok (.iload_n 1, 1) := by decide +kernel
theorem dX1_isBox_25 : decode cX1_isBox 25 = .ok (.istore_n 3, 1) := by decide +kernel
theorem dX1_isBox_26 : decode cX1_isBox 26 = .ok (.iconst 1, 1) := by decide +kernel
theorem dX1_isBox_27 : decode cX1_isBox 27 = .ok (.istore 4, 2) := by decide +kernel
theorem dX1_isBox_29 : decode cX1_isBox 29 = .ok (.iload 4, 2) := by decide +kernel
theorem dX1_isBox_31 : decode cX1_isBox 31 = .ok (.iload_n 0, 1) := by decide +kernel
theorem dX1_isBox_32 : decode cX1_isBox 32 = .ok (.if_icmp .gt 29, 3) := by decide +kernel
theorem dX1_isBox_35 : decode cX1_isBox 35 = .ok (.iload_n 0, 1) := by decide +kernel
theorem dX1_isBox_36 : decode cX1_isBox 36 = .ok (.iload_n 2, 1) := by decide +kernel
theorem dX1_isBox_37 : decode cX1_isBox 37 = .ok (.iload 4, 2) := by decide +kernel
theorem dX1_isBox_39 : decode cX1_isBox 39 = .ok (.invokestatic 21, 3) := by decide +kernel
theorem dX1_isBox_42 : decode cX1_isBox 42 = .ok (.istore 5, 2) := by decide +kernel
theorem dX1_isBox_44 : decode cX1_isBox 44 = .ok (.iload 5, 2) := by decide +kernel
theorem dX1_isBox_46 : decode cX1_isBox 46 = .ok (.iload_n 3, 1) := by decide +kernel
theorem dX1_isBox_47 : decode cX1_isBox 47 = .ok (.if_icmp .le 5, 3) := by decide +kernel
theorem dX1_isBox_50 : decode cX1_isBox 50 = .ok (.iconst 0, 1) := by decide +kernel
theorem dX1_isBox_51 : decode cX1_isBox 51 = .ok (.ireturn, 1) := by decide +kernel
theorem dX1_isBox_52 : decode cX1_isBox 52 = .ok (.iload 5, 2) := by decide +kernel
theorem dX1_isBox_54 : decode cX1_isBox 54 = .ok (.istore_n 3, 1) := by decide +kernel
theorem dX1_isBox_55 : decode cX1_isBox 55 = .ok (.iinc 4 1, 3) := by decide +kernel
theorem dX1_isBox_58 : decode cX1_isBox 58 = .ok (.goto (-29), 3) := by decide +kernel
theorem dX1_isBox_61 : decode cX1_isBox 61 = .ok (.iconst 1, 1) := by decide +kernel
theorem dX1_isBox_62 : decode cX1_isBox 62 = .ok (.ireturn, 1) := by decide +kernel
theorem dX1_figure_0 : decode cX1_figure 0 = .ok (.iload_n 1, 1) := by decide +kernel
theorem dX1_figure_1 : decode cX1_figure 1 = .ok (.iload_n 0, 1) := by decide +kernel
theorem dX1_figure_2 : decode cX1_figure 2 = .ok (.iload_n 2, 1) := by decide +kernel
theorem dX1_figure_3 : decode cX1_figure 3 = .ok (.isub, 1) := by decide +kernel
theorem dX1_figure_4 : decode cX1_figure 4 = .ok (.invokestatic 25, 3) := by decide +kernel
theorem dX1_figure_7 : decode cX1_figure 7 = .ok (.ireturn, 1) := by decide +kernel
theorem dX1_places_0 : decode cX1_places 0 = .ok (.iconst 0, 1) := by decide +kernel
theorem dX1_places_1 : decode cX1_places 1 = .ok (.istore_n 2, 1) := by decide +kernel
theorem dX1_places_2 : decode cX1_places 2 = .ok (.iconst 1, 1) := by decide +kernel
theorem dX1_places_3 : decode cX1_places 3 = .ok (.istore_n 3, 1) := by decide +kernel
theorem dX1_places_4 : decode cX1_places 4 = .ok (.iload_n 3, 1) := by decide +kernel
theorem dX1_places_5 : decode cX1_places 5 = .ok (.iload_n 0, 1) := by decide +kernel
theorem dX1_places_6 : decode cX1_places 6 = .ok (.if_icmp .gt 18, 3) := by decide +kernel
theorem dX1_places_9 : decode cX1_places 9 = .ok (.iload_n 2, 1) := by decide +kernel
theorem dX1_places_10 : decode cX1_places 10 = .ok (.iload_n 0, 1) := by decide +kernel
theorem dX1_places_11 : decode cX1_places 11 = .ok (.iload_n 1, 1) := by decide +kernel
theorem dX1_places_12 : decode cX1_places 12 = .ok (.iload_n 3, 1) := by decide +kernel
theorem dX1_places_13 : decode cX1_places 13 = .ok (.invokestatic 21, 3) := by decide +kernel
theorem dX1_places_16 : decode cX1_places 16 = .ok (.iadd, 1) := by decide +kernel
theorem dX1_places_17 : decode cX1_places 17 = .ok (.istore_n 2, 1) := by decide +kernel
theorem dX1_places_18 : decode cX1_places 18 = .ok (.iinc 3 1, 3) := by decide +kernel
theorem dX1_places_21 : decode cX1_places 21 = .ok (.goto (-17), 3) := by decide +kernel
theorem dX1_places_24 : decode cX1_places 24 = .ok (.iload_n 2, 1) := by decide +kernel
theorem dX1_places_25 : decode cX1_places 25 = .ok (.ireturn, 1) := by decide +kernel
theorem dX1_stripAt_0 : decode cX1_stripAt 0 = .ok (.iload 4, 2) := by decide +kernel
theorem dX1_stripAt_2 : decode cX1_stripAt 2 = .ok (.ifCond .lt 16, 3) := by decide +kernel
theorem dX1_stripAt_5 : decode cX1_stripAt 5 = .ok (.iload 4, 2) := by decide +kernel
theorem dX1_stripAt_7 : decode cX1_stripAt 7 = .ok (.iload_n 0, 1) := by decide +kernel
theorem dX1_stripAt_8 : decode cX1_stripAt 8 = .ok (.iload_n 1, 1) := by decide +kernel
theorem dX1_stripAt_9 : decode cX1_stripAt 9 = .ok (.iload_n 2, 1) := by decide +kernel
theorem dX1_stripAt_10 : decode cX1_stripAt 10 = .ok (.iload_n 3, 1) := by decide +kernel
theorem dX1_stripAt_11 : decode cX1_stripAt 11 = .ok (.iconst 1, 1) := by decide +kernel
theorem dX1_stripAt_12 : decode cX1_stripAt 12 = .ok (.invokestatic 28, 3) := by decide +kernel
theorem dX1_stripAt_15 : decode cX1_stripAt 15 = .ok (.if_icmp .lt 5, 3) := by decide +kernel
theorem dX1_stripAt_18 : decode cX1_stripAt 18 = .ok (.iconst (-1), 1) := by decide +kernel
theorem dX1_stripAt_19 : decode cX1_stripAt 19 = .ok (.ireturn, 1) := by decide +kernel
theorem dX1_stripAt_20 : decode cX1_stripAt 20 = .ok (.iload 4, 2) := by decide +kernel
theorem dX1_stripAt_22 : decode cX1_stripAt 22 = .ok (.istore 5, 2) := by decide +kernel
theorem dX1_stripAt_24 : decode cX1_stripAt 24 = .ok (.iload_n 3, 1) := by decide +kernel
theorem dX1_stripAt_25 : decode cX1_stripAt 25 = .ok (.istore 6, 2) := by decide +kernel
theorem dX1_stripAt_27 : decode cX1_stripAt 27 = .ok (.iconst 0, 1) := by decide +kernel
theorem dX1_stripAt_28 : decode cX1_stripAt 28 = .ok (.istore 7, 2) := by decide +kernel
theorem dX1_stripAt_30 : decode cX1_stripAt 30 = .ok (.iconst 1, 1) := by decide +kernel
theorem dX1_stripAt_31 : decode cX1_stripAt 31 = .ok (.istore 8, 2) := by decide +kernel
theorem dX1_stripAt_33 : decode cX1_stripAt 33 = .ok (.iload 8, 2) := by decide +kernel
theorem dX1_stripAt_35 : decode cX1_stripAt 35 = .ok (.iload_n 0, 1) := by decide +kernel
theorem dX1_stripAt_36 : decode cX1_stripAt 36 = .ok (.if_icmp .gt 110, 3) := by decide +kernel
theorem dX1_stripAt_39 : decode cX1_stripAt 39 = .ok (.iconst 0, 1) := by decide +kernel
theorem dX1_stripAt_40 : decode cX1_stripAt 40 = .ok (.istore 9, 2) := by decide +kernel
theorem dX1_stripAt_42 : decode cX1_stripAt 42 = .ok (.iload_n 0, 1) := by decide +kernel
theorem dX1_stripAt_43 : decode cX1_stripAt 43 = .ok (.iload_n 1, 1) := by decide +kernel
theorem dX1_stripAt_44 : decode cX1_stripAt 44 = .ok (.iload_n 2, 1) := by decide +kernel
theorem dX1_stripAt_45 : decode cX1_stripAt 45 = .ok (.iload 8, 2) := by decide +kernel
theorem dX1_stripAt_47 : decode cX1_stripAt 47 = .ok (.invokestatic 32, 3) := by decide +kernel
theorem dX1_stripAt_50 : decode cX1_stripAt 50 = .ok (.iload 6, 2) := by decide +kernel
theorem dX1_stripAt_52 : decode cX1_stripAt 52 = .ok (.invokestatic 36, 3) := by decide +kernel
theorem dX1_stripAt_55 : decode cX1_stripAt 55 = .ok (.istore 10, 2) := by decide +kernel
theorem dX1_stripAt_57 : decode cX1_stripAt 57 = .ok (.iload_n 0, 1) := by decide +kernel
theorem dX1_stripAt_58 : decode cX1_stripAt 58 = .ok (.iload_n 1, 1) := by decide +kernel
theorem dX1_stripAt_59 : decode cX1_stripAt 59 = .ok (.iload_n 2, 1) := by decide +kernel
theorem dX1_stripAt_60 : decode cX1_stripAt 60 = .ok (.iload 6, 2) := by decide +kernel
theorem dX1_stripAt_62 : decode cX1_stripAt 62 = .ok (.iload 8, 2) := by decide +kernel
theorem dX1_stripAt_64 : decode cX1_stripAt 64 = .ok (.iconst 1, 1) := by decide +kernel
theorem dX1_stripAt_65 : decode cX1_stripAt 65 = .ok (.iadd, 1) := by decide +kernel
theorem dX1_stripAt_66 : decode cX1_stripAt 66 = .ok (.invokestatic 28, 3) := by decide +kernel
theorem dX1_stripAt_69 : decode cX1_stripAt 69 = .ok (.istore 11, 2) := by decide +kernel
theorem dX1_stripAt_71 : decode cX1_stripAt 71 = .ok (.iload 9, 2) := by decide +kernel
theorem dX1_stripAt_73 : decode cX1_stripAt 73 = .ok (.iload 10, 2) := by decide +kernel
theorem dX1_stripAt_75 : decode cX1_stripAt 75 = .ok (.if_icmp .ge 40, 3) := by decide +kernel
theorem dX1_stripAt_78 : decode cX1_stripAt 78 = .ok (.iload 5, 2) := by decide +kernel
theorem dX1_stripAt_80 : decode cX1_stripAt 80 = .ok (.iload 11, 2) := by decide +kernel
theorem dX1_stripAt_82 : decode cX1_stripAt 82 = .ok (.if_icmp .lt 33, 3) := by decide +kernel
theorem dX1_stripAt_85 : decode cX1_stripAt 85 = .ok (.iload 5, 2) := by decide +kernel
theorem dX1_stripAt_87 : decode cX1_stripAt 87 = .ok (.iload 11, 2) := by decide +kernel
theorem dX1_stripAt_89 : decode cX1_stripAt 89 = .ok (.isub, 1) := by decide +kernel
theorem dX1_stripAt_90 : decode cX1_stripAt 90 = .ok (.istore 5, 2) := by decide +kernel
theorem dX1_stripAt_92 : decode cX1_stripAt 92 = .ok (.iinc 9 1, 3) := by decide +kernel
theorem dX1_stripAt_95 : decode cX1_stripAt 95 = .ok (.iload_n 0, 1) := by decide +kernel
theorem dX1_stripAt_96 : decode cX1_stripAt 96 = .ok (.iload_n 1, 1) := by decide +kernel
theorem dX1_stripAt_97 : decode cX1_stripAt 97 = .ok (.iload_n 2, 1) := by decide +kernel
theorem dX1_stripAt_98 : decode cX1_stripAt 98 = .ok (.iload 6, 2) := by decide +kernel
theorem dX1_stripAt_100 : decode cX1_stripAt 100 = .ok (.iload 9, 2) := by decide +kernel
theorem dX1_stripAt_102 : decode cX1_stripAt 102 = .ok (.isub, 1) := by decide +kernel
theorem dX1_stripAt_103 : decode cX1_stripAt 103 = .ok (.iload 8, 2) := by decide +kernel
theorem dX1_stripAt_105 : decode cX1_stripAt 105 = .ok (.iconst 1, 1) := by decide +kernel
theorem dX1_stripAt_106 : decode cX1_stripAt 106 = .ok (.iadd, 1) := by decide +kernel
theorem dX1_stripAt_107 : decode cX1_stripAt 107 = .ok (.invokestatic 28, 3) := by decide +kernel
theorem dX1_stripAt_110 : decode cX1_stripAt 110 = .ok (.istore 11, 2) := by decide +kernel
theorem dX1_stripAt_112 : decode cX1_stripAt 112 = .ok (.goto (-41), 3) := by decide +kernel
theorem dX1_stripAt_115 : decode cX1_stripAt 115 = .ok (.iload 6, 2) := by decide +kernel
theorem dX1_stripAt_117 : decode cX1_stripAt 117 = .ok (.iload 9, 2) := by decide +kernel
theorem dX1_stripAt_119 : decode cX1_stripAt 119 = .ok (.isub, 1) := by decide +kernel
theorem dX1_stripAt_120 : decode cX1_stripAt 120 = .ok (.istore 6, 2) := by decide +kernel
theorem dX1_stripAt_122 : decode cX1_stripAt 122 = .ok (.iload 7, 2) := by decide +kernel
theorem dX1_stripAt_124 : decode cX1_stripAt 124 = .ok (.bipush 10, 2) := by decide +kernel
theorem dX1_stripAt_126 : decode cX1_stripAt 126 = .ok (.imul, 1) := by decide +kernel
theorem dX1_stripAt_127 : decode cX1_stripAt 127 = .ok (.iload_n 0, 1) := by decide +kernel
theorem dX1_stripAt_128 : decode cX1_stripAt 128 = .ok (.iload_n 2, 1) := by decide +kernel
theorem dX1_stripAt_129 : decode cX1_stripAt 129 = .ok (.iload 8, 2) := by decide +kernel
theorem dX1_stripAt_131 : decode cX1_stripAt 131 = .ok (.invokestatic 21, 3) := by decide +kernel
theorem dX1_stripAt_134 : decode cX1_stripAt 134 = .ok (.iadd, 1) := by decide +kernel
theorem dX1_stripAt_135 : decode cX1_stripAt 135 = .ok (.iload 9, 2) := by decide +kernel
theorem dX1_stripAt_137 : decode cX1_stripAt 137 = .ok (.iadd, 1) := by decide +kernel
theorem dX1_stripAt_138 : decode cX1_stripAt 138 = .ok (.istore 7, 2) := by decide +kernel
theorem dX1_stripAt_140 : decode cX1_stripAt 140 = .ok (.iinc 8 1, 3) := by decide +kernel
theorem dX1_stripAt_143 : decode cX1_stripAt 143 = .ok (.goto (-110), 3) := by decide +kernel
theorem dX1_stripAt_146 : decode cX1_stripAt 146 = .ok (.iload 7, 2) := by decide +kernel
theorem dX1_stripAt_148 : decode cX1_stripAt 148 = .ok (.ireturn, 1) := by decide +kernel
theorem dX1_room_0 : decode cX1_room 0 = .ok (.iload_n 3, 1) := by decide +kernel
theorem dX1_room_1 : decode cX1_room 1 = .ok (.iconst 1, 1) := by decide +kernel
theorem dX1_room_2 : decode cX1_room 2 = .ok (.if_icmp .ne 7, 3) := by decide +kernel
theorem dX1_room_5 : decode cX1_room 5 = .ok (.iload_n 1, 1) := by decide +kernel
theorem dX1_room_6 : decode cX1_room 6 = .ok (.goto 11, 3) := by decide +kernel
theorem dX1_room_9 : decode cX1_room 9 = .ok (.iload_n 0, 1) := by decide +kernel
theorem dX1_room_10 : decode cX1_room 10 = .ok (.iload_n 2, 1) := by decide +kernel
theorem dX1_room_11 : decode cX1_room 11 = .ok (.iload_n 3, 1) := by decide +kernel
theorem dX1_room_12 : decode cX1_room 12 = .ok (.iconst 1, 1) := by decide +kernel
theorem dX1_room_13 : decode cX1_room 13 = .ok (.isub, 1) := by decide +kernel
theorem dX1_room_14 : decode cX1_room 14 = .ok (.invokestatic 21, 3) := by decide +kernel
theorem dX1_room_17 : decode cX1_room 17 = .ok (.iload_n 0, 1) := by decide +kernel
theorem dX1_room_18 : decode cX1_room 18 = .ok (.iload_n 2, 1) := by decide +kernel
theorem dX1_room_19 : decode cX1_room 19 = .ok (.iload_n 3, 1) := by decide +kernel
theorem dX1_room_20 : decode cX1_room 20 = .ok (.invokestatic 21, 3) := by decide +kernel
theorem dX1_room_23 : decode cX1_room 23 = .ok (.isub, 1) := by decide +kernel
theorem dX1_room_24 : decode cX1_room 24 = .ok (.ireturn, 1) := by decide +kernel
theorem dX1_strips_0 : decode cX1_strips 0 = .ok (.iload 4, 2) := by decide +kernel
theorem dX1_strips_2 : decode cX1_strips 2 = .ok (.iload_n 0, 1) := by decide +kernel
theorem dX1_strips_3 : decode cX1_strips 3 = .ok (.if_icmp .le 13, 3) := by decide +kernel
theorem dX1_strips_6 : decode cX1_strips 6 = .ok (.iload_n 3, 1) := by decide +kernel
theorem dX1_strips_7 : decode cX1_strips 7 = .ok (.ifCond .ne 7, 3) := by decide +kernel
theorem dX1_strips_10 : decode cX1_strips 10 = .ok (.iconst 1, 1) := by decide +kernel
theorem dX1_strips_11 : decode cX1_strips 11 = .ok (.goto 4, 3) := by decide +kernel
theorem dX1_strips_14 : decode cX1_strips 14 = .ok (.iconst 0, 1) := by decide +kernel
theorem dX1_strips_15 : decode cX1_strips 15 = .ok (.ireturn, 1) := by decide +kernel
theorem dX1_strips_16 : decode cX1_strips 16 = .ok (.iconst 0, 1) := by decide +kernel
theorem dX1_strips_17 : decode cX1_strips 17 = .ok (.istore 5, 2) := by decide +kernel
theorem dX1_strips_19 : decode cX1_strips 19 = .ok (.iload_n 0, 1) := by decide +kernel
theorem dX1_strips_20 : decode cX1_strips 20 = .ok (.iload_n 1, 1) := by decide +kernel
theorem dX1_strips_21 : decode cX1_strips 21 = .ok (.iload_n 2, 1) := by decide +kernel
theorem dX1_strips_22 : decode cX1_strips 22 = .ok (.iload 4, 2) := by decide +kernel
theorem dX1_strips_24 : decode cX1_strips 24 = .ok (.invokestatic 32, 3) := by decide +kernel
theorem dX1_strips_27 : decode cX1_strips 27 = .ok (.iload_n 3, 1) := by decide +kernel
theorem dX1_strips_28 : decode cX1_strips 28 = .ok (.invokestatic 36, 3) := by decide +kernel
theorem dX1_strips_31 : decode cX1_strips 31 = .ok (.istore 6, 2) := by decide +kernel
theorem dX1_strips_33 : decode cX1_strips 33 = .ok (.iconst 0, 1) := by decide +kernel
theorem dX1_strips_34 : decode cX1_strips 34 = .ok (.istore 7, 2) := by decide +kernel
theorem dX1_strips_36 : decode cX1_strips 36 = .ok (.iload 7, 2) := by decide +kernel
theorem dX1_strips_38 : decode cX1_strips 38 = .ok (.iload 6, 2) := by decide +kernel
theorem dX1_strips_40 : decode cX1_strips 40 = .ok (.if_icmp .gt 28, 3) := by decide +kernel
theorem dX1_strips_43 : decode cX1_strips 43 = .ok (.iload 5, 2) := by decide +kernel
theorem dX1_strips_45 : decode cX1_strips 45 = .ok (.iload_n 0, 1) := by decide +kernel
theorem dX1_strips_46 : decode cX1_strips 46 = .ok (.iload_n 1, 1) := by decide +kernel
theorem dX1_strips_47 : decode cX1_strips 47 = .ok (.iload_n 2, 1) := by decide +kernel
theorem dX1_strips_48 : decode cX1_strips 48 = .ok (.iload_n 3, 1) := by decide +kernel
theorem dX1_strips_49 : decode cX1_strips 49 = .ok (.iload 7, 2) := by decide +kernel
theorem dX1_strips_51 : decode cX1_strips 51 = .ok (.isub, 1) := by decide +kernel
theorem dX1_strips_52 : decode cX1_strips 52 = .ok (.iload 4, 2) := by decide +kernel
theorem dX1_strips_54 : decode cX1_strips 54 = .ok (.iconst 1, 1) := by decide +kernel
theorem dX1_strips_55 : decode cX1_strips 55 = .ok (.iadd, 1) := by decide +kernel
theorem dX1_strips_56 : decode cX1_strips 56 = .ok (.invokestatic 28, 3) := by decide +kernel
theorem dX1_strips_59 : decode cX1_strips 59 = .ok (.iadd, 1) := by decide +kernel
theorem dX1_strips_60 : decode cX1_strips 60 = .ok (.istore 5, 2) := by decide +kernel
theorem dX1_strips_62 : decode cX1_strips 62 = .ok (.iinc 7 1, 3) := by decide +kernel
theorem dX1_strips_65 : decode cX1_strips 65 = .ok (.goto (-29), 3) := by decide +kernel
theorem dX1_strips_68 : decode cX1_strips 68 = .ok (.iload 5, 2) := by decide +kernel
theorem dX1_strips_70 : decode cX1_strips 70 = .ok (.ireturn, 1) := by decide +kernel
theorem dX1_toOrder_0 : decode cX1_toOrder 0 = .ok (.iconst 0, 1) := by decide +kernel
theorem dX1_toOrder_1 : decode cX1_toOrder 1 = .ok (.istore_n 3, 1) := by decide +kernel
theorem dX1_toOrder_2 : decode cX1_toOrder 2 = .ok (.iconst 0, 1) := by decide +kernel
theorem dX1_toOrder_3 : decode cX1_toOrder 3 = .ok (.istore 4, 2) := by decide +kernel
theorem dX1_toOrder_5 : decode cX1_toOrder 5 = .ok (.iconst 1, 1) := by decide +kernel
theorem dX1_toOrder_6 : decode cX1_toOrder 6 = .ok (.istore 5, 2) := by decide +kernel
theorem dX1_toOrder_8 : decode cX1_toOrder 8 = .ok (.iload 5, 2) := by decide +kernel
theorem dX1_toOrder_10 : decode cX1_toOrder 10 = .ok (.iload_n 0, 1) := by decide +kernel
theorem dX1_toOrder_11 : decode cX1_toOrder 11 = .ok (.if_icmp .gt 42, 3) := by decide +kernel
theorem dX1_toOrder_14 : decode cX1_toOrder 14 = .ok (.iload 5, 2) := by decide +kernel
theorem dX1_toOrder_16 : decode cX1_toOrder 16 = .ok (.iload_n 0, 1) := by decide +kernel
theorem dX1_toOrder_17 : decode cX1_toOrder 17 = .ok (.iload_n 2, 1) := by decide +kernel
theorem dX1_toOrder_18 : decode cX1_toOrder 18 = .ok (.iload_n 0, 1) := by decide +kernel
theorem dX1_toOrder_19 : decode cX1_toOrder 19 = .ok (.iconst 1, 1) := by decide +kernel
theorem dX1_toOrder_20 : decode cX1_toOrder 20 = .ok (.iadd, 1) := by decide +kernel
theorem dX1_toOrder_21 : decode cX1_toOrder 21 = .ok (.iload 5, 2) := by decide +kernel
theorem dX1_toOrder_23 : decode cX1_toOrder 23 = .ok (.isub, 1) := by decide +kernel
theorem dX1_toOrder_24 : decode cX1_toOrder 24 = .ok (.invokestatic 21, 3) := by decide +kernel
theorem dX1_toOrder_27 : decode cX1_toOrder 27 = .ok (.iadd, 1) := by decide +kernel
theorem dX1_toOrder_28 : decode cX1_toOrder 28 = .ok (.istore 6, 2) := by decide +kernel
theorem dX1_toOrder_30 : decode cX1_toOrder 30 = .ok (.iload 4, 2) := by decide +kernel
theorem dX1_toOrder_32 : decode cX1_toOrder 32 = .ok (.iconst 1, 1) := by decide +kernel
theorem dX1_toOrder_33 : decode cX1_toOrder 33 = .ok (.iload 6, 2) := by decide +kernel
theorem dX1_toOrder_35 : decode cX1_toOrder 35 = .ok (.ishl, 1) := by decide +kernel
theorem dX1_toOrder_36 : decode cX1_toOrder 36 = .ok (.ior, 1) := by decide +kernel
theorem dX1_toOrder_37 : decode cX1_toOrder 37 = .ok (.istore 4, 2) := by decide +kernel
theorem dX1_toOrder_39 : decode cX1_toOrder 39 = .ok (.iload_n 3, 1) := by decide +kernel
theorem dX1_toOrder_40 : decode cX1_toOrder 40 = .ok (.bipush 10, 2) := by decide +kernel
theorem dX1_toOrder_42 : decode cX1_toOrder 42 = .ok (.imul, 1) := by decide +kernel
theorem dX1_toOrder_43 : decode cX1_toOrder 43 = .ok (.iload 6, 2) := by decide +kernel
theorem dX1_toOrder_45 : decode cX1_toOrder 45 = .ok (.iadd, 1) := by decide +kernel
theorem dX1_toOrder_46 : decode cX1_toOrder 46 = .ok (.istore_n 3, 1) := by decide +kernel
theorem dX1_toOrder_47 : decode cX1_toOrder 47 = .ok (.iinc 5 1, 3) := by decide +kernel
theorem dX1_toOrder_50 : decode cX1_toOrder 50 = .ok (.goto (-42), 3) := by decide +kernel
theorem dX1_toOrder_53 : decode cX1_toOrder 53 = .ok (.iconst 1, 1) := by decide +kernel
theorem dX1_toOrder_54 : decode cX1_toOrder 54 = .ok (.istore 5, 2) := by decide +kernel
theorem dX1_toOrder_56 : decode cX1_toOrder 56 = .ok (.iload 5, 2) := by decide +kernel
theorem dX1_toOrder_58 : decode cX1_toOrder 58 = .ok (.iload_n 0, 1) := by decide +kernel
theorem dX1_toOrder_59 : decode cX1_toOrder 59 = .ok (.iload_n 1, 1) := by decide +kernel
theorem dX1_toOrder_60 : decode cX1_toOrder 60 = .ok (.iadd, 1) := by decide +kernel
theorem dX1_toOrder_61 : decode cX1_toOrder 61 = .ok (.if_icmp .gt 27, 3) := by decide +kernel
theorem dX1_toOrder_64 : decode cX1_toOrder 64 = .ok (.iload 4, 2) := by decide +kernel
theorem dX1_toOrder_66 : decode cX1_toOrder 66 = .ok (.iload 5, 2) := by decide +kernel
theorem dX1_toOrder_68 : decode cX1_toOrder 68 = .ok (.ishr, 1) := by decide +kernel
theorem dX1_toOrder_69 : decode cX1_toOrder 69 = .ok (.iconst 1, 1) := by decide +kernel
theorem dX1_toOrder_70 : decode cX1_toOrder 70 = .ok (.iand, 1) := by decide +kernel
theorem dX1_toOrder_71 : decode cX1_toOrder 71 = .ok (.ifCond .ne 11, 3) := by decide +kernel
theorem dX1_toOrder_74 : decode cX1_toOrder 74 = .ok (.iload_n 3, 1) := by decide +kernel
theorem dX1_toOrder_75 : decode cX1_toOrder 75 = .ok (.bipush 10, 2) := by decide +kernel
theorem dX1_toOrder_77 : decode cX1_toOrder 77 = .ok (.imul, 1) := by decide +kernel
theorem dX1_toOrder_78 : decode cX1_toOrder 78 = .ok (.iload 5, 2) := by decide +kernel
theorem dX1_toOrder_80 : decode cX1_toOrder 80 = .ok (.iadd, 1) := by decide +kernel
theorem dX1_toOrder_81 : decode cX1_toOrder 81 = .ok (.istore_n 3, 1) := by decide +kernel
theorem dX1_toOrder_82 : decode cX1_toOrder 82 = .ok (.iinc 5 1, 3) := by decide +kernel
theorem dX1_toOrder_85 : decode cX1_toOrder 85 = .ok (.goto (-29), 3) := by decide +kernel
theorem dX1_toOrder_88 : decode cX1_toOrder 88 = .ok (.iload_n 3, 1) := by decide +kernel
theorem dX1_toOrder_89 : decode cX1_toOrder 89 = .ok (.ireturn, 1) := by decide +kernel
theorem dX1_gather_0 : decode cX1_gather 0 = .ok (.iload_n 2, 1) := by decide +kernel
theorem dX1_gather_1 : decode cX1_gather 1 = .ok (.ifCond .gt 24, 3) := by decide +kernel
theorem dX1_gather_4 : decode cX1_gather 4 = .ok (.iload_n 1, 1) := by decide +kernel
theorem dX1_gather_5 : decode cX1_gather 5 = .ok (.ifCond .lt 9, 3) := by decide +kernel
theorem dX1_gather_8 : decode cX1_gather 8 = .ok (.iload_n 1, 1) := by decide +kernel
theorem dX1_gather_9 : decode cX1_gather 9 = .ok (.aload_n 0, 1) := by decide +kernel
theorem dX1_gather_10 : decode cX1_gather 10 = .ok (.arraylength, 1) := by decide +kernel
theorem dX1_gather_11 : decode cX1_gather 11 = .ok (.if_icmp .lt 5, 3) := by decide +kernel
theorem dX1_gather_14 : decode cX1_gather 14 = .ok (.iload_n 1, 1) := by decide +kernel
theorem dX1_gather_15 : decode cX1_gather 15 = .ok (.ireturn, 1) := by decide +kernel
theorem dX1_gather_16 : decode cX1_gather 16 = .ok (.aload_n 0, 1) := by decide +kernel
theorem dX1_gather_17 : decode cX1_gather 17 = .ok (.iload_n 1, 1) := by decide +kernel
theorem dX1_gather_18 : decode cX1_gather 18 = .ok (.iload 4, 2) := by decide +kernel
theorem dX1_gather_20 : decode cX1_gather 20 = .ok (.iastore, 1) := by decide +kernel
theorem dX1_gather_21 : decode cX1_gather 21 = .ok (.iload_n 1, 1) := by decide +kernel
theorem dX1_gather_22 : decode cX1_gather 22 = .ok (.iconst 1, 1) := by decide +kernel
theorem dX1_gather_23 : decode cX1_gather 23 = .ok (.iadd, 1) := by decide +kernel
theorem dX1_gather_24 : decode cX1_gather 24 = .ok (.ireturn, 1) := by decide +kernel
theorem dX1_gather_25 : decode cX1_gather 25 = .ok (.iload_n 1, 1) := by decide +kernel
theorem dX1_gather_26 : decode cX1_gather 26 = .ok (.istore 5, 2) := by decide +kernel
theorem dX1_gather_28 : decode cX1_gather 28 = .ok (.iconst 0, 1) := by decide +kernel
theorem dX1_gather_29 : decode cX1_gather 29 = .ok (.istore 6, 2) := by decide +kernel
theorem dX1_gather_31 : decode cX1_gather 31 = .ok (.iload 6, 2) := by decide +kernel
theorem dX1_gather_33 : decode cX1_gather 33 = .ok (.iload_n 3, 1) := by decide +kernel
theorem dX1_gather_34 : decode cX1_gather 34 = .ok (.if_icmp .gt 30, 3) := by decide +kernel
theorem dX1_gather_37 : decode cX1_gather 37 = .ok (.aload_n 0, 1) := by decide +kernel
theorem dX1_gather_38 : decode cX1_gather 38 = .ok (.iload 5, 2) := by decide +kernel
theorem dX1_gather_40 : decode cX1_gather 40 = .ok (.iload_n 2, 1) := by decide +kernel
theorem dX1_gather_41 : decode cX1_gather 41 = .ok (.iconst 1, 1) := by decide +kernel
theorem dX1_gather_42 : decode cX1_gather 42 = .ok (.isub, 1) := by decide +kernel
theorem dX1_gather_43 : decode cX1_gather 43 = .ok (.iload 6, 2) := by decide +kernel
theorem dX1_gather_45 : decode cX1_gather 45 = .ok (.iload 4, 2) := by decide +kernel
theorem dX1_gather_47 : decode cX1_gather 47 = .ok (.bipush 10, 2) := by decide +kernel
theorem dX1_gather_49 : decode cX1_gather 49 = .ok (.imul, 1) := by decide +kernel
theorem dX1_gather_50 : decode cX1_gather 50 = .ok (.iload 6, 2) := by decide +kernel
theorem dX1_gather_52 : decode cX1_gather 52 = .ok (.iadd, 1) := by decide +kernel
theorem dX1_gather_53 : decode cX1_gather 53 = .ok (.invokestatic 41, 3) := by decide +kernel
theorem dX1_gather_56 : decode cX1_gather 56 = .ok (.istore 5, 2) := by decide +kernel
theorem dX1_gather_58 : decode cX1_gather 58 = .ok (.iinc 6 1, 3) := by decide +kernel
theorem dX1_gather_61 : decode cX1_gather 61 = .ok (.goto (-30), 3) := by decide +kernel
theorem dX1_gather_64 : decode cX1_gather 64 = .ok (.iload 5, 2) := by decide +kernel
theorem dX1_gather_66 : decode cX1_gather 66 = .ok (.ireturn, 1) := by decide +kernel
theorem dX2_init_0 : decode cX2_init 0 = .ok (.aload_n 0, 1) := by decide +kernel
theorem dX2_init_1 : decode cX2_init 1 = .ok (.invokespecial 3, 3) := by decide +kernel
theorem dX2_init_4 : decode cX2_init 4 = .ok (.aload_n 0, 1) := by decide +kernel
theorem dX2_init_5 : decode cX2_init 5 = .ok (.new 9, 3) := by decide +kernel
theorem dX2_init_8 : decode cX2_init 8 = .ok (.dup, 1) := by decide +kernel
theorem dX2_init_9 : decode cX2_init 9 = .ok (.invokespecial 11, 3) := by decide +kernel
theorem dX2_init_12 : decode cX2_init 12 = .ok (.putfield 12, 3) := by decide +kernel
theorem dX2_init_15 : decode cX2_init 15 = .ok (.aload_n 0, 1) := by decide +kernel
theorem dX2_init_16 : decode cX2_init 16 = .ok (.bipush 16, 2) := by decide +kernel
theorem dX2_init_18 : decode cX2_init 18 = .ok (.newarray .int, 2) := by decide +kernel
theorem dX2_init_20 : decode cX2_init 20 = .ok (.putfield 18, 3) := by decide +kernel
theorem dX2_init_23 : decode cX2_init 23 = .ok (.aload_n 0, 1) := by decide +kernel
theorem dX2_init_24 : decode cX2_init 24 = .ok (.bipush 70, 2) := by decide +kernel
theorem dX2_init_26 : decode cX2_init 26 = .ok (.newarray .int, 2) := by decide +kernel
theorem dX2_init_28 : decode cX2_init 28 = .ok (.putfield 22, 3) := by decide +kernel
theorem dX2_init_31 : decode cX2_init 31 = .ok (.aload_n 0, 1) := by decide +kernel
theorem dX2_init_32 : decode cX2_init 32 = .ok (.bipush 70, 2) := by decide +kernel
theorem dX2_init_34 : decode cX2_init 34 = .ok (.newarray .long, 2) := by decide +kernel
theorem dX2_init_36 : decode cX2_init 36 = .ok (.putfield 25, 3) := by decide +kernel
theorem dX2_init_39 : decode cX2_init 39 = .ok (.aload_n 0, 1) := by decide +kernel
theorem dX2_init_40 : decode cX2_init 40 = .ok (.bipush 70, 2) := by decide +kernel
theorem dX2_init_42 : decode cX2_init 42 = .ok (.newarray .long, 2) := by decide +kernel
theorem dX2_init_44 : decode cX2_init 44 = .ok (.putfield 29, 3) := by decide +kernel
theorem dX2_init_47 : decode cX2_init 47 = .ok (.aload_n 0, 1) := by decide +kernel
theorem dX2_init_48 : decode cX2_init 48 = .ok (.iconst 2, 1) := by decide +kernel
theorem dX2_init_49 : decode cX2_init 49 = .ok (.putfield 32, 3) := by decide +kernel
theorem dX2_init_52 : decode cX2_init 52 = .ok (.aload_n 0, 1) := by decide +kernel
theorem dX2_init_53 : decode cX2_init 53 = .ok (.iconst 2, 1) := by decide +kernel
theorem dX2_init_54 : decode cX2_init 54 = .ok (.putfield 36, 3) := by decide +kernel
theorem dX2_init_57 : decode cX2_init 57 = .ok (.aload_n 0, 1) := by decide +kernel
theorem dX2_init_58 : decode cX2_init 58 = .ok (.iconst 0, 1) := by decide +kernel
theorem dX2_init_59 : decode cX2_init 59 = .ok (.putfield 39, 3) := by decide +kernel
theorem dX2_init_62 : decode cX2_init 62 = .ok (.return_, 1) := by decide +kernel
theorem dX2_filler_0 : decode cX2_filler 0 = .ok (.aload_n 0, 1) := by decide +kernel
theorem dX2_filler_1 : decode cX2_filler 1 = .ok (.getfield 12, 3) := by decide +kernel
theorem dX2_filler_4 : decode cX2_filler 4 = .ok (.areturn, 1) := by decide +kernel
theorem dX2_rows_0 : decode cX2_rows 0 = .ok (.aload_n 0, 1) := by decide +kernel
theorem dX2_rows_1 : decode cX2_rows 1 = .ok (.getfield 32, 3) := by decide +kernel
theorem dX2_rows_4 : decode cX2_rows 4 = .ok (.ireturn, 1) := by decide +kernel
theorem dX2_columns_0 : decode cX2_columns 0 = .ok (.aload_n 0, 1) := by decide +kernel
theorem dX2_columns_1 : decode cX2_columns 1 = .ok (.getfield 36, 3) := by decide +kernel
theorem dX2_columns_4 : decode cX2_columns 4 = .ok (.ireturn, 1) := by decide +kernel
theorem dX2_size_0 : decode cX2_size 0 = .ok (.aload_n 0, 1) := by decide +kernel
theorem dX2_size_1 : decode cX2_size 1 = .ok (.getfield 39, 3) := by decide +kernel
theorem dX2_size_4 : decode cX2_size 4 = .ok (.ireturn, 1) := by decide +kernel
theorem dX2_restart_0 : decode cX2_restart 0 = .ok (.aload_n 0, 1) := by decide +kernel
theorem dX2_restart_1 : decode cX2_restart 1 = .ok (.getfield 39, 3) := by decide +kernel
theorem dX2_restart_4 : decode cX2_restart 4 = .ok (.istore_n 3, 1) := by decide +kernel
theorem dX2_restart_5 : decode cX2_restart 5 = .ok (.aload_n 0, 1) := by decide +kernel
theorem dX2_restart_6 : decode cX2_restart 6 = .ok (.iload_n 1, 1) := by decide +kernel
theorem dX2_restart_7 : decode cX2_restart 7 = .ok (.putfield 32, 3) := by decide +kernel
theorem dX2_restart_10 : decode cX2_restart 10 = .ok (.aload_n 0, 1) := by decide +kernel
theorem dX2_restart_11 : decode cX2_restart 11 = .ok (.iload_n 2, 1) := by decide +kernel
theorem dX2_restart_12 : decode cX2_restart 12 = .ok (.putfield 36, 3) := by decide +kernel
theorem dX2_restart_15 : decode cX2_restart 15 = .ok (.aload_n 0, 1) := by decide +kernel
theorem dX2_restart_16 : decode cX2_restart 16 = .ok (.iconst 0, 1) := by decide +kernel
theorem dX2_restart_17 : decode cX2_restart 17 = .ok (.putfield 39, 3) := by decide +kernel
theorem dX2_restart_20 : decode cX2_restart 20 = .ok (.iload_n 3, 1) := by decide +kernel
theorem dX2_restart_21 : decode cX2_restart 21 = .ok (.ireturn, 1) := by decide +kernel
theorem dX2_append_0 : decode cX2_append 0 = .ok (.aload_n 0, 1) := by decide +kernel
theorem dX2_append_1 : decode cX2_append 1 = .ok (.getfield 39, 3) := by decide +kernel
theorem dX2_append_4 : decode cX2_append 4 = .ok (.bipush 16, 2) := by decide +kernel
theorem dX2_append_6 : decode cX2_append 6 = .ok (.if_icmp .lt 6, 3) := by decide +kernel
theorem dX2_append_9 : decode cX2_append 9 = .ok (.bipush (-7), 2) := by decide +kernel
theorem dX2_append_11 : decode cX2_append 11 = .ok (.ireturn, 1) := by decide +kernel
theorem dX2_append_12 : decode cX2_append 12 = .ok (.aload_n 0, 1) := by decide +kernel
theorem dX2_append_13 : decode cX2_append 13 = .ok (.getfield 18, 3) := by decide +kernel
theorem dX2_append_16 : decode cX2_append 16 = .ok (.aload_n 0, 1) := by decide +kernel
theorem dX2_append_17 : decode cX2_append 17 = .ok (.getfield 39, 3) := by decide +kernel
theorem dX2_append_20 : decode cX2_append 20 = .ok (.iload_n 1, 1) := by decide +kernel
theorem dX2_append_21 : decode cX2_append 21 = .ok (.iastore, 1) := by decide +kernel
theorem dX2_append_22 : decode cX2_append 22 = .ok (.aload_n 0, 1) := by decide +kernel
theorem dX2_append_23 : decode cX2_append 23 = .ok (.dup, 1) := by decide +kernel
theorem dX2_append_24 : decode cX2_append 24 = .ok (.getfield 39, 3) := by decide +kernel
theorem dX2_append_27 : decode cX2_append 27 = .ok (.iconst 1, 1) := by decide +kernel
theorem dX2_append_28 : decode cX2_append 28 = .ok (.iadd, 1) := by decide +kernel
theorem dX2_append_29 : decode cX2_append 29 = .ok (.putfield 39, 3) := by decide +kernel
theorem dX2_append_32 : decode cX2_append 32 = .ok (.aload_n 0, 1) := by decide +kernel
theorem dX2_append_33 : decode cX2_append 33 = .ok (.getfield 39, 3) := by decide +kernel
theorem dX2_append_36 : decode cX2_append 36 = .ok (.ireturn, 1) := by decide +kernel
theorem dX2_total_0 : decode cX2_total 0 = .ok (.aload_n 0, 1) := by decide +kernel
theorem dX2_total_1 : decode cX2_total 1 = .ok (.getfield 22, 3) := by decide +kernel
theorem dX2_total_4 : decode cX2_total 4 = .ok (.iconst 0, 1) := by decide +kernel
theorem dX2_total_5 : decode cX2_total 5 = .ok (.aload_n 0, 1) := by decide +kernel
theorem dX2_total_6 : decode cX2_total 6 = .ok (.getfield 32, 3) := by decide +kernel
theorem dX2_total_9 : decode cX2_total 9 = .ok (.aload_n 0, 1) := by decide +kernel
theorem dX2_total_10 : decode cX2_total 10 = .ok (.getfield 36, 3) := by decide +kernel
theorem dX2_total_13 : decode cX2_total 13 = .ok (.iconst 0, 1) := by decide +kernel
theorem dX2_total_14 : decode cX2_total 14 = .ok (.invokestatic 42, 3) := by decide +kernel
theorem dX2_total_17 : decode cX2_total 17 = .ok (.bipush 70, 2) := by decide +kernel
theorem dX2_total_19 : decode cX2_total 19 = .ok (.invokestatic 48, 3) := by decide +kernel
theorem dX2_total_22 : decode cX2_total 22 = .ok (.istore_n 1, 1) := by decide +kernel
theorem dX2_total_23 : decode cX2_total 23 = .ok (.iconst 0, 1) := by decide +kernel
theorem dX2_total_24 : decode cX2_total 24 = .ok (.istore_n 2, 1) := by decide +kernel
theorem dX2_total_25 : decode cX2_total 25 = .ok (.iload_n 2, 1) := by decide +kernel
theorem dX2_total_26 : decode cX2_total 26 = .ok (.iload_n 1, 1) := by decide +kernel
theorem dX2_total_27 : decode cX2_total 27 = .ok (.if_icmp .ge 24, 3) := by decide +kernel
theorem dX2_total_30 : decode cX2_total 30 = .ok (.aload_n 0, 1) := by decide +kernel
theorem dX2_total_31 : decode cX2_total 31 = .ok (.getfield 25, 3) := by decide +kernel
theorem dX2_total_34 : decode cX2_total 34 = .ok (.iload_n 2, 1) := by decide +kernel
theorem dX2_total_35 : decode cX2_total 35 = .ok (.iload_n 2, 1) := by decide +kernel
theorem dX2_total_36 : decode cX2_total 36 = .ok (.ifCond .ne 7, 3) := by decide +kernel
theorem dX2_total_39 : decode cX2_total 39 = .ok (.lconst 1, 1) := by decide +kernel
theorem dX2_total_40 : decode cX2_total 40 = .ok (.goto 4, 3) := by decide +kernel
theorem dX2_total_43 : decode cX2_total 43 = .ok (.lconst 0, 1) := by decide +kernel
theorem dX2_total_44 : decode cX2_total 44 = .ok (.lastore, 1) := by decide +kernel
theorem dX2_total_45 : decode cX2_total 45 = .ok (.iinc 2 1, 3) := by decide +kernel
theorem dX2_total_48 : decode cX2_total 48 = .ok (.goto (-23), 3) := by decide +kernel
theorem dX2_total_51 : decode cX2_total 51 = .ok (.iconst 0, 1) := by decide +kernel
theorem dX2_total_52 : decode cX2_total 52 = .ok (.istore_n 2, 1) := by decide +kernel
theorem dX2_total_53 : decode cX2_total 53 = .ok (.iload_n 2, 1) := by decide +kernel
theorem dX2_total_54 : decode cX2_total 54 = .ok (.aload_n 0, 1) := by decide +kernel
theorem dX2_total_55 : decode cX2_total 55 = .ok (.getfield 39, 3) := by decide +kernel
theorem dX2_total_58 : decode cX2_total 58 = .ok (.if_icmp .ge 20, 3) := by decide +kernel
theorem dX2_total_61 : decode cX2_total 61 = .ok (.aload_n 0, 1) := by decide +kernel
theorem dX2_total_62 : decode cX2_total 62 = .ok (.aload_n 0, 1) := by decide +kernel
theorem dX2_total_63 : decode cX2_total 63 = .ok (.getfield 18, 3) := by decide +kernel
theorem dX2_total_66 : decode cX2_total 66 = .ok (.iload_n 2, 1) := by decide +kernel
theorem dX2_total_67 : decode cX2_total 67 = .ok (.iaload, 1) := by decide +kernel
theorem dX2_total_68 : decode cX2_total 68 = .ok (.iload_n 1, 1) := by decide +kernel
theorem dX2_total_69 : decode cX2_total 69 = .ok (.invokevirtual 54, 3) := by decide +kernel
theorem dX2_total_72 : decode cX2_total 72 = .ok (.iinc 2 1, 3) := by decide +kernel
theorem dX2_total_75 : decode cX2_total 75 = .ok (.goto (-22), 3) := by decide +kernel
theorem dX2_total_78 : decode cX2_total 78 = .ok (.iload_n 1, 1) := by decide +kernel
theorem dX2_total_79 : decode cX2_total 79 = .ok (.ifCond .le 14, 3) := by decide +kernel
theorem dX2_total_82 : decode cX2_total 82 = .ok (.aload_n 0, 1) := by decide +kernel
theorem dX2_total_83 : decode cX2_total 83 = .ok (.getfield 25, 3) := by decide +kernel
theorem dX2_total_86 : decode cX2_total 86 = .ok (.iload_n 1, 1) := by decide +kernel
theorem dX2_total_87 : decode cX2_total 87 = .ok (.iconst 1, 1) := by decide +kernel
theorem dX2_total_88 : decode cX2_total 88 = .ok (.isub, 1) := by decide +kernel
theorem dX2_total_89 : decode cX2_total 89 = .ok (.laload, 1) := by decide +kernel
theorem dX2_total_90 : decode cX2_total 90 = .ok (.goto 4, 3) := by decide +kernel
theorem dX2_total_93 : decode cX2_total 93 = .ok (.lconst 0, 1) := by decide +kernel
theorem dX2_total_94 : decode cX2_total 94 = .ok (.lreturn, 1) := by decide +kernel
theorem dX2_putOn_0 : decode cX2_putOn 0 = .ok (.iconst 0, 1) := by decide +kernel
theorem dX2_putOn_1 : decode cX2_putOn 1 = .ok (.istore_n 3, 1) := by decide +kernel
theorem dX2_putOn_2 : decode cX2_putOn 2 = .ok (.iload_n 3, 1) := by decide +kernel
theorem dX2_putOn_3 : decode cX2_putOn 3 = .ok (.iload_n 2, 1) := by decide +kernel
theorem dX2_putOn_4 : decode cX2_putOn 4 = .ok (.if_icmp .ge 86, 3) := by decide +kernel
theorem dX2_putOn_7 : decode cX2_putOn 7 = .ok (.aload_n 0, 1) := by decide +kernel
theorem dX2_putOn_8 : decode cX2_putOn 8 = .ok (.getfield 29, 3) := by decide +kernel
theorem dX2_putOn_11 : decode cX2_putOn 11 = .ok (.iload_n 3, 1) := by decide +kernel
theorem dX2_putOn_12 : decode cX2_putOn 12 = .ok (.lconst 0, 1) := by decide +kernel
theorem dX2_putOn_13 : decode cX2_putOn 13 = .ok (.lastore, 1) := by decide +kernel
theorem dX2_putOn_14 : decode cX2_putOn 14 = .ok (.iconst 0, 1) := by decide +kernel
theorem dX2_putOn_15 : decode cX2_putOn 15 = .ok (.istore 4, 2) := by decide +kernel
theorem dX2_putOn_17 : decode cX2_putOn 17 = .ok (.iload 4, 2) := by decide +kernel
theorem dX2_putOn_19 : decode cX2_putOn 19 = .ok (.iload_n 2, 1) := by decide +kernel
theorem dX2_putOn_20 : decode cX2_putOn 20 = .ok (.if_icmp .ge 64, 3) := by decide +kernel
theorem dX2_putOn_23 : decode cX2_putOn 23 = .ok (.aload_n 0, 1) := by decide +kernel
theorem dX2_putOn_24 : decode cX2_putOn 24 = .ok (.getfield 25, 3) := by decide +kernel
theorem dX2_putOn_27 : decode cX2_putOn 27 = .ok (.iload 4, 2) := by decide +kernel
theorem dX2_putOn_29 : decode cX2_putOn 29 = .ok (.laload, 1) := by decide +kernel
theorem dX2_putOn_30 : decode cX2_putOn 30 = .ok (.lconst 0, 1) := by decide +kernel
theorem dX2_putOn_31 : decode cX2_putOn 31 = .ok (.lcmp, 1) := by decide +kernel
theorem dX2_putOn_32 : decode cX2_putOn 32 = .ok (.ifCond .eq 46, 3) := by decide +kernel
theorem dX2_putOn_35 : decode cX2_putOn 35 = .ok (.aload_n 0, 1) := by decide +kernel
theorem dX2_putOn_36 : decode cX2_putOn 36 = .ok (.getfield 29, 3) := by decide +kernel
theorem dX2_putOn_39 : decode cX2_putOn 39 = .ok (.iload_n 3, 1) := by decide +kernel
theorem dX2_putOn_40 : decode cX2_putOn 40 = .ok (.dup2, 1) := by decide +kernel
theorem dX2_putOn_41 : decode cX2_putOn 41 = .ok (.laload, 1) := by decide +kernel
theorem dX2_putOn_42 : decode cX2_putOn 42 = .ok (.aload_n 0, 1) := by decide +kernel
theorem dX2_putOn_43 : decode cX2_putOn 43 = .ok (.getfield 25, 3) := by decide +kernel
theorem dX2_putOn_46 : decode cX2_putOn 46 = .ok (.iload 4, 2) := by decide +kernel
theorem dX2_putOn_48 : decode cX2_putOn 48 = .ok (.laload, 1) := by decide +kernel
theorem dX2_putOn_49 : decode cX2_putOn 49 = .ok (.aload_n 0, 1) := by decide +kernel
theorem dX2_putOn_50 : decode cX2_putOn 50 = .ok (.getfield 12, 3) := by decide +kernel
theorem dX2_putOn_53 : decode cX2_putOn 53 = .ok (.aload_n 0, 1) := by decide +kernel
theorem dX2_putOn_54 : decode cX2_putOn 54 = .ok (.getfield 32, 3) := by decide +kernel
theorem dX2_putOn_57 : decode cX2_putOn 57 = .ok (.aload_n 0, 1) := by decide +kernel
theorem dX2_putOn_58 : decode cX2_putOn 58 = .ok (.getfield 22, 3) := by decide +kernel
theorem dX2_putOn_61 : decode cX2_putOn 61 = .ok (.iload 4, 2) := by decide +kernel
theorem dX2_putOn_63 : decode cX2_putOn 63 = .ok (.iaload, 1) := by decide +kernel
theorem dX2_putOn_64 : decode cX2_putOn 64 = .ok (.iload_n 1, 1) := by decide +kernel
theorem dX2_putOn_65 : decode cX2_putOn 65 = .ok (.aload_n 0, 1) := by decide +kernel
theorem dX2_putOn_66 : decode cX2_putOn 66 = .ok (.getfield 22, 3) := by decide +kernel
theorem dX2_putOn_69 : decode cX2_putOn 69 = .ok (.iload_n 3, 1) := by decide +kernel
theorem dX2_putOn_70 : decode cX2_putOn 70 = .ok (.iaload, 1) := by decide +kernel
theorem dX2_putOn_71 : decode cX2_putOn 71 = .ok (.invokevirtual 58, 3) := by decide +kernel
theorem dX2_putOn_74 : decode cX2_putOn 74 = .ok (.i2l, 1) := by decide +kernel
theorem dX2_putOn_75 : decode cX2_putOn 75 = .ok (.lmul, 1) := by decide +kernel
theorem dX2_putOn_76 : decode cX2_putOn 76 = .ok (.ladd, 1) := by decide +kernel
theorem dX2_putOn_77 : decode cX2_putOn 77 = .ok (.lastore, 1) := by decide +kernel
theorem dX2_putOn_78 : decode cX2_putOn 78 = .ok (.iinc 4 1, 3) := by decide +kernel
theorem dX2_putOn_81 : decode cX2_putOn 81 = .ok (.goto (-64), 3) := by decide +kernel
theorem dX2_putOn_84 : decode cX2_putOn 84 = .ok (.iinc 3 1, 3) := by decide +kernel
theorem dX2_putOn_87 : decode cX2_putOn 87 = .ok (.goto (-85), 3) := by decide +kernel
theorem dX2_putOn_90 : decode cX2_putOn 90 = .ok (.iconst 0, 1) := by decide +kernel
theorem dX2_putOn_91 : decode cX2_putOn 91 = .ok (.istore_n 3, 1) := by decide +kernel
theorem dX2_putOn_92 : decode cX2_putOn 92 = .ok (.iload_n 3, 1) := by decide +kernel
theorem dX2_putOn_93 : decode cX2_putOn 93 = .ok (.iload_n 2, 1) := by decide +kernel
theorem dX2_putOn_94 : decode cX2_putOn 94 = .ok (.if_icmp .ge 21, 3) := by decide +kernel
theorem dX2_putOn_97 : decode cX2_putOn 97 = .ok (.aload_n 0, 1) := by decide +kernel
theorem dX2_putOn_98 : decode cX2_putOn 98 = .ok (.getfield 25, 3) := by decide +kernel
theorem dX2_putOn_101 : decode cX2_putOn 101 = .ok (.iload_n 3, 1) := by decide +kernel
theorem dX2_putOn_102 : decode cX2_putOn 102 = .ok (.aload_n 0, 1) := by decide +kernel
theorem dX2_putOn_103 : decode cX2_putOn 103 = .ok (.getfield 29, 3) := by decide +kernel
theorem dX2_putOn_106 : decode cX2_putOn 106 = .ok (.iload_n 3, 1) := by decide +kernel
theorem dX2_putOn_107 : decode cX2_putOn 107 = .ok (.laload, 1) := by decide +kernel
theorem dX2_putOn_108 : decode cX2_putOn 108 = .ok (.lastore, 1) := by decide +kernel
theorem dX2_putOn_109 : decode cX2_putOn 109 = .ok (.iinc 3 1, 3) := by decide +kernel
theorem dX2_putOn_112 : decode cX2_putOn 112 = .ok (.goto (-20), 3) := by decide +kernel
theorem dX2_putOn_115 : decode cX2_putOn 115 = .ok (.return_, 1) := by decide +kernel
theorem dX2_digestOn_0 : decode cX2_digestOn 0 = .ok (.lload_n 1, 1) := by decide +kernel
theorem dX2_digestOn_1 : decode cX2_digestOn 1 = .ok (.lstore_n 3, 1) := by decide +kernel
theorem dX2_digestOn_2 : decode cX2_digestOn 2 = .ok (.iconst 0, 1) := by decide +kernel
theorem dX2_digestOn_3 : decode cX2_digestOn 3 = .ok (.istore 5, 2) := by decide +kernel
theorem dX2_digestOn_5 : decode cX2_digestOn 5 = .ok (.iload 5, 2) := by decide +kernel
theorem dX2_digestOn_7 : decode cX2_digestOn 7 = .ok (.aload_n 0, 1) := by decide +kernel
theorem dX2_digestOn_8 : decode cX2_digestOn 8 = .ok (.getfield 39, 3) := by decide +kernel
theorem dX2_digestOn_11 : decode cX2_digestOn 11 = .ok (.if_icmp .ge 24, 3) := by decide +kernel
theorem dX2_digestOn_14 : decode cX2_digestOn 14 = .ok (.ldc2_w 62, 3) := by decide +kernel
theorem dX2_digestOn_17 : decode cX2_digestOn 17 = .ok (.lload_n 3, 1) := by decide +kernel
theorem dX2_digestOn_18 : decode cX2_digestOn 18 = .ok (.lmul, 1) := by decide +kernel
theorem dX2_digestOn_19 : decode cX2_digestOn 19 = .ok (.aload_n 0, 1) := by decide +kernel
theorem dX2_digestOn_20 : decode cX2_digestOn 20 = .ok (.getfield 18, 3) := by decide +kernel
theorem dX2_digestOn_23 : decode cX2_digestOn 23 = .ok (.iload 5, 2) := by decide +kernel
theorem dX2_digestOn_25 : decode cX2_digestOn 25 = .ok (.iaload, 1) := by decide +kernel
theorem dX2_digestOn_26 : decode cX2_digestOn 26 = .ok (.i2l, 1) := by decide +kernel
theorem dX2_digestOn_27 : decode cX2_digestOn 27 = .ok (.ladd, 1) := by decide +kernel
theorem dX2_digestOn_28 : decode cX2_digestOn 28 = .ok (.lstore_n 3, 1) := by decide +kernel
theorem dX2_digestOn_29 : decode cX2_digestOn 29 = .ok (.iinc 5 1, 3) := by decide +kernel
theorem dX2_digestOn_32 : decode cX2_digestOn 32 = .ok (.goto (-27), 3) := by decide +kernel
theorem dX2_digestOn_35 : decode cX2_digestOn 35 = .ok (.lload_n 3, 1) := by decide +kernel
theorem dX2_digestOn_36 : decode cX2_digestOn 36 = .ok (.lreturn, 1) := by decide +kernel
theorem dX3_at_0 : decode cX3_at 0 = .ok (.iload_n 0, 1) := by decide +kernel
theorem dX3_at_1 : decode cX3_at 1 = .ok (.istore_n 2, 1) := by decide +kernel
theorem dX3_at_2 : decode cX3_at 2 = .ok (.iconst 0, 1) := by decide +kernel
theorem dX3_at_3 : decode cX3_at 3 = .ok (.istore_n 3, 1) := by decide +kernel
theorem dX3_at_4 : decode cX3_at 4 = .ok (.iload_n 3, 1) := by decide +kernel
theorem dX3_at_5 : decode cX3_at 5 = .ok (.iload_n 1, 1) := by decide +kernel
theorem dX3_at_6 : decode cX3_at 6 = .ok (.if_icmp .ge 14, 3) := by decide +kernel
theorem dX3_at_9 : decode cX3_at 9 = .ok (.iload_n 2, 1) := by decide +kernel
theorem dX3_at_10 : decode cX3_at 10 = .ok (.bipush 10, 2) := by decide +kernel
theorem dX3_at_12 : decode cX3_at 12 = .ok (.idiv, 1) := by decide +kernel
theorem dX3_at_13 : decode cX3_at 13 = .ok (.istore_n 2, 1) := by decide +kernel
theorem dX3_at_14 : decode cX3_at 14 = .ok (.iinc 3 1, 3) := by decide +kernel
theorem dX3_at_17 : decode cX3_at 17 = .ok (.goto (-13), 3) := by decide +kernel
theorem dX3_at_20 : decode cX3_at 20 = .ok (.iload_n 2, 1) := by decide +kernel
theorem dX3_at_21 : decode cX3_at 21 = .ok (.bipush 10, 2) := by decide +kernel
theorem dX3_at_23 : decode cX3_at 23 = .ok (.irem, 1) := by decide +kernel
theorem dX3_at_24 : decode cX3_at 24 = .ok (.ireturn, 1) := by decide +kernel
theorem dX3_power_0 : decode cX3_power 0 = .ok (.iconst 1, 1) := by decide +kernel
theorem dX3_power_1 : decode cX3_power 1 = .ok (.istore_n 2, 1) := by decide +kernel
theorem dX3_power_2 : decode cX3_power 2 = .ok (.iconst 0, 1) := by decide +kernel
theorem dX3_power_3 : decode cX3_power 3 = .ok (.istore_n 3, 1) := by decide +kernel
theorem dX3_power_4 : decode cX3_power 4 = .ok (.iload_n 3, 1) := by decide +kernel
theorem dX3_power_5 : decode cX3_power 5 = .ok (.iload_n 1, 1) := by decide +kernel
theorem dX3_power_6 : decode cX3_power 6 = .ok (.if_icmp .ge 13, 3) := by decide +kernel
theorem dX3_power_9 : decode cX3_power 9 = .ok (.iload_n 2, 1) := by decide +kernel
theorem dX3_power_10 : decode cX3_power 10 = .ok (.iload_n 0, 1) := by decide +kernel
theorem dX3_power_11 : decode cX3_power 11 = .ok (.imul, 1) := by decide +kernel
theorem dX3_power_12 : decode cX3_power 12 = .ok (.istore_n 2, 1) := by decide +kernel
theorem dX3_power_13 : decode cX3_power 13 = .ok (.iinc 3 1, 3) := by decide +kernel
theorem dX3_power_16 : decode cX3_power 16 = .ok (.goto (-12), 3) := by decide +kernel
theorem dX3_power_19 : decode cX3_power 19 = .ok (.iload_n 2, 1) := by decide +kernel
theorem dX3_power_20 : decode cX3_power 20 = .ok (.ireturn, 1) := by decide +kernel
theorem dX4_init_0 : decode cX4_init 0 = .ok (.aload_n 0, 1) := by decide +kernel
theorem dX4_init_1 : decode cX4_init 1 = .ok (.invokespecial 3, 3) := by decide +kernel
theorem dX4_init_4 : decode cX4_init 4 = .ok (.aload_n 0, 1) := by decide +kernel
theorem dX4_init_5 : decode cX4_init 5 = .ok (.iconst 5, 1) := by decide +kernel
theorem dX4_init_6 : decode cX4_init 6 = .ok (.newarray .int, 2) := by decide +kernel
theorem dX4_init_8 : decode cX4_init 8 = .ok (.putfield 9, 3) := by decide +kernel
theorem dX4_init_11 : decode cX4_init 11 = .ok (.aload_n 0, 1) := by decide +kernel
theorem dX4_init_12 : decode cX4_init 12 = .ok (.iconst 5, 1) := by decide +kernel
theorem dX4_init_13 : decode cX4_init 13 = .ok (.newarray .int, 2) := by decide +kernel
theorem dX4_init_15 : decode cX4_init 15 = .ok (.putfield 15, 3) := by decide +kernel
theorem dX4_init_18 : decode cX4_init 18 = .ok (.aload_n 0, 1) := by decide +kernel
theorem dX4_init_19 : decode cX4_init 19 = .ok (.iconst 5, 1) := by decide +kernel
theorem dX4_init_20 : decode cX4_init 20 = .ok (.newarray .int, 2) := by decide +kernel
theorem dX4_init_22 : decode cX4_init 22 = .ok (.putfield 18, 3) := by decide +kernel
theorem dX4_init_25 : decode cX4_init 25 = .ok (.aload_n 0, 1) := by decide +kernel
theorem dX4_init_26 : decode cX4_init 26 = .ok (.iconst 5, 1) := by decide +kernel
theorem dX4_init_27 : decode cX4_init 27 = .ok (.newarray .int, 2) := by decide +kernel
theorem dX4_init_29 : decode cX4_init 29 = .ok (.putfield 21, 3) := by decide +kernel
theorem dX4_init_32 : decode cX4_init 32 = .ok (.aload_n 0, 1) := by decide +kernel
theorem dX4_init_33 : decode cX4_init 33 = .ok (.iconst 5, 1) := by decide +kernel
theorem dX4_init_34 : decode cX4_init 34 = .ok (.iconst 5, 1) := by decide +kernel
theorem dX4_init_35 : decode cX4_init 35 = .ok (.multianewarray 24 2, 4) := by decide +kernel
theorem dX4_init_39 : decode cX4_init 39 = .ok (.putfield 26, 3) := by decide +kernel
theorem dX4_init_42 : decode cX4_init 42 = .ok (.return_, 1) := by decide +kernel
theorem dX4_howMany_0 : decode cX4_howMany 0 = .ok (.iload_n 1, 1) := by decide +kernel
theorem dX4_howMany_1 : decode cX4_howMany 1 = .ok (.iconst 4, 1) := by decide +kernel
theorem dX4_howMany_2 : decode cX4_howMany 2 = .ok (.if_icmp .gt 23, 3) := by decide +kernel
theorem dX4_howMany_5 : decode cX4_howMany 5 = .ok (.iload_n 1, 1) := by decide +kernel
theorem dX4_howMany_6 : decode cX4_howMany 6 = .ok (.iload_n 2, 1) := by decide +kernel
theorem dX4_howMany_7 : decode cX4_howMany 7 = .ok (.invokestatic 29, 3) := by decide +kernel
theorem dX4_howMany_10 : decode cX4_howMany 10 = .ok (.iload_n 1, 1) := by decide +kernel
theorem dX4_howMany_11 : decode cX4_howMany 11 = .ok (.iload_n 3, 1) := by decide +kernel
theorem dX4_howMany_12 : decode cX4_howMany 12 = .ok (.invokestatic 29, 3) := by decide +kernel
theorem dX4_howMany_15 : decode cX4_howMany 15 = .ok (.iadd, 1) := by decide +kernel
theorem dX4_howMany_16 : decode cX4_howMany 16 = .ok (.iload_n 1, 1) := by decide +kernel
theorem dX4_howMany_17 : decode cX4_howMany 17 = .ok (.iload 4, 2) := by decide +kernel
theorem dX4_howMany_19 : decode cX4_howMany 19 = .ok (.invokestatic 29, 3) := by decide +kernel
theorem dX4_howMany_22 : decode cX4_howMany 22 = .ok (.if_icmp .eq 5, 3) := by decide +kernel
theorem dX4_howMany_25 : decode cX4_howMany 25 = .ok (.iconst 0, 1) := by decide +kernel
theorem dX4_howMany_26 : decode cX4_howMany 26 = .ok (.ireturn, 1) := by decide +kernel
theorem dX4_howMany_27 : decode cX4_howMany 27 = .ok (.iconst 1, 1) := by decide +kernel
theorem dX4_howMany_28 : decode cX4_howMany 28 = .ok (.istore 5, 2) := by decide +kernel
theorem dX4_howMany_30 : decode cX4_howMany 30 = .ok (.iload 5, 2) := by decide +kernel
theorem dX4_howMany_32 : decode cX4_howMany 32 = .ok (.iload_n 1, 1) := by decide +kernel
theorem dX4_howMany_33 : decode cX4_howMany 33 = .ok (.if_icmp .gt 87, 3) := by decide +kernel
theorem dX4_howMany_36 : decode cX4_howMany 36 = .ok (.aload_n 0, 1) := by decide +kernel
theorem dX4_howMany_37 : decode cX4_howMany 37 = .ok (.getfield 9, 3) := by decide +kernel
theorem dX4_howMany_40 : decode cX4_howMany 40 = .ok (.iload 5, 2) := by decide +kernel
theorem dX4_howMany_42 : decode cX4_howMany 42 = .ok (.iload_n 1, 1) := by decide +kernel
theorem dX4_howMany_43 : decode cX4_howMany 43 = .ok (.iload_n 2, 1) := by decide +kernel
theorem dX4_howMany_44 : decode cX4_howMany 44 = .ok (.iload 5, 2) := by decide +kernel
theorem dX4_howMany_46 : decode cX4_howMany 46 = .ok (.invokestatic 35, 3) := by decide +kernel
theorem dX4_howMany_49 : decode cX4_howMany 49 = .ok (.iconst 4, 1) := by decide +kernel
theorem dX4_howMany_50 : decode cX4_howMany 50 = .ok (.invokestatic 39, 3) := by decide +kernel
theorem dX4_howMany_53 : decode cX4_howMany 53 = .ok (.iastore, 1) := by decide +kernel
theorem dX4_howMany_54 : decode cX4_howMany 54 = .ok (.aload_n 0, 1) := by decide +kernel
theorem dX4_howMany_55 : decode cX4_howMany 55 = .ok (.getfield 15, 3) := by decide +kernel
theorem dX4_howMany_58 : decode cX4_howMany 58 = .ok (.iload 5, 2) := by decide +kernel
theorem dX4_howMany_60 : decode cX4_howMany 60 = .ok (.iload_n 1, 1) := by decide +kernel
theorem dX4_howMany_61 : decode cX4_howMany 61 = .ok (.iload 4, 2) := by decide +kernel
theorem dX4_howMany_63 : decode cX4_howMany 63 = .ok (.iload 5, 2) := by decide +kernel
theorem dX4_howMany_65 : decode cX4_howMany 65 = .ok (.invokestatic 35, 3) := by decide +kernel
theorem dX4_howMany_68 : decode cX4_howMany 68 = .ok (.iconst 4, 1) := by decide +kernel
theorem dX4_howMany_69 : decode cX4_howMany 69 = .ok (.invokestatic 39, 3) := by decide +kernel
theorem dX4_howMany_72 : decode cX4_howMany 72 = .ok (.iastore, 1) := by decide +kernel
theorem dX4_howMany_73 : decode cX4_howMany 73 = .ok (.aload_n 0, 1) := by decide +kernel
theorem dX4_howMany_74 : decode cX4_howMany 74 = .ok (.getfield 18, 3) := by decide +kernel
theorem dX4_howMany_77 : decode cX4_howMany 77 = .ok (.iload 5, 2) := by decide +kernel
theorem dX4_howMany_79 : decode cX4_howMany 79 = .ok (.iload_n 1, 1) := by decide +kernel
theorem dX4_howMany_80 : decode cX4_howMany 80 = .ok (.iload_n 3, 1) := by decide +kernel
theorem dX4_howMany_81 : decode cX4_howMany 81 = .ok (.iload 5, 2) := by decide +kernel
theorem dX4_howMany_83 : decode cX4_howMany 83 = .ok (.invokestatic 35, 3) := by decide +kernel
theorem dX4_howMany_86 : decode cX4_howMany 86 = .ok (.iastore, 1) := by decide +kernel
theorem dX4_howMany_87 : decode cX4_howMany 87 = .ok (.aload_n 0, 1) := by decide +kernel
theorem dX4_howMany_88 : decode cX4_howMany 88 = .ok (.getfield 21, 3) := by decide +kernel
theorem dX4_howMany_91 : decode cX4_howMany 91 = .ok (.iload 5, 2) := by decide +kernel
theorem dX4_howMany_93 : decode cX4_howMany 93 = .ok (.iconst 0, 1) := by decide +kernel
theorem dX4_howMany_94 : decode cX4_howMany 94 = .ok (.iastore, 1) := by decide +kernel
theorem dX4_howMany_95 : decode cX4_howMany 95 = .ok (.aload_n 0, 1) := by decide +kernel
theorem dX4_howMany_96 : decode cX4_howMany 96 = .ok (.getfield 9, 3) := by decide +kernel
theorem dX4_howMany_99 : decode cX4_howMany 99 = .ok (.iload 5, 2) := by decide +kernel
theorem dX4_howMany_101 : decode cX4_howMany 101 = .ok (.iaload, 1) := by decide +kernel
theorem dX4_howMany_102 : decode cX4_howMany 102 = .ok (.aload_n 0, 1) := by decide +kernel
theorem dX4_howMany_103 : decode cX4_howMany 103 = .ok (.getfield 15, 3) := by decide +kernel
theorem dX4_howMany_106 : decode cX4_howMany 106 = .ok (.iload 5, 2) := by decide +kernel
theorem dX4_howMany_108 : decode cX4_howMany 108 = .ok (.iaload, 1) := by decide +kernel
theorem dX4_howMany_109 : decode cX4_howMany 109 = .ok (.if_icmp .le 5, 3) := by decide +kernel
theorem dX4_howMany_112 : decode cX4_howMany 112 = .ok (.iconst 0, 1) := by decide +kernel
theorem dX4_howMany_113 : decode cX4_howMany 113 = .ok (.ireturn, 1) := by decide +kernel
theorem dX4_howMany_114 : decode cX4_howMany 114 = .ok (.iinc 5 1, 3) := by decide +kernel
theorem dX4_howMany_117 : decode cX4_howMany 117 = .ok (.goto (-87), 3) := by decide +kernel
theorem dX4_howMany_120 : decode cX4_howMany 120 = .ok (.aload_n 0, 1) := by decide +kernel
theorem dX4_howMany_121 : decode cX4_howMany 121 = .ok (.iload_n 1, 1) := by decide +kernel
theorem dX4_howMany_122 : decode cX4_howMany 122 = .ok (.iconst 1, 1) := by decide +kernel
theorem dX4_howMany_123 : decode cX4_howMany 123 = .ok (.aload_n 0, 1) := by decide +kernel
theorem dX4_howMany_124 : decode cX4_howMany 124 = .ok (.getfield 15, 3) := by decide +kernel
theorem dX4_howMany_127 : decode cX4_howMany 127 = .ok (.iconst 1, 1) := by decide +kernel
theorem dX4_howMany_128 : decode cX4_howMany 128 = .ok (.iaload, 1) := by decide +kernel
theorem dX4_howMany_129 : decode cX4_howMany 129 = .ok (.invokestatic 44, 3) := by decide +kernel
theorem dX4_howMany_132 : decode cX4_howMany 132 = .ok (.ireturn, 1) := by decide +kernel
theorem dX4_fill_0 : decode cX4_fill 0 = .ok (.iload_n 2, 1) := by decide +kernel
theorem dX4_fill_1 : decode cX4_fill 1 = .ok (.iload_n 1, 1) := by decide +kernel
theorem dX4_fill_2 : decode cX4_fill 2 = .ok (.if_icmp .gt 8, 3) := by decide +kernel
theorem dX4_fill_5 : decode cX4_fill 5 = .ok (.iload_n 2, 1) := by decide +kernel
theorem dX4_fill_6 : decode cX4_fill 6 = .ok (.iconst 4, 1) := by decide +kernel
theorem dX4_fill_7 : decode cX4_fill 7 = .ok (.if_icmp .le 5, 3) := by decide +kernel
theorem dX4_fill_10 : decode cX4_fill 10 = .ok (.iconst 1, 1) := by decide +kernel
theorem dX4_fill_11 : decode cX4_fill 11 = .ok (.ireturn, 1) := by decide +kernel
theorem dX4_fill_12 : decode cX4_fill 12 = .ok (.iload_n 3, 1) := by decide +kernel
theorem dX4_fill_13 : decode cX4_fill 13 = .ok (.aload_n 0, 1) := by decide +kernel
theorem dX4_fill_14 : decode cX4_fill 14 = .ok (.getfield 9, 3) := by decide +kernel
theorem dX4_fill_17 : decode cX4_fill 17 = .ok (.iload_n 2, 1) := by decide +kernel
theorem dX4_fill_18 : decode cX4_fill 18 = .ok (.iaload, 1) := by decide +kernel
theorem dX4_fill_19 : decode cX4_fill 19 = .ok (.if_icmp .le 8, 3) := by decide +kernel
theorem dX4_fill_22 : decode cX4_fill 22 = .ok (.iload_n 3, 1) := by decide +kernel
theorem dX4_fill_23 : decode cX4_fill 23 = .ok (.iconst 4, 1) := by decide +kernel
theorem dX4_fill_24 : decode cX4_fill 24 = .ok (.if_icmp .le 29, 3) := by decide +kernel
theorem dX4_fill_27 : decode cX4_fill 27 = .ok (.aload_n 0, 1) := by decide +kernel
theorem dX4_fill_28 : decode cX4_fill 28 = .ok (.iload_n 1, 1) := by decide +kernel
theorem dX4_fill_29 : decode cX4_fill 29 = .ok (.iload_n 2, 1) := by decide +kernel
theorem dX4_fill_30 : decode cX4_fill 30 = .ok (.iconst 1, 1) := by decide +kernel
theorem dX4_fill_31 : decode cX4_fill 31 = .ok (.iadd, 1) := by decide +kernel
theorem dX4_fill_32 : decode cX4_fill 32 = .ok (.iload_n 2, 1) := by decide +kernel
theorem dX4_fill_33 : decode cX4_fill 33 = .ok (.iload_n 1, 1) := by decide +kernel
theorem dX4_fill_34 : decode cX4_fill 34 = .ok (.if_icmp .ge 14, 3) := by decide +kernel
theorem dX4_fill_37 : decode cX4_fill 37 = .ok (.aload_n 0, 1) := by decide +kernel
theorem dX4_fill_38 : decode cX4_fill 38 = .ok (.getfield 15, 3) := by decide +kernel
theorem dX4_fill_41 : decode cX4_fill 41 = .ok (.iload_n 2, 1) := by decide +kernel
theorem dX4_fill_42 : decode cX4_fill 42 = .ok (.iconst 1, 1) := by decide +kernel
theorem dX4_fill_43 : decode cX4_fill 43 = .ok (.iadd, 1) := by decide +kernel
theorem dX4_fill_44 : decode cX4_fill 44 = .ok (.iaload, 1) := by decide +kernel
theorem dX4_fill_45 : decode cX4_fill 45 = .ok (.goto 4, 3) := by decide +kernel
theorem dX4_fill_48 : decode cX4_fill 48 = .ok (.iconst 0, 1) := by decide +kernel
theorem dX4_fill_49 : decode cX4_fill 49 = .ok (.invokestatic 44, 3) := by decide +kernel
theorem dX4_fill_52 : decode cX4_fill 52 = .ok (.ireturn, 1) := by decide +kernel
theorem dX4_fill_53 : decode cX4_fill 53 = .ok (.iload_n 2, 1) := by decide +kernel
theorem dX4_fill_54 : decode cX4_fill 54 = .ok (.iconst 1, 1) := by decide +kernel
theorem dX4_fill_55 : decode cX4_fill 55 = .ok (.if_icmp .le 19, 3) := by decide +kernel
theorem dX4_fill_58 : decode cX4_fill 58 = .ok (.iload_n 3, 1) := by decide +kernel
theorem dX4_fill_59 : decode cX4_fill 59 = .ok (.aload_n 0, 1) := by decide +kernel
theorem dX4_fill_60 : decode cX4_fill 60 = .ok (.getfield 9, 3) := by decide +kernel
theorem dX4_fill_63 : decode cX4_fill 63 = .ok (.iload_n 2, 1) := by decide +kernel
theorem dX4_fill_64 : decode cX4_fill 64 = .ok (.iconst 1, 1) := by decide +kernel
theorem dX4_fill_65 : decode cX4_fill 65 = .ok (.isub, 1) := by decide +kernel
theorem dX4_fill_66 : decode cX4_fill 66 = .ok (.iaload, 1) := by decide +kernel
theorem dX4_fill_67 : decode cX4_fill 67 = .ok (.if_icmp .le 7, 3) := by decide +kernel
theorem dX4_fill_70 : decode cX4_fill 70 = .ok (.iconst 1, 1) := by decide +kernel
theorem dX4_fill_71 : decode cX4_fill 71 = .ok (.goto 4, 3) := by decide +kernel
theorem dX4_fill_74 : decode cX4_fill 74 = .ok (.iconst 0, 1) := by decide +kernel
theorem dX4_fill_75 : decode cX4_fill 75 = .ok (.istore 4, 2) := by decide +kernel
theorem dX4_fill_77 : decode cX4_fill 77 = .ok (.iload 4, 2) := by decide +kernel
theorem dX4_fill_79 : decode cX4_fill 79 = .ok (.ifCond .eq 18, 3) := by decide +kernel
theorem dX4_fill_82 : decode cX4_fill 82 = .ok (.aload_n 0, 1) := by decide +kernel
theorem dX4_fill_83 : decode cX4_fill 83 = .ok (.getfield 26, 3) := by decide +kernel
theorem dX4_fill_86 : decode cX4_fill 86 = .ok (.iload_n 2, 1) := by decide +kernel
theorem dX4_fill_87 : decode cX4_fill 87 = .ok (.iconst 1, 1) := by decide +kernel
theorem dX4_fill_88 : decode cX4_fill 88 = .ok (.isub, 1) := by decide +kernel
theorem dX4_fill_89 : decode cX4_fill 89 = .ok (.aaload, 1) := by decide +kernel
theorem dX4_fill_90 : decode cX4_fill 90 = .ok (.iload_n 3, 1) := by decide +kernel
theorem dX4_fill_91 : decode cX4_fill 91 = .ok (.iaload, 1) := by decide +kernel
theorem dX4_fill_92 : decode cX4_fill 92 = .ok (.iconst 1, 1) := by decide +kernel
theorem dX4_fill_93 : decode cX4_fill 93 = .ok (.iadd, 1) := by decide +kernel
theorem dX4_fill_94 : decode cX4_fill 94 = .ok (.goto 4, 3) := by decide +kernel
theorem dX4_fill_97 : decode cX4_fill 97 = .ok (.iconst 1, 1) := by decide +kernel
theorem dX4_fill_98 : decode cX4_fill 98 = .ok (.istore 5, 2) := by decide +kernel
theorem dX4_fill_100 : decode cX4_fill 100 = .ok (.iload_n 3, 1) := by decide +kernel
theorem dX4_fill_101 : decode cX4_fill 101 = .ok (.aload_n 0, 1) := by decide +kernel
theorem dX4_fill_102 : decode cX4_fill 102 = .ok (.getfield 15, 3) := by decide +kernel
theorem dX4_fill_105 : decode cX4_fill 105 = .ok (.iload_n 2, 1) := by decide +kernel
theorem dX4_fill_106 : decode cX4_fill 106 = .ok (.iaload, 1) := by decide +kernel
theorem dX4_fill_107 : decode cX4_fill 107 = .ok (.if_icmp .ge 16, 3) := by decide +kernel
theorem dX4_fill_110 : decode cX4_fill 110 = .ok (.aload_n 0, 1) := by decide +kernel
theorem dX4_fill_111 : decode cX4_fill 111 = .ok (.getfield 26, 3) := by decide +kernel
theorem dX4_fill_114 : decode cX4_fill 114 = .ok (.iload_n 2, 1) := by decide +kernel
theorem dX4_fill_115 : decode cX4_fill 115 = .ok (.aaload, 1) := by decide +kernel
theorem dX4_fill_116 : decode cX4_fill 116 = .ok (.iload_n 3, 1) := by decide +kernel
theorem dX4_fill_117 : decode cX4_fill 117 = .ok (.iconst 1, 1) := by decide +kernel
theorem dX4_fill_118 : decode cX4_fill 118 = .ok (.iadd, 1) := by decide +kernel
theorem dX4_fill_119 : decode cX4_fill 119 = .ok (.iaload, 1) := by decide +kernel
theorem dX4_fill_120 : decode cX4_fill 120 = .ok (.goto 4, 3) := by decide +kernel
theorem dX4_fill_123 : decode cX4_fill 123 = .ok (.iload_n 1, 1) := by decide +kernel
theorem dX4_fill_124 : decode cX4_fill 124 = .ok (.istore 6, 2) := by decide +kernel
theorem dX4_fill_126 : decode cX4_fill 126 = .ok (.iconst 0, 1) := by decide +kernel
theorem dX4_fill_127 : decode cX4_fill 127 = .ok (.istore 7, 2) := by decide +kernel
theorem dX4_fill_129 : decode cX4_fill 129 = .ok (.iload 5, 2) := by decide +kernel
theorem dX4_fill_131 : decode cX4_fill 131 = .ok (.iconst 1, 1) := by decide +kernel
theorem dX4_fill_132 : decode cX4_fill 132 = .ok (.invokestatic 48, 3) := by decide +kernel
theorem dX4_fill_135 : decode cX4_fill 135 = .ok (.istore 8, 2) := by decide +kernel
theorem dX4_fill_137 : decode cX4_fill 137 = .ok (.iload 8, 2) := by decide +kernel
theorem dX4_fill_139 : decode cX4_fill 139 = .ok (.iload 6, 2) := by decide +kernel
theorem dX4_fill_141 : decode cX4_fill 141 = .ok (.iload_n 1, 1) := by decide +kernel
theorem dX4_fill_142 : decode cX4_fill 142 = .ok (.invokestatic 39, 3) := by decide +kernel
theorem dX4_fill_145 : decode cX4_fill 145 = .ok (.if_icmp .gt 112, 3) := by decide +kernel
theorem dX4_fill_148 : decode cX4_fill 148 = .ok (.aload_n 0, 1) := by decide +kernel
theorem dX4_fill_149 : decode cX4_fill 149 = .ok (.getfield 18, 3) := by decide +kernel
theorem dX4_fill_152 : decode cX4_fill 152 = .ok (.iload 8, 2) := by decide +kernel
theorem dX4_fill_154 : decode cX4_fill 154 = .ok (.iaload, 1) := by decide +kernel
theorem dX4_fill_155 : decode cX4_fill 155 = .ok (.ifCond .le 96, 3) := by decide +kernel
theorem dX4_fill_158 : decode cX4_fill 158 = .ok (.iload 8, 2) := by decide +kernel
theorem dX4_fill_160 : decode cX4_fill 160 = .ok (.iconst 1, 1) := by decide +kernel
theorem dX4_fill_161 : decode cX4_fill 161 = .ok (.if_icmp .eq 22, 3) := by decide +kernel
theorem dX4_fill_164 : decode cX4_fill 164 = .ok (.aload_n 0, 1) := by decide +kernel
theorem dX4_fill_165 : decode cX4_fill 165 = .ok (.getfield 21, 3) := by decide +kernel
theorem dX4_fill_168 : decode cX4_fill 168 = .ok (.iload 8, 2) := by decide +kernel
theorem dX4_fill_170 : decode cX4_fill 170 = .ok (.iaload, 1) := by decide +kernel
theorem dX4_fill_171 : decode cX4_fill 171 = .ok (.aload_n 0, 1) := by decide +kernel
theorem dX4_fill_172 : decode cX4_fill 172 = .ok (.getfield 21, 3) := by decide +kernel
theorem dX4_fill_175 : decode cX4_fill 175 = .ok (.iload 8, 2) := by decide +kernel
theorem dX4_fill_177 : decode cX4_fill 177 = .ok (.iconst 1, 1) := by decide +kernel
theorem dX4_fill_178 : decode cX4_fill 178 = .ok (.isub, 1) := by decide +kernel
theorem dX4_fill_179 : decode cX4_fill 179 = .ok (.iaload, 1) := by decide +kernel
theorem dX4_fill_180 : decode cX4_fill 180 = .ok (.if_icmp .ge 71, 3) := by decide +kernel
theorem dX4_fill_183 : decode cX4_fill 183 = .ok (.aload_n 0, 1) := by decide +kernel
theorem dX4_fill_184 : decode cX4_fill 184 = .ok (.getfield 26, 3) := by decide +kernel
theorem dX4_fill_187 : decode cX4_fill 187 = .ok (.iload_n 2, 1) := by decide +kernel
theorem dX4_fill_188 : decode cX4_fill 188 = .ok (.aaload, 1) := by decide +kernel
theorem dX4_fill_189 : decode cX4_fill 189 = .ok (.iload_n 3, 1) := by decide +kernel
theorem dX4_fill_190 : decode cX4_fill 190 = .ok (.iload 8, 2) := by decide +kernel
theorem dX4_fill_192 : decode cX4_fill 192 = .ok (.iastore, 1) := by decide +kernel
theorem dX4_fill_193 : decode cX4_fill 193 = .ok (.aload_n 0, 1) := by decide +kernel
theorem dX4_fill_194 : decode cX4_fill 194 = .ok (.getfield 18, 3) := by decide +kernel
theorem dX4_fill_197 : decode cX4_fill 197 = .ok (.iload 8, 2) := by decide +kernel
theorem dX4_fill_199 : decode cX4_fill 199 = .ok (.dup2, 1) := by decide +kernel
theorem dX4_fill_200 : decode cX4_fill 200 = .ok (.iaload, 1) := by decide +kernel
theorem dX4_fill_201 : decode cX4_fill 201 = .ok (.iconst 1, 1) := by decide +kernel
theorem dX4_fill_202 : decode cX4_fill 202 = .ok (.isub, 1) := by decide +kernel
theorem dX4_fill_203 : decode cX4_fill 203 = .ok (.iastore, 1) := by decide +kernel
theorem dX4_fill_204 : decode cX4_fill 204 = .ok (.aload_n 0, 1) := by decide +kernel
theorem dX4_fill_205 : decode cX4_fill 205 = .ok (.getfield 21, 3) := by decide +kernel
theorem dX4_fill_208 : decode cX4_fill 208 = .ok (.iload 8, 2) := by decide +kernel
theorem dX4_fill_210 : decode cX4_fill 210 = .ok (.dup2, 1) := by decide +kernel
theorem dX4_fill_211 : decode cX4_fill 211 = .ok (.iaload, 1) := by decide +kernel
theorem dX4_fill_212 : decode cX4_fill 212 = .ok (.iconst 1, 1) := by decide +kernel
theorem dX4_fill_213 : decode cX4_fill 213 = .ok (.iadd, 1) := by decide +kernel
theorem dX4_fill_214 : decode cX4_fill 214 = .ok (.iastore, 1) := by decide +kernel
theorem dX4_fill_215 : decode cX4_fill 215 = .ok (.iload 7, 2) := by decide +kernel
theorem dX4_fill_217 : decode cX4_fill 217 = .ok (.aload_n 0, 1) := by decide +kernel
theorem dX4_fill_218 : decode cX4_fill 218 = .ok (.iload_n 1, 1) := by decide +kernel
theorem dX4_fill_219 : decode cX4_fill 219 = .ok (.iload_n 2, 1) := by decide +kernel
theorem dX4_fill_220 : decode cX4_fill 220 = .ok (.iload_n 3, 1) := by decide +kernel
theorem dX4_fill_221 : decode cX4_fill 221 = .ok (.iconst 1, 1) := by decide +kernel
theorem dX4_fill_222 : decode cX4_fill 222 = .ok (.isub, 1) := by decide +kernel
theorem dX4_fill_223 : decode cX4_fill 223 = .ok (.invokestatic 44, 3) := by decide +kernel
theorem dX4_fill_226 : decode cX4_fill 226 = .ok (.iadd, 1) := by decide +kernel
theorem dX4_fill_227 : decode cX4_fill 227 = .ok (.istore 7, 2) := by decide +kernel
theorem dX4_fill_229 : decode cX4_fill 229 = .ok (.aload_n 0, 1) := by decide +kernel
theorem dX4_fill_230 : decode cX4_fill 230 = .ok (.getfield 18, 3) := by decide +kernel
theorem dX4_fill_233 : decode cX4_fill 233 = .ok (.iload 8, 2) := by decide +kernel
theorem dX4_fill_235 : decode cX4_fill 235 = .ok (.dup2, 1) := by decide +kernel
theorem dX4_fill_236 : decode cX4_fill 236 = .ok (.iaload, 1) := by decide +kernel
theorem dX4_fill_237 : decode cX4_fill 237 = .ok (.iconst 1, 1) := by decide +kernel
theorem dX4_fill_238 : decode cX4_fill 238 = .ok (.iadd, 1) := by decide +kernel
theorem dX4_fill_239 : decode cX4_fill 239 = .ok (.iastore, 1) := by decide +kernel
theorem dX4_fill_240 : decode cX4_fill 240 = .ok (.aload_n 0, 1) := by decide +kernel
theorem dX4_fill_241 : decode cX4_fill 241 = .ok (.getfield 21, 3) := by decide +kernel
theorem dX4_fill_244 : decode cX4_fill 244 = .ok (.iload 8, 2) := by decide +kernel
theorem dX4_fill_246 : decode cX4_fill 246 = .ok (.dup2, 1) := by decide +kernel
theorem dX4_fill_247 : decode cX4_fill 247 = .ok (.iaload, 1) := by decide +kernel
theorem dX4_fill_248 : decode cX4_fill 248 = .ok (.iconst 1, 1) := by decide +kernel
theorem dX4_fill_249 : decode cX4_fill 249 = .ok (.isub, 1) := by decide +kernel
theorem dX4_fill_250 : decode cX4_fill 250 = .ok (.iastore, 1) := by decide +kernel
theorem dX4_fill_251 : decode cX4_fill 251 = .ok (.iinc 8 1, 3) := by decide +kernel
theorem dX4_fill_254 : decode cX4_fill 254 = .ok (.goto (-117), 3) := by decide +kernel
theorem dX4_fill_257 : decode cX4_fill 257 = .ok (.iload 7, 2) := by decide +kernel
theorem dX4_fill_259 : decode cX4_fill 259 = .ok (.ireturn, 1) := by decide +kernel
theorem dX5_init_0 : decode cX5_init 0 = .ok (.aload_n 0, 1) := by decide +kernel
theorem dX5_init_1 : decode cX5_init 1 = .ok (.invokespecial 1, 3) := by decide +kernel
theorem dX5_init_4 : decode cX5_init 4 = .ok (.aload_n 0, 1) := by decide +kernel
theorem dX5_init_5 : decode cX5_init 5 = .ok (.bipush 6, 2) := by decide +kernel
theorem dX5_init_7 : decode cX5_init 7 = .ok (.newarray .int, 2) := by decide +kernel
theorem dX5_init_9 : decode cX5_init 9 = .ok (.putfield 9, 3) := by decide +kernel
theorem dX5_init_12 : decode cX5_init 12 = .ok (.aload_n 0, 1) := by decide +kernel
theorem dX5_init_13 : decode cX5_init 13 = .ok (.iconst 0, 1) := by decide +kernel
theorem dX5_init_14 : decode cX5_init 14 = .ok (.putfield 13, 3) := by decide +kernel
theorem dX5_init_17 : decode cX5_init 17 = .ok (.return_, 1) := by decide +kernel
theorem dX5_isThere_0 : decode cX5_isThere 0 = .ok (.aload_n 0, 1) := by decide +kernel
theorem dX5_isThere_1 : decode cX5_isThere 1 = .ok (.getfield 13, 3) := by decide +kernel
theorem dX5_isThere_4 : decode cX5_isThere 4 = .ok (.ireturn, 1) := by decide +kernel
theorem dX5_vanish_0 : decode cX5_vanish 0 = .ok (.aload_n 0, 1) := by decide +kernel
theorem dX5_vanish_1 : decode cX5_vanish 1 = .ok (.iconst 0, 1) := by decide +kernel
theorem dX5_vanish_2 : decode cX5_vanish 2 = .ok (.putfield 13, 3) := by decide +kernel
theorem dX5_vanish_5 : decode cX5_vanish 5 = .ok (.return_, 1) := by decide +kernel
theorem dX5_span_0 : decode cX5_span 0 = .ok (.iconst 0, 1) := by decide +kernel
theorem dX5_span_1 : decode cX5_span 1 = .ok (.istore 4, 2) := by decide +kernel
theorem dX5_span_3 : decode cX5_span 3 = .ok (.iconst 0, 1) := by decide +kernel
theorem dX5_span_4 : decode cX5_span 4 = .ok (.istore 5, 2) := by decide +kernel
theorem dX5_span_6 : decode cX5_span 6 = .ok (.iload 5, 2) := by decide +kernel
theorem dX5_span_8 : decode cX5_span 8 = .ok (.iconst 3, 1) := by decide +kernel
theorem dX5_span_9 : decode cX5_span 9 = .ok (.if_icmp .ge 75, 3) := by decide +kernel
theorem dX5_span_12 : decode cX5_span 12 = .ok (.iload 5, 2) := by decide +kernel
theorem dX5_span_14 : decode cX5_span 14 = .ok (.iconst 1, 1) := by decide +kernel
theorem dX5_span_15 : decode cX5_span 15 = .ok (.iadd, 1) := by decide +kernel
theorem dX5_span_16 : decode cX5_span 16 = .ok (.istore 6, 2) := by decide +kernel
theorem dX5_span_18 : decode cX5_span 18 = .ok (.iload 6, 2) := by decide +kernel
theorem dX5_span_20 : decode cX5_span 20 = .ok (.iconst 4, 1) := by decide +kernel
theorem dX5_span_21 : decode cX5_span 21 = .ok (.if_icmp .ge 57, 3) := by decide +kernel
theorem dX5_span_24 : decode cX5_span 24 = .ok (.iload 4, 2) := by decide +kernel
theorem dX5_span_26 : decode cX5_span 26 = .ok (.bipush 6, 2) := by decide +kernel
theorem dX5_span_28 : decode cX5_span 28 = .ok (.if_icmp .ge 50, 3) := by decide +kernel
theorem dX5_span_31 : decode cX5_span 31 = .ok (.aload_n 0, 1) := by decide +kernel
theorem dX5_span_32 : decode cX5_span 32 = .ok (.getfield 9, 3) := by decide +kernel
theorem dX5_span_35 : decode cX5_span 35 = .ok (.iload 4, 2) := by decide +kernel
theorem dX5_span_37 : decode cX5_span 37 = .ok (.iload_n 1, 1) := by decide +kernel
theorem dX5_span_38 : decode cX5_span 38 = .ok (.iload 5, 2) := by decide +kernel
theorem dX5_span_40 : decode cX5_span 40 = .ok (.invokestatic 17, 3) := by decide +kernel
theorem dX5_span_43 : decode cX5_span 43 = .ok (.iload_n 2, 1) := by decide +kernel
theorem dX5_span_44 : decode cX5_span 44 = .ok (.iload 6, 2) := by decide +kernel
theorem dX5_span_46 : decode cX5_span 46 = .ok (.invokestatic 17, 3) := by decide +kernel
theorem dX5_span_49 : decode cX5_span 49 = .ok (.imul, 1) := by decide +kernel
theorem dX5_span_50 : decode cX5_span 50 = .ok (.iload_n 1, 1) := by decide +kernel
theorem dX5_span_51 : decode cX5_span 51 = .ok (.iload 6, 2) := by decide +kernel
theorem dX5_span_53 : decode cX5_span 53 = .ok (.invokestatic 17, 3) := by decide +kernel
theorem dX5_span_56 : decode cX5_span 56 = .ok (.iload_n 2, 1) := by decide +kernel
theorem dX5_span_57 : decode cX5_span 57 = .ok (.iload 5, 2) := by decide +kernel
theorem dX5_span_59 : decode cX5_span 59 = .ok (.invokestatic 17, 3) := by decide +kernel
theorem dX5_span_62 : decode cX5_span 62 = .ok (.imul, 1) := by decide +kernel
theorem dX5_span_63 : decode cX5_span 63 = .ok (.isub, 1) := by decide +kernel
theorem dX5_span_64 : decode cX5_span 64 = .ok (.iload_n 3, 1) := by decide +kernel
theorem dX5_span_65 : decode cX5_span 65 = .ok (.invokestatic 23, 3) := by decide +kernel
theorem dX5_span_68 : decode cX5_span 68 = .ok (.iastore, 1) := by decide +kernel
theorem dX5_span_69 : decode cX5_span 69 = .ok (.iinc 4 1, 3) := by decide +kernel
theorem dX5_span_72 : decode cX5_span 72 = .ok (.iinc 6 1, 3) := by decide +kernel
theorem dX5_span_75 : decode cX5_span 75 = .ok (.goto (-57), 3) := by decide +kernel
theorem dX5_span_78 : decode cX5_span 78 = .ok (.iinc 5 1, 3) := by decide +kernel
theorem dX5_span_81 : decode cX5_span 81 = .ok (.goto (-75), 3) := by decide +kernel
theorem dX5_span_84 : decode cX5_span 84 = .ok (.aload_n 0, 1) := by decide +kernel
theorem dX5_span_85 : decode cX5_span 85 = .ok (.aload_n 0, 1) := by decide +kernel
theorem dX5_span_86 : decode cX5_span 86 = .ok (.iload_n 3, 1) := by decide +kernel
theorem dX5_span_87 : decode cX5_span 87 = .ok (.invokevirtual 26, 3) := by decide +kernel
theorem dX5_span_90 : decode cX5_span 90 = .ok (.putfield 13, 3) := by decide +kernel
theorem dX5_span_93 : decode cX5_span 93 = .ok (.aload_n 0, 1) := by decide +kernel
theorem dX5_span_94 : decode cX5_span 94 = .ok (.getfield 13, 3) := by decide +kernel
theorem dX5_span_97 : decode cX5_span 97 = .ok (.ireturn, 1) := by decide +kernel
theorem dX5_normalize_0 : decode cX5_normalize 0 = .ok (.iconst 0, 1) := by decide +kernel
theorem dX5_normalize_1 : decode cX5_normalize 1 = .ok (.istore_n 2, 1) := by decide +kernel
theorem dX5_normalize_2 : decode cX5_normalize 2 = .ok (.iconst 0, 1) := by decide +kernel
theorem dX5_normalize_3 : decode cX5_normalize 3 = .ok (.istore_n 3, 1) := by decide +kernel
theorem dX5_normalize_4 : decode cX5_normalize 4 = .ok (.iload_n 3, 1) := by decide +kernel
theorem dX5_normalize_5 : decode cX5_normalize 5 = .ok (.bipush 6, 2) := by decide +kernel
theorem dX5_normalize_7 : decode cX5_normalize 7 = .ok (.if_icmp .ge 20, 3) := by decide +kernel
theorem dX5_normalize_10 : decode cX5_normalize 10 = .ok (.iload_n 2, 1) := by decide +kernel
theorem dX5_normalize_11 : decode cX5_normalize 11 = .ok (.ifCond .ne 16, 3) := by decide +kernel
theorem dX5_normalize_14 : decode cX5_normalize 14 = .ok (.aload_n 0, 1) := by decide +kernel
theorem dX5_normalize_15 : decode cX5_normalize 15 = .ok (.getfield 9, 3) := by decide +kernel
theorem dX5_normalize_18 : decode cX5_normalize 18 = .ok (.iload_n 3, 1) := by decide +kernel
theorem dX5_normalize_19 : decode cX5_normalize 19 = .ok (.iaload, 1) := by decide +kernel
theorem dX5_normalize_20 : decode cX5_normalize 20 = .ok (.istore_n 2, 1) := by decide +kernel
theorem dX5_normalize_21 : decode cX5_normalize 21 = .ok (.iinc 3 1, 3) := by decide +kernel
theorem dX5_normalize_24 : decode cX5_normalize 24 = .ok (.goto (-20), 3) := by decide +kernel
theorem dX5_normalize_27 : decode cX5_normalize 27 = .ok (.iload_n 2, 1) := by decide +kernel
theorem dX5_normalize_28 : decode cX5_normalize 28 = .ok (.ifCond .ne 5, 3) := by decide +kernel
theorem dX5_normalize_31 : decode cX5_normalize 31 = .ok (.iconst 0, 1) := by decide +kernel
theorem dX5_normalize_32 : decode cX5_normalize 32 = .ok (.ireturn, 1) := by decide +kernel
theorem dX5_normalize_33 : decode cX5_normalize 33 = .ok (.iconst 1, 1) := by decide +kernel
theorem dX5_normalize_34 : decode cX5_normalize 34 = .ok (.istore_n 3, 1) := by decide +kernel
theorem dX5_normalize_35 : decode cX5_normalize 35 = .ok (.iload_n 3, 1) := by decide +kernel
theorem dX5_normalize_36 : decode cX5_normalize 36 = .ok (.iload_n 1, 1) := by decide +kernel
theorem dX5_normalize_37 : decode cX5_normalize 37 = .ok (.if_icmp .ge 20, 3) := by decide +kernel
theorem dX5_normalize_40 : decode cX5_normalize 40 = .ok (.iload_n 3, 1) := by decide +kernel
theorem dX5_normalize_41 : decode cX5_normalize 41 = .ok (.iload_n 2, 1) := by decide +kernel
theorem dX5_normalize_42 : decode cX5_normalize 42 = .ok (.imul, 1) := by decide +kernel
theorem dX5_normalize_43 : decode cX5_normalize 43 = .ok (.iload_n 1, 1) := by decide +kernel
theorem dX5_normalize_44 : decode cX5_normalize 44 = .ok (.invokestatic 23, 3) := by decide +kernel
theorem dX5_normalize_47 : decode cX5_normalize 47 = .ok (.iconst 1, 1) := by decide +kernel
theorem dX5_normalize_48 : decode cX5_normalize 48 = .ok (.if_icmp .eq 9, 3) := by decide +kernel
theorem dX5_normalize_51 : decode cX5_normalize 51 = .ok (.iinc 3 1, 3) := by decide +kernel
theorem dX5_normalize_54 : decode cX5_normalize 54 = .ok (.goto (-19), 3) := by decide +kernel
theorem dX5_normalize_57 : decode cX5_normalize 57 = .ok (.iconst 0, 1) := by decide +kernel
theorem dX5_normalize_58 : decode cX5_normalize 58 = .ok (.istore 4, 2) := by decide +kernel
theorem dX5_normalize_60 : decode cX5_normalize 60 = .ok (.iload 4, 2) := by decide +kernel
theorem dX5_normalize_62 : decode cX5_normalize 62 = .ok (.bipush 6, 2) := by decide +kernel
theorem dX5_normalize_64 : decode cX5_normalize 64 = .ok (.if_icmp .ge 29, 3) := by decide +kernel
theorem dX5_normalize_67 : decode cX5_normalize 67 = .ok (.aload_n 0, 1) := by decide +kernel
theorem dX5_normalize_68 : decode cX5_normalize 68 = .ok (.getfield 9, 3) := by decide +kernel
theorem dX5_normalize_71 : decode cX5_normalize 71 = .ok (.iload 4, 2) := by decide +kernel
theorem dX5_normalize_73 : decode cX5_normalize 73 = .ok (.aload_n 0, 1) := by decide +kernel
theorem dX5_normalize_74 : decode cX5_normalize 74 = .ok (.getfield 9, 3) := by decide +kernel
theorem dX5_normalize_77 : decode cX5_normalize 77 = .ok (.iload 4, 2) := by decide +kernel
theorem dX5_normalize_79 : decode cX5_normalize 79 = .ok (.iaload, 1) := by decide +kernel
theorem dX5_normalize_80 : decode cX5_normalize 80 = .ok (.iload_n 3, 1) := by decide +kernel
theorem dX5_normalize_81 : decode cX5_normalize 81 = .ok (.imul, 1) := by decide +kernel
theorem dX5_normalize_82 : decode cX5_normalize 82 = .ok (.iload_n 1, 1) := by decide +kernel
theorem dX5_normalize_83 : decode cX5_normalize 83 = .ok (.invokestatic 23, 3) := by decide +kernel
theorem dX5_normalize_86 : decode cX5_normalize 86 = .ok (.iastore, 1) := by decide +kernel
theorem dX5_normalize_87 : decode cX5_normalize 87 = .ok (.iinc 4 1, 3) := by decide +kernel
theorem dX5_normalize_90 : decode cX5_normalize 90 = .ok (.goto (-30), 3) := by decide +kernel
theorem dX5_normalize_93 : decode cX5_normalize 93 = .ok (.iconst 1, 1) := by decide +kernel
theorem dX5_normalize_94 : decode cX5_normalize 94 = .ok (.ireturn, 1) := by decide +kernel
theorem dX5_copy_0 : decode cX5_copy 0 = .ok (.iconst 0, 1) := by decide +kernel
theorem dX5_copy_1 : decode cX5_copy 1 = .ok (.istore_n 2, 1) := by decide +kernel
theorem dX5_copy_2 : decode cX5_copy 2 = .ok (.iload_n 2, 1) := by decide +kernel
theorem dX5_copy_3 : decode cX5_copy 3 = .ok (.bipush 6, 2) := by decide +kernel
theorem dX5_copy_5 : decode cX5_copy 5 = .ok (.if_icmp .ge 21, 3) := by decide +kernel
theorem dX5_copy_8 : decode cX5_copy 8 = .ok (.aload_n 0, 1) := by decide +kernel
theorem dX5_copy_9 : decode cX5_copy 9 = .ok (.getfield 9, 3) := by decide +kernel
theorem dX5_copy_12 : decode cX5_copy 12 = .ok (.iload_n 2, 1) := by decide +kernel
theorem dX5_copy_13 : decode cX5_copy 13 = .ok (.aload_n 1, 1) := by decide +kernel
theorem dX5_copy_14 : decode cX5_copy 14 = .ok (.getfield 9, 3) := by decide +kernel
theorem dX5_copy_17 : decode cX5_copy 17 = .ok (.iload_n 2, 1) := by decide +kernel
theorem dX5_copy_18 : decode cX5_copy 18 = .ok (.iaload, 1) := by decide +kernel
theorem dX5_copy_19 : decode cX5_copy 19 = .ok (.iastore, 1) := by decide +kernel
theorem dX5_copy_20 : decode cX5_copy 20 = .ok (.iinc 2 1, 3) := by decide +kernel
theorem dX5_copy_23 : decode cX5_copy 23 = .ok (.goto (-21), 3) := by decide +kernel
theorem dX5_copy_26 : decode cX5_copy 26 = .ok (.aload_n 0, 1) := by decide +kernel
theorem dX5_copy_27 : decode cX5_copy 27 = .ok (.aload_n 1, 1) := by decide +kernel
theorem dX5_copy_28 : decode cX5_copy 28 = .ok (.getfield 13, 3) := by decide +kernel
theorem dX5_copy_31 : decode cX5_copy 31 = .ok (.putfield 13, 3) := by decide +kernel
theorem dX5_copy_34 : decode cX5_copy 34 = .ok (.return_, 1) := by decide +kernel
theorem dX5_isLike_0 : decode cX5_isLike 0 = .ok (.iconst 0, 1) := by decide +kernel
theorem dX5_isLike_1 : decode cX5_isLike 1 = .ok (.istore_n 2, 1) := by decide +kernel
theorem dX5_isLike_2 : decode cX5_isLike 2 = .ok (.iload_n 2, 1) := by decide +kernel
theorem dX5_isLike_3 : decode cX5_isLike 3 = .ok (.bipush 6, 2) := by decide +kernel
theorem dX5_isLike_5 : decode cX5_isLike 5 = .ok (.if_icmp .ge 26, 3) := by decide +kernel
theorem dX5_isLike_8 : decode cX5_isLike 8 = .ok (.aload_n 0, 1) := by decide +kernel
theorem dX5_isLike_9 : decode cX5_isLike 9 = .ok (.getfield 9, 3) := by decide +kernel
theorem dX5_isLike_12 : decode cX5_isLike 12 = .ok (.iload_n 2, 1) := by decide +kernel
theorem dX5_isLike_13 : decode cX5_isLike 13 = .ok (.iaload, 1) := by decide +kernel
theorem dX5_isLike_14 : decode cX5_isLike 14 = .ok (.aload_n 1, 1) := by decide +kernel
theorem dX5_isLike_15 : decode cX5_isLike 15 = .ok (.getfield 9, 3) := by decide +kernel
theorem dX5_isLike_18 : decode cX5_isLike 18 = .ok (.iload_n 2, 1) := by decide +kernel
theorem dX5_isLike_19 : decode cX5_isLike 19 = .ok (.iaload, 1) := by decide +kernel
theorem dX5_isLike_20 : decode cX5_isLike 20 = .ok (.if_icmp .eq 5, 3) := by decide +kernel
theorem dX5_isLike_23 : decode cX5_isLike 23 = .ok (.iconst 0, 1) := by decide +kernel
theorem dX5_isLike_24 : decode cX5_isLike 24 = .ok (.ireturn, 1) := by decide +kernel
theorem dX5_isLike_25 : decode cX5_isLike 25 = .ok (.iinc 2 1, 3) := by decide +kernel
theorem dX5_isLike_28 : decode cX5_isLike 28 = .ok (.goto (-26), 3) := by decide +kernel
theorem dX5_isLike_31 : decode cX5_isLike 31 = .ok (.iconst 1, 1) := by decide +kernel
theorem dX5_isLike_32 : decode cX5_isLike 32 = .ok (.ireturn, 1) := by decide +kernel
theorem dX5_crosses_0 : decode cX5_crosses 0 = .ok (.iconst 0, 1) := by decide +kernel
theorem dX5_crosses_1 : decode cX5_crosses 1 = .ok (.istore_n 3, 1) := by decide +kernel
theorem dX5_crosses_2 : decode cX5_crosses 2 = .ok (.iconst 0, 1) := by decide +kernel
theorem dX5_crosses_3 : decode cX5_crosses 3 = .ok (.istore 4, 2) := by decide +kernel
theorem dX5_crosses_5 : decode cX5_crosses 5 = .ok (.iload 4, 2) := by decide +kernel
theorem dX5_crosses_7 : decode cX5_crosses 7 = .ok (.bipush 6, 2) := by decide +kernel
theorem dX5_crosses_9 : decode cX5_crosses 9 = .ok (.if_icmp .ge 51, 3) := by decide +kernel
theorem dX5_crosses_12 : decode cX5_crosses 12 = .ok (.aload_n 0, 1) := by decide +kernel
theorem dX5_crosses_13 : decode cX5_crosses 13 = .ok (.getfield 9, 3) := by decide +kernel
theorem dX5_crosses_16 : decode cX5_crosses 16 = .ok (.iload 4, 2) := by decide +kernel
theorem dX5_crosses_18 : decode cX5_crosses 18 = .ok (.iaload, 1) := by decide +kernel
theorem dX5_crosses_19 : decode cX5_crosses 19 = .ok (.aload_n 1, 1) := by decide +kernel
theorem dX5_crosses_20 : decode cX5_crosses 20 = .ok (.getfield 9, 3) := by decide +kernel
theorem dX5_crosses_23 : decode cX5_crosses 23 = .ok (.iconst 5, 1) := by decide +kernel
theorem dX5_crosses_24 : decode cX5_crosses 24 = .ok (.iload 4, 2) := by decide +kernel
theorem dX5_crosses_26 : decode cX5_crosses 26 = .ok (.isub, 1) := by decide +kernel
theorem dX5_crosses_27 : decode cX5_crosses 27 = .ok (.iaload, 1) := by decide +kernel
theorem dX5_crosses_28 : decode cX5_crosses 28 = .ok (.imul, 1) := by decide +kernel
theorem dX5_crosses_29 : decode cX5_crosses 29 = .ok (.istore 5, 2) := by decide +kernel
theorem dX5_crosses_31 : decode cX5_crosses 31 = .ok (.iload_n 3, 1) := by decide +kernel
theorem dX5_crosses_32 : decode cX5_crosses 32 = .ok (.iload 4, 2) := by decide +kernel
theorem dX5_crosses_34 : decode cX5_crosses 34 = .ok (.iconst 1, 1) := by decide +kernel
theorem dX5_crosses_35 : decode cX5_crosses 35 = .ok (.if_icmp .eq 9, 3) := by decide +kernel
theorem dX5_crosses_38 : decode cX5_crosses 38 = .ok (.iload 4, 2) := by decide +kernel
theorem dX5_crosses_40 : decode cX5_crosses 40 = .ok (.iconst 4, 1) := by decide +kernel
theorem dX5_crosses_41 : decode cX5_crosses 41 = .ok (.if_icmp .ne 9, 3) := by decide +kernel
theorem dX5_crosses_44 : decode cX5_crosses 44 = .ok (.iload 5, 2) := by decide +kernel
theorem dX5_crosses_46 : decode cX5_crosses 46 = .ok (.ineg, 1) := by decide +kernel
theorem dX5_crosses_47 : decode cX5_crosses 47 = .ok (.goto 5, 3) := by decide +kernel
theorem dX5_crosses_50 : decode cX5_crosses 50 = .ok (.iload 5, 2) := by decide +kernel
theorem dX5_crosses_52 : decode cX5_crosses 52 = .ok (.iadd, 1) := by decide +kernel
theorem dX5_crosses_53 : decode cX5_crosses 53 = .ok (.istore_n 3, 1) := by decide +kernel
theorem dX5_crosses_54 : decode cX5_crosses 54 = .ok (.iinc 4 1, 3) := by decide +kernel
theorem dX5_crosses_57 : decode cX5_crosses 57 = .ok (.goto (-52), 3) := by decide +kernel
theorem dX5_crosses_60 : decode cX5_crosses 60 = .ok (.iload_n 3, 1) := by decide +kernel
theorem dX5_crosses_61 : decode cX5_crosses 61 = .ok (.iload_n 2, 1) := by decide +kernel
theorem dX5_crosses_62 : decode cX5_crosses 62 = .ok (.invokestatic 23, 3) := by decide +kernel
theorem dX5_crosses_65 : decode cX5_crosses 65 = .ok (.ifCond .ne 7, 3) := by decide +kernel
theorem dX5_crosses_68 : decode cX5_crosses 68 = .ok (.iconst 1, 1) := by decide +kernel
theorem dX5_crosses_69 : decode cX5_crosses 69 = .ok (.goto 4, 3) := by decide +kernel
theorem dX5_crosses_72 : decode cX5_crosses 72 = .ok (.iconst 0, 1) := by decide +kernel
theorem dX5_crosses_73 : decode cX5_crosses 73 = .ok (.ireturn, 1) := by decide +kernel
theorem dX5_holds_0 : decode cX5_holds 0 = .ok (.iconst 0, 1) := by decide +kernel
theorem dX5_holds_1 : decode cX5_holds 1 = .ok (.istore_n 3, 1) := by decide +kernel
theorem dX5_holds_2 : decode cX5_holds 2 = .ok (.iload_n 3, 1) := by decide +kernel
theorem dX5_holds_3 : decode cX5_holds 3 = .ok (.iconst 4, 1) := by decide +kernel
theorem dX5_holds_4 : decode cX5_holds 4 = .ok (.if_icmp .ge 104, 3) := by decide +kernel
theorem dX5_holds_7 : decode cX5_holds 7 = .ok (.iload_n 3, 1) := by decide +kernel
theorem dX5_holds_8 : decode cX5_holds 8 = .ok (.ifCond .ne 7, 3) := by decide +kernel
theorem dX5_holds_11 : decode cX5_holds 11 = .ok (.iconst 1, 1) := by decide +kernel
theorem dX5_holds_12 : decode cX5_holds 12 = .ok (.goto 4, 3) := by decide +kernel
theorem dX5_holds_15 : decode cX5_holds 15 = .ok (.iconst 0, 1) := by decide +kernel
theorem dX5_holds_16 : decode cX5_holds 16 = .ok (.istore 4, 2) := by decide +kernel
theorem dX5_holds_18 : decode cX5_holds 18 = .ok (.iload_n 3, 1) := by decide +kernel
theorem dX5_holds_19 : decode cX5_holds 19 = .ok (.iconst 1, 1) := by decide +kernel
theorem dX5_holds_20 : decode cX5_holds 20 = .ok (.if_icmp .gt 7, 3) := by decide +kernel
theorem dX5_holds_23 : decode cX5_holds 23 = .ok (.iconst 2, 1) := by decide +kernel
theorem dX5_holds_24 : decode cX5_holds 24 = .ok (.goto 4, 3) := by decide +kernel
theorem dX5_holds_27 : decode cX5_holds 27 = .ok (.iconst 1, 1) := by decide +kernel
theorem dX5_holds_28 : decode cX5_holds 28 = .ok (.istore 5, 2) := by decide +kernel
theorem dX5_holds_30 : decode cX5_holds 30 = .ok (.iload_n 3, 1) := by decide +kernel
theorem dX5_holds_31 : decode cX5_holds 31 = .ok (.iconst 2, 1) := by decide +kernel
theorem dX5_holds_32 : decode cX5_holds 32 = .ok (.if_icmp .gt 7, 3) := by decide +kernel
theorem dX5_holds_35 : decode cX5_holds 35 = .ok (.iconst 3, 1) := by decide +kernel
theorem dX5_holds_36 : decode cX5_holds 36 = .ok (.goto 4, 3) := by decide +kernel
theorem dX5_holds_39 : decode cX5_holds 39 = .ok (.iconst 2, 1) := by decide +kernel
theorem dX5_holds_40 : decode cX5_holds 40 = .ok (.istore 6, 2) := by decide +kernel
theorem dX5_holds_42 : decode cX5_holds 42 = .ok (.iload_n 1, 1) := by decide +kernel
theorem dX5_holds_43 : decode cX5_holds 43 = .ok (.iload 4, 2) := by decide +kernel
theorem dX5_holds_45 : decode cX5_holds 45 = .ok (.invokestatic 17, 3) := by decide +kernel
theorem dX5_holds_48 : decode cX5_holds 48 = .ok (.aload_n 0, 1) := by decide +kernel
theorem dX5_holds_49 : decode cX5_holds 49 = .ok (.iload 5, 2) := by decide +kernel
theorem dX5_holds_51 : decode cX5_holds 51 = .ok (.iload 6, 2) := by decide +kernel
theorem dX5_holds_53 : decode cX5_holds 53 = .ok (.invokevirtual 30, 3) := by decide +kernel
theorem dX5_holds_56 : decode cX5_holds 56 = .ok (.imul, 1) := by decide +kernel
theorem dX5_holds_57 : decode cX5_holds 57 = .ok (.iload_n 1, 1) := by decide +kernel
theorem dX5_holds_58 : decode cX5_holds 58 = .ok (.iload 5, 2) := by decide +kernel
theorem dX5_holds_60 : decode cX5_holds 60 = .ok (.invokestatic 17, 3) := by decide +kernel
theorem dX5_holds_63 : decode cX5_holds 63 = .ok (.aload_n 0, 1) := by decide +kernel
theorem dX5_holds_64 : decode cX5_holds 64 = .ok (.iload 4, 2) := by decide +kernel
theorem dX5_holds_66 : decode cX5_holds 66 = .ok (.iload 6, 2) := by decide +kernel
theorem dX5_holds_68 : decode cX5_holds 68 = .ok (.invokevirtual 30, 3) := by decide +kernel
theorem dX5_holds_71 : decode cX5_holds 71 = .ok (.imul, 1) := by decide +kernel
theorem dX5_holds_72 : decode cX5_holds 72 = .ok (.isub, 1) := by decide +kernel
theorem dX5_holds_73 : decode cX5_holds 73 = .ok (.iload_n 1, 1) := by decide +kernel
theorem dX5_holds_74 : decode cX5_holds 74 = .ok (.iload 6, 2) := by decide +kernel
theorem dX5_holds_76 : decode cX5_holds 76 = .ok (.invokestatic 17, 3) := by decide +kernel
theorem dX5_holds_79 : decode cX5_holds 79 = .ok (.aload_n 0, 1) := by decide +kernel
theorem dX5_holds_80 : decode cX5_holds 80 = .ok (.iload 4, 2) := by decide +kernel
theorem dX5_holds_82 : decode cX5_holds 82 = .ok (.iload 5, 2) := by decide +kernel
theorem dX5_holds_84 : decode cX5_holds 84 = .ok (.invokevirtual 30, 3) := by decide +kernel
theorem dX5_holds_87 : decode cX5_holds 87 = .ok (.imul, 1) := by decide +kernel
theorem dX5_holds_88 : decode cX5_holds 88 = .ok (.iadd, 1) := by decide +kernel
theorem dX5_holds_89 : decode cX5_holds 89 = .ok (.istore 7, 2) := by decide +kernel
theorem dX5_holds_91 : decode cX5_holds 91 = .ok (.iload 7, 2) := by decide +kernel
theorem dX5_holds_93 : decode cX5_holds 93 = .ok (.iload_n 2, 1) := by decide +kernel
theorem dX5_holds_94 : decode cX5_holds 94 = .ok (.invokestatic 23, 3) := by decide +kernel
theorem dX5_holds_97 : decode cX5_holds 97 = .ok (.ifCond .eq 5, 3) := by decide +kernel
theorem dX5_holds_100 : decode cX5_holds 100 = .ok (.iconst 0, 1) := by decide +kernel
theorem dX5_holds_101 : decode cX5_holds 101 = .ok (.ireturn, 1) := by decide +kernel
theorem dX5_holds_102 : decode cX5_holds 102 = .ok (.iinc 3 1, 3) := by decide +kernel
theorem dX5_holds_105 : decode cX5_holds 105 = .ok (.goto (-103), 3) := by decide +kernel
theorem dX5_holds_108 : decode cX5_holds 108 = .ok (.iconst 1, 1) := by decide +kernel
theorem dX5_holds_109 : decode cX5_holds 109 = .ok (.ireturn, 1) := by decide +kernel
theorem dX5_pair_0 : decode cX5_pair 0 = .ok (.iload_n 1, 1) := by decide +kernel
theorem dX5_pair_1 : decode cX5_pair 1 = .ok (.ifCond .ne 9, 3) := by decide +kernel
theorem dX5_pair_4 : decode cX5_pair 4 = .ok (.iload_n 2, 1) := by decide +kernel
theorem dX5_pair_5 : decode cX5_pair 5 = .ok (.iconst 1, 1) := by decide +kernel
theorem dX5_pair_6 : decode cX5_pair 6 = .ok (.isub, 1) := by decide +kernel
theorem dX5_pair_7 : decode cX5_pair 7 = .ok (.goto 6, 3) := by decide +kernel
theorem dX5_pair_10 : decode cX5_pair 10 = .ok (.iload_n 1, 1) := by decide +kernel
theorem dX5_pair_11 : decode cX5_pair 11 = .ok (.iload_n 2, 1) := by decide +kernel
theorem dX5_pair_12 : decode cX5_pair 12 = .ok (.iadd, 1) := by decide +kernel
theorem dX5_pair_13 : decode cX5_pair 13 = .ok (.istore_n 3, 1) := by decide +kernel
theorem dX5_pair_14 : decode cX5_pair 14 = .ok (.iload_n 3, 1) := by decide +kernel
theorem dX5_pair_15 : decode cX5_pair 15 = .ok (.ifCond .lt 18, 3) := by decide +kernel
theorem dX5_pair_18 : decode cX5_pair 18 = .ok (.iload_n 3, 1) := by decide +kernel
theorem dX5_pair_19 : decode cX5_pair 19 = .ok (.bipush 6, 2) := by decide +kernel
theorem dX5_pair_21 : decode cX5_pair 21 = .ok (.if_icmp .ge 12, 3) := by decide +kernel
theorem dX5_pair_24 : decode cX5_pair 24 = .ok (.aload_n 0, 1) := by decide +kernel
theorem dX5_pair_25 : decode cX5_pair 25 = .ok (.getfield 9, 3) := by decide +kernel
theorem dX5_pair_28 : decode cX5_pair 28 = .ok (.iload_n 3, 1) := by decide +kernel
theorem dX5_pair_29 : decode cX5_pair 29 = .ok (.iaload, 1) := by decide +kernel
theorem dX5_pair_30 : decode cX5_pair 30 = .ok (.goto 4, 3) := by decide +kernel
theorem dX5_pair_33 : decode cX5_pair 33 = .ok (.iconst 0, 1) := by decide +kernel
theorem dX5_pair_34 : decode cX5_pair 34 = .ok (.ireturn, 1) := by decide +kernel
theorem dX5_rest_0 : decode cX5_rest 0 = .ok (.iload_n 1, 1) := by decide +kernel
theorem dX5_rest_1 : decode cX5_rest 1 = .ok (.ifCond .le 11, 3) := by decide +kernel
theorem dX5_rest_4 : decode cX5_rest 4 = .ok (.iload_n 0, 1) := by decide +kernel
theorem dX5_rest_5 : decode cX5_rest 5 = .ok (.iload_n 1, 1) := by decide +kernel
theorem dX5_rest_6 : decode cX5_rest 6 = .ok (.invokestatic 33, 3) := by decide +kernel
theorem dX5_rest_9 : decode cX5_rest 9 = .ok (.goto 4, 3) := by decide +kernel
theorem dX5_rest_12 : decode cX5_rest 12 = .ok (.iconst 0, 1) := by decide +kernel
theorem dX5_rest_13 : decode cX5_rest 13 = .ok (.ireturn, 1) := by decide +kernel
theorem dX6_figures_0 : decode cX6_figures 0 = .ok (.iload_n 0, 1) := by decide +kernel
theorem dX6_figures_1 : decode cX6_figures 1 = .ok (.iconst 1, 1) := by decide +kernel
theorem dX6_figures_2 : decode cX6_figures 2 = .ok (.if_icmp .lt 9, 3) := by decide +kernel
theorem dX6_figures_5 : decode cX6_figures 5 = .ok (.iload_n 0, 1) := by decide +kernel
theorem dX6_figures_6 : decode cX6_figures 6 = .ok (.ldc 9, 2) := by decide +kernel
theorem dX6_figures_8 : decode cX6_figures 8 = .ok (.if_icmp .le 5, 3) := by decide +kernel
theorem dX6_figures_11 : decode cX6_figures 11 = .ok (.iconst 0, 1) := by decide +kernel
theorem dX6_figures_12 : decode cX6_figures 12 = .ok (.ireturn, 1) := by decide +kernel
theorem dX6_figures_13 : decode cX6_figures 13 = .ok (.iconst 0, 1) := by decide +kernel
theorem dX6_figures_14 : decode cX6_figures 14 = .ok (.istore_n 1, 1) := by decide +kernel
theorem dX6_figures_15 : decode cX6_figures 15 = .ok (.iconst 0, 1) := by decide +kernel
theorem dX6_figures_16 : decode cX6_figures 16 = .ok (.istore_n 2, 1) := by decide +kernel
theorem dX6_figures_17 : decode cX6_figures 17 = .ok (.iload_n 0, 1) := by decide +kernel
theorem dX6_figures_18 : decode cX6_figures 18 = .ok (.istore_n 3, 1) := by decide +kernel
theorem dX6_figures_19 : decode cX6_figures 19 = .ok (.iload_n 1, 1) := by decide +kernel
theorem dX6_figures_20 : decode cX6_figures 20 = .ok (.iconst 5, 1) := by decide +kernel
theorem dX6_figures_21 : decode cX6_figures 21 = .ok (.if_icmp .ge 27, 3) := by decide +kernel
theorem dX6_figures_24 : decode cX6_figures 24 = .ok (.iload_n 3, 1) := by decide +kernel
theorem dX6_figures_25 : decode cX6_figures 25 = .ok (.ifCond .le 23, 3) := by decide +kernel
theorem dX6_figures_28 : decode cX6_figures 28 = .ok (.iload_n 2, 1) := by decide +kernel
theorem dX6_figures_29 : decode cX6_figures 29 = .ok (.iconst 1, 1) := by decide +kernel
theorem dX6_figures_30 : decode cX6_figures 30 = .ok (.iload_n 3, 1) := by decide +kernel
theorem dX6_figures_31 : decode cX6_figures 31 = .ok (.bipush 10, 2) := by decide +kernel
theorem dX6_figures_33 : decode cX6_figures 33 = .ok (.irem, 1) := by decide +kernel
theorem dX6_figures_34 : decode cX6_figures 34 = .ok (.ishl, 1) := by decide +kernel
theorem dX6_figures_35 : decode cX6_figures 35 = .ok (.ior, 1) := by decide +kernel
theorem dX6_figures_36 : decode cX6_figures 36 = .ok (.istore_n 2, 1) := by decide +kernel
theorem dX6_figures_37 : decode cX6_figures 37 = .ok (.iload_n 3, 1) := by decide +kernel
theorem dX6_figures_38 : decode cX6_figures 38 = .ok (.bipush 10, 2) := by decide +kernel
theorem dX6_figures_40 : decode cX6_figures 40 = .ok (.idiv, 1) := by decide +kernel
theorem dX6_figures_41 : decode cX6_figures 41 = .ok (.istore_n 3, 1) := by decide +kernel
theorem dX6_figures_42 : decode cX6_figures 42 = .ok (.iinc 1 1, 3) := by decide +kernel
theorem dX6_figures_45 : decode cX6_figures 45 = .ok (.goto (-26), 3) := by decide +kernel
theorem dX6_figures_48 : decode cX6_figures 48 = .ok (.iload_n 2, 1) := by decide +kernel
theorem dX6_figures_49 : decode cX6_figures 49 = .ok (.iconst 1, 1) := by decide +kernel
theorem dX6_figures_50 : decode cX6_figures 50 = .ok (.iload_n 1, 1) := by decide +kernel
theorem dX6_figures_51 : decode cX6_figures 51 = .ok (.iconst 1, 1) := by decide +kernel
theorem dX6_figures_52 : decode cX6_figures 52 = .ok (.iadd, 1) := by decide +kernel
theorem dX6_figures_53 : decode cX6_figures 53 = .ok (.ishl, 1) := by decide +kernel
theorem dX6_figures_54 : decode cX6_figures 54 = .ok (.iconst 2, 1) := by decide +kernel
theorem dX6_figures_55 : decode cX6_figures 55 = .ok (.isub, 1) := by decide +kernel
theorem dX6_figures_56 : decode cX6_figures 56 = .ok (.if_icmp .ne 7, 3) := by decide +kernel
theorem dX6_figures_59 : decode cX6_figures 59 = .ok (.iload_n 1, 1) := by decide +kernel
theorem dX6_figures_60 : decode cX6_figures 60 = .ok (.goto 4, 3) := by decide +kernel
theorem dX6_figures_63 : decode cX6_figures 63 = .ok (.iconst 0, 1) := by decide +kernel
theorem dX6_figures_64 : decode cX6_figures 64 = .ok (.ireturn, 1) := by decide +kernel
theorem dX6_figure_0 : decode cX6_figure 0 = .ok (.iload_n 0, 1) := by decide +kernel
theorem dX6_figure_1 : decode cX6_figure 1 = .ok (.iload_n 1, 1) := by decide +kernel
theorem dX6_figure_2 : decode cX6_figure 2 = .ok (.iload_n 2, 1) := by decide +kernel
theorem dX6_figure_3 : decode cX6_figure 3 = .ok (.isub, 1) := by decide +kernel
theorem dX6_figure_4 : decode cX6_figure 4 = .ok (.invokestatic 10, 3) := by decide +kernel
theorem dX6_figure_7 : decode cX6_figure 7 = .ok (.ireturn, 1) := by decide +kernel
theorem dX6_falls_0 : decode cX6_falls 0 = .ok (.iconst 0, 1) := by decide +kernel
theorem dX6_falls_1 : decode cX6_falls 1 = .ok (.istore_n 2, 1) := by decide +kernel
theorem dX6_falls_2 : decode cX6_falls 2 = .ok (.iconst 1, 1) := by decide +kernel
theorem dX6_falls_3 : decode cX6_falls 3 = .ok (.istore_n 3, 1) := by decide +kernel
theorem dX6_falls_4 : decode cX6_falls 4 = .ok (.iload_n 3, 1) := by decide +kernel
theorem dX6_falls_5 : decode cX6_falls 5 = .ok (.iload_n 1, 1) := by decide +kernel
theorem dX6_falls_6 : decode cX6_falls 6 = .ok (.if_icmp .ge 45, 3) := by decide +kernel
theorem dX6_falls_9 : decode cX6_falls 9 = .ok (.iload_n 3, 1) := by decide +kernel
theorem dX6_falls_10 : decode cX6_falls 10 = .ok (.iconst 1, 1) := by decide +kernel
theorem dX6_falls_11 : decode cX6_falls 11 = .ok (.iadd, 1) := by decide +kernel
theorem dX6_falls_12 : decode cX6_falls 12 = .ok (.istore 4, 2) := by decide +kernel
theorem dX6_falls_14 : decode cX6_falls 14 = .ok (.iload 4, 2) := by decide +kernel
theorem dX6_falls_16 : decode cX6_falls 16 = .ok (.iload_n 1, 1) := by decide +kernel
theorem dX6_falls_17 : decode cX6_falls 17 = .ok (.if_icmp .gt 28, 3) := by decide +kernel
theorem dX6_falls_20 : decode cX6_falls 20 = .ok (.iload_n 0, 1) := by decide +kernel
theorem dX6_falls_21 : decode cX6_falls 21 = .ok (.iload_n 1, 1) := by decide +kernel
theorem dX6_falls_22 : decode cX6_falls 22 = .ok (.iload_n 3, 1) := by decide +kernel
theorem dX6_falls_23 : decode cX6_falls 23 = .ok (.invokestatic 16, 3) := by decide +kernel
theorem dX6_falls_26 : decode cX6_falls 26 = .ok (.iload_n 0, 1) := by decide +kernel
theorem dX6_falls_27 : decode cX6_falls 27 = .ok (.iload_n 1, 1) := by decide +kernel
theorem dX6_falls_28 : decode cX6_falls 28 = .ok (.iload 4, 2) := by decide +kernel
theorem dX6_falls_30 : decode cX6_falls 30 = .ok (.invokestatic 16, 3) := by decide +kernel
theorem dX6_falls_33 : decode cX6_falls 33 = .ok (.if_icmp .le 6, 3) := by decide +kernel
theorem dX6_falls_36 : decode cX6_falls 36 = .ok (.iinc 2 1, 3) := by decide +kernel
theorem dX6_falls_39 : decode cX6_falls 39 = .ok (.iinc 4 1, 3) := by decide +kernel
theorem dX6_falls_42 : decode cX6_falls 42 = .ok (.goto (-28), 3) := by decide +kernel
theorem dX6_falls_45 : decode cX6_falls 45 = .ok (.iinc 3 1, 3) := by decide +kernel
theorem dX6_falls_48 : decode cX6_falls 48 = .ok (.goto (-44), 3) := by decide +kernel
theorem dX6_falls_51 : decode cX6_falls 51 = .ok (.iload_n 2, 1) := by decide +kernel
theorem dX6_falls_52 : decode cX6_falls 52 = .ok (.ireturn, 1) := by decide +kernel
theorem dX6_swapped_0 : decode cX6_swapped 0 = .ok (.iload_n 0, 1) := by decide +kernel
theorem dX6_swapped_1 : decode cX6_swapped 1 = .ok (.iload_n 1, 1) := by decide +kernel
theorem dX6_swapped_2 : decode cX6_swapped 2 = .ok (.iload_n 3, 1) := by decide +kernel
theorem dX6_swapped_3 : decode cX6_swapped 3 = .ok (.invokestatic 16, 3) := by decide +kernel
theorem dX6_swapped_6 : decode cX6_swapped 6 = .ok (.iload_n 0, 1) := by decide +kernel
theorem dX6_swapped_7 : decode cX6_swapped 7 = .ok (.iload_n 1, 1) := by decide +kernel
theorem dX6_swapped_8 : decode cX6_swapped 8 = .ok (.iload_n 2, 1) := by decide +kernel
theorem dX6_swapped_9 : decode cX6_swapped 9 = .ok (.invokestatic 16, 3) := by decide +kernel
theorem dX6_swapped_12 : decode cX6_swapped 12 = .ok (.isub, 1) := by decide +kernel
theorem dX6_swapped_13 : decode cX6_swapped 13 = .ok (.istore 4, 2) := by decide +kernel
theorem dX6_swapped_15 : decode cX6_swapped 15 = .ok (.iload_n 0, 1) := by decide +kernel
theorem dX6_swapped_16 : decode cX6_swapped 16 = .ok (.iload 4, 2) := by decide +kernel
theorem dX6_swapped_18 : decode cX6_swapped 18 = .ok (.bipush 10, 2) := by decide +kernel
theorem dX6_swapped_20 : decode cX6_swapped 20 = .ok (.iload_n 1, 1) := by decide +kernel
theorem dX6_swapped_21 : decode cX6_swapped 21 = .ok (.iload_n 2, 1) := by decide +kernel
theorem dX6_swapped_22 : decode cX6_swapped 22 = .ok (.isub, 1) := by decide +kernel
theorem dX6_swapped_23 : decode cX6_swapped 23 = .ok (.invokestatic 22, 3) := by decide +kernel
theorem dX6_swapped_26 : decode cX6_swapped 26 = .ok (.bipush 10, 2) := by decide +kernel
theorem dX6_swapped_28 : decode cX6_swapped 28 = .ok (.iload_n 1, 1) := by decide +kernel
theorem dX6_swapped_29 : decode cX6_swapped 29 = .ok (.iload_n 3, 1) := by decide +kernel
theorem dX6_swapped_30 : decode cX6_swapped 30 = .ok (.isub, 1) := by decide +kernel
theorem dX6_swapped_31 : decode cX6_swapped 31 = .ok (.invokestatic 22, 3) := by decide +kernel
theorem dX6_swapped_34 : decode cX6_swapped 34 = .ok (.isub, 1) := by decide +kernel
theorem dX6_swapped_35 : decode cX6_swapped 35 = .ok (.imul, 1) := by decide +kernel
theorem dX6_swapped_36 : decode cX6_swapped 36 = .ok (.iadd, 1) := by decide +kernel
theorem dX6_swapped_37 : decode cX6_swapped 37 = .ok (.ireturn, 1) := by decide +kernel
theorem dX6_inverted_0 : decode cX6_inverted 0 = .ok (.iconst 0, 1) := by decide +kernel
theorem dX6_inverted_1 : decode cX6_inverted 1 = .ok (.istore_n 2, 1) := by decide +kernel
theorem dX6_inverted_2 : decode cX6_inverted 2 = .ok (.iconst 1, 1) := by decide +kernel
theorem dX6_inverted_3 : decode cX6_inverted 3 = .ok (.istore_n 3, 1) := by decide +kernel
theorem dX6_inverted_4 : decode cX6_inverted 4 = .ok (.iload_n 3, 1) := by decide +kernel
theorem dX6_inverted_5 : decode cX6_inverted 5 = .ok (.iload_n 1, 1) := by decide +kernel
theorem dX6_inverted_6 : decode cX6_inverted 6 = .ok (.if_icmp .gt 27, 3) := by decide +kernel
theorem dX6_inverted_9 : decode cX6_inverted 9 = .ok (.iload_n 2, 1) := by decide +kernel
theorem dX6_inverted_10 : decode cX6_inverted 10 = .ok (.iload_n 3, 1) := by decide +kernel
theorem dX6_inverted_11 : decode cX6_inverted 11 = .ok (.bipush 10, 2) := by decide +kernel
theorem dX6_inverted_13 : decode cX6_inverted 13 = .ok (.iload_n 1, 1) := by decide +kernel
theorem dX6_inverted_14 : decode cX6_inverted 14 = .ok (.iload_n 0, 1) := by decide +kernel
theorem dX6_inverted_15 : decode cX6_inverted 15 = .ok (.iload_n 1, 1) := by decide +kernel
theorem dX6_inverted_16 : decode cX6_inverted 16 = .ok (.iload_n 3, 1) := by decide +kernel
theorem dX6_inverted_17 : decode cX6_inverted 17 = .ok (.invokestatic 16, 3) := by decide +kernel
theorem dX6_inverted_20 : decode cX6_inverted 20 = .ok (.isub, 1) := by decide +kernel
theorem dX6_inverted_21 : decode cX6_inverted 21 = .ok (.invokestatic 22, 3) := by decide +kernel
theorem dX6_inverted_24 : decode cX6_inverted 24 = .ok (.imul, 1) := by decide +kernel
theorem dX6_inverted_25 : decode cX6_inverted 25 = .ok (.iadd, 1) := by decide +kernel
theorem dX6_inverted_26 : decode cX6_inverted 26 = .ok (.istore_n 2, 1) := by decide +kernel
theorem dX6_inverted_27 : decode cX6_inverted 27 = .ok (.iinc 3 1, 3) := by decide +kernel
theorem dX6_inverted_30 : decode cX6_inverted 30 = .ok (.goto (-26), 3) := by decide +kernel
theorem dX6_inverted_33 : decode cX6_inverted 33 = .ok (.iload_n 2, 1) := by decide +kernel
theorem dX6_inverted_34 : decode cX6_inverted 34 = .ok (.ireturn, 1) := by decide +kernel
theorem dX6_firstStep_0 : decode cX6_firstStep 0 = .ok (.iconst 1, 1) := by decide +kernel
theorem dX6_firstStep_1 : decode cX6_firstStep 1 = .ok (.istore_n 3, 1) := by decide +kernel
theorem dX6_firstStep_2 : decode cX6_firstStep 2 = .ok (.iload_n 3, 1) := by decide +kernel
theorem dX6_firstStep_3 : decode cX6_firstStep 3 = .ok (.iload_n 1, 1) := by decide +kernel
theorem dX6_firstStep_4 : decode cX6_firstStep 4 = .ok (.if_icmp .ge 37, 3) := by decide +kernel
theorem dX6_firstStep_7 : decode cX6_firstStep 7 = .ok (.iload_n 0, 1) := by decide +kernel
theorem dX6_firstStep_8 : decode cX6_firstStep 8 = .ok (.iload_n 1, 1) := by decide +kernel
theorem dX6_firstStep_9 : decode cX6_firstStep 9 = .ok (.iload_n 3, 1) := by decide +kernel
theorem dX6_firstStep_10 : decode cX6_firstStep 10 = .ok (.invokestatic 16, 3) := by decide +kernel
theorem dX6_firstStep_13 : decode cX6_firstStep 13 = .ok (.iload_n 0, 1) := by decide +kernel
theorem dX6_firstStep_14 : decode cX6_firstStep 14 = .ok (.iload_n 1, 1) := by decide +kernel
theorem dX6_firstStep_15 : decode cX6_firstStep 15 = .ok (.iload_n 3, 1) := by decide +kernel
theorem dX6_firstStep_16 : decode cX6_firstStep 16 = .ok (.iconst 1, 1) := by decide +kernel
theorem dX6_firstStep_17 : decode cX6_firstStep 17 = .ok (.iadd, 1) := by decide +kernel
theorem dX6_firstStep_18 : decode cX6_firstStep 18 = .ok (.invokestatic 16, 3) := by decide +kernel
theorem dX6_firstStep_21 : decode cX6_firstStep 21 = .ok (.if_icmp .le 7, 3) := by decide +kernel
theorem dX6_firstStep_24 : decode cX6_firstStep 24 = .ok (.iconst 1, 1) := by decide +kernel
theorem dX6_firstStep_25 : decode cX6_firstStep 25 = .ok (.goto 4, 3) := by decide +kernel
theorem dX6_firstStep_28 : decode cX6_firstStep 28 = .ok (.iconst 0, 1) := by decide +kernel
theorem dX6_firstStep_29 : decode cX6_firstStep 29 = .ok (.iload_n 2, 1) := by decide +kernel
theorem dX6_firstStep_30 : decode cX6_firstStep 30 = .ok (.if_icmp .ne 5, 3) := by decide +kernel
theorem dX6_firstStep_33 : decode cX6_firstStep 33 = .ok (.iload_n 3, 1) := by decide +kernel
theorem dX6_firstStep_34 : decode cX6_firstStep 34 = .ok (.ireturn, 1) := by decide +kernel
theorem dX6_firstStep_35 : decode cX6_firstStep 35 = .ok (.iinc 3 1, 3) := by decide +kernel
theorem dX6_firstStep_38 : decode cX6_firstStep 38 = .ok (.goto (-36), 3) := by decide +kernel
theorem dX6_firstStep_41 : decode cX6_firstStep 41 = .ok (.iconst 0, 1) := by decide +kernel
theorem dX6_firstStep_42 : decode cX6_firstStep 42 = .ok (.ireturn, 1) := by decide +kernel
theorem dX6_ofLength_0 : decode cX6_ofLength 0 = .ok (.iload_n 0, 1) := by decide +kernel
theorem dX6_ofLength_1 : decode cX6_ofLength 1 = .ok (.iconst 1, 1) := by decide +kernel
theorem dX6_ofLength_2 : decode cX6_ofLength 2 = .ok (.if_icmp .gt 13, 3) := by decide +kernel
theorem dX6_ofLength_5 : decode cX6_ofLength 5 = .ok (.iload_n 1, 1) := by decide +kernel
theorem dX6_ofLength_6 : decode cX6_ofLength 6 = .ok (.ifCond .ne 7, 3) := by decide +kernel
theorem dX6_ofLength_9 : decode cX6_ofLength 9 = .ok (.iconst 1, 1) := by decide +kernel
theorem dX6_ofLength_10 : decode cX6_ofLength 10 = .ok (.goto 4, 3) := by decide +kernel
theorem dX6_ofLength_13 : decode cX6_ofLength 13 = .ok (.iconst 0, 1) := by decide +kernel
theorem dX6_ofLength_14 : decode cX6_ofLength 14 = .ok (.ireturn, 1) := by decide +kernel
theorem dX6_ofLength_15 : decode cX6_ofLength 15 = .ok (.iconst 0, 1) := by decide +kernel
theorem dX6_ofLength_16 : decode cX6_ofLength 16 = .ok (.istore_n 2, 1) := by decide +kernel
theorem dX6_ofLength_17 : decode cX6_ofLength 17 = .ok (.iconst 0, 1) := by decide +kernel
theorem dX6_ofLength_18 : decode cX6_ofLength 18 = .ok (.istore_n 3, 1) := by decide +kernel
theorem dX6_ofLength_19 : decode cX6_ofLength 19 = .ok (.iload_n 3, 1) := by decide +kernel
theorem dX6_ofLength_20 : decode cX6_ofLength 20 = .ok (.iload_n 0, 1) := by decide +kernel
theorem dX6_ofLength_21 : decode cX6_ofLength 21 = .ok (.if_icmp .ge 26, 3) := by decide +kernel
theorem dX6_ofLength_24 : decode cX6_ofLength 24 = .ok (.iload_n 3, 1) := by decide +kernel
theorem dX6_ofLength_25 : decode cX6_ofLength 25 = .ok (.iload_n 1, 1) := by decide +kernel
theorem dX6_ofLength_26 : decode cX6_ofLength 26 = .ok (.if_icmp .gt 21, 3) := by decide +kernel
theorem dX6_ofLength_29 : decode cX6_ofLength 29 = .ok (.iload_n 2, 1) := by decide +kernel
theorem dX6_ofLength_30 : decode cX6_ofLength 30 = .ok (.iload_n 0, 1) := by decide +kernel
theorem dX6_ofLength_31 : decode cX6_ofLength 31 = .ok (.iconst 1, 1) := by decide +kernel
theorem dX6_ofLength_32 : decode cX6_ofLength 32 = .ok (.isub, 1) := by decide +kernel
theorem dX6_ofLength_33 : decode cX6_ofLength 33 = .ok (.iload_n 1, 1) := by decide +kernel
theorem dX6_ofLength_34 : decode cX6_ofLength 34 = .ok (.iload_n 3, 1) := by decide +kernel
theorem dX6_ofLength_35 : decode cX6_ofLength 35 = .ok (.isub, 1) := by decide +kernel
theorem dX6_ofLength_36 : decode cX6_ofLength 36 = .ok (.invokestatic 25, 3) := by decide +kernel
theorem dX6_ofLength_39 : decode cX6_ofLength 39 = .ok (.iadd, 1) := by decide +kernel
theorem dX6_ofLength_40 : decode cX6_ofLength 40 = .ok (.istore_n 2, 1) := by decide +kernel
theorem dX6_ofLength_41 : decode cX6_ofLength 41 = .ok (.iinc 3 1, 3) := by decide +kernel
theorem dX6_ofLength_44 : decode cX6_ofLength 44 = .ok (.goto (-25), 3) := by decide +kernel
theorem dX6_ofLength_47 : decode cX6_ofLength 47 = .ok (.iload_n 2, 1) := by decide +kernel
theorem dX6_ofLength_48 : decode cX6_ofLength 48 = .ok (.ireturn, 1) := by decide +kernel
theorem dX6_risen_0 : decode cX6_risen 0 = .ok (.iload_n 3, 1) := by decide +kernel
theorem dX6_risen_1 : decode cX6_risen 1 = .ok (.ifCond .lt 9, 3) := by decide +kernel
theorem dX6_risen_4 : decode cX6_risen 4 = .ok (.iload_n 3, 1) := by decide +kernel
theorem dX6_risen_5 : decode cX6_risen 5 = .ok (.bipush 10, 2) := by decide +kernel
theorem dX6_risen_7 : decode cX6_risen 7 = .ok (.if_icmp .lt 5, 3) := by decide +kernel
theorem dX6_risen_10 : decode cX6_risen 10 = .ok (.iconst (-1), 1) := by decide +kernel
theorem dX6_risen_11 : decode cX6_risen 11 = .ok (.ireturn, 1) := by decide +kernel
theorem dX6_risen_12 : decode cX6_risen 12 = .ok (.iconst 0, 1) := by decide +kernel
theorem dX6_risen_13 : decode cX6_risen 13 = .ok (.istore 4, 2) := by decide +kernel
theorem dX6_risen_15 : decode cX6_risen 15 = .ok (.iconst 0, 1) := by decide +kernel
theorem dX6_risen_16 : decode cX6_risen 16 = .ok (.istore 5, 2) := by decide +kernel
theorem dX6_risen_18 : decode cX6_risen 18 = .ok (.iload 5, 2) := by decide +kernel
theorem dX6_risen_20 : decode cX6_risen 20 = .ok (.iload_n 3, 1) := by decide +kernel
theorem dX6_risen_21 : decode cX6_risen 21 = .ok (.if_icmp .gt 25, 3) := by decide +kernel
theorem dX6_risen_24 : decode cX6_risen 24 = .ok (.iload 4, 2) := by decide +kernel
theorem dX6_risen_26 : decode cX6_risen 26 = .ok (.iconst (-1), 1) := by decide +kernel
theorem dX6_risen_27 : decode cX6_risen 27 = .ok (.if_icmp .eq 19, 3) := by decide +kernel
theorem dX6_risen_30 : decode cX6_risen 30 = .ok (.iload_n 0, 1) := by decide +kernel
theorem dX6_risen_31 : decode cX6_risen 31 = .ok (.iload_n 1, 1) := by decide +kernel
theorem dX6_risen_32 : decode cX6_risen 32 = .ok (.iload_n 2, 1) := by decide +kernel
theorem dX6_risen_33 : decode cX6_risen 33 = .ok (.iload 4, 2) := by decide +kernel
theorem dX6_risen_35 : decode cX6_risen 35 = .ok (.invokestatic 28, 3) := by decide +kernel
theorem dX6_risen_38 : decode cX6_risen 38 = .ok (.istore 4, 2) := by decide +kernel
theorem dX6_risen_40 : decode cX6_risen 40 = .ok (.iinc 5 1, 3) := by decide +kernel
theorem dX6_risen_43 : decode cX6_risen 43 = .ok (.goto (-25), 3) := by decide +kernel
theorem dX6_risen_46 : decode cX6_risen 46 = .ok (.iload 4, 2) := by decide +kernel
theorem dX6_risen_48 : decode cX6_risen 48 = .ok (.ireturn, 1) := by decide +kernel
theorem dX6_leastRisen_0 : decode cX6_leastRisen 0 = .ok (.iload_n 0, 1) := by decide +kernel
theorem dX6_leastRisen_1 : decode cX6_leastRisen 1 = .ok (.iload_n 1, 1) := by decide +kernel
theorem dX6_leastRisen_2 : decode cX6_leastRisen 2 = .ok (.invokestatic 32, 3) := by decide +kernel
theorem dX6_leastRisen_5 : decode cX6_leastRisen 5 = .ok (.iconst 1, 1) := by decide +kernel
theorem dX6_leastRisen_6 : decode cX6_leastRisen 6 = .ok (.iadd, 1) := by decide +kernel
theorem dX6_leastRisen_7 : decode cX6_leastRisen 7 = .ok (.istore 4, 2) := by decide +kernel
theorem dX6_leastRisen_9 : decode cX6_leastRisen 9 = .ok (.iconst (-1), 1) := by decide +kernel
theorem dX6_leastRisen_10 : decode cX6_leastRisen 10 = .ok (.istore 5, 2) := by decide +kernel
theorem dX6_leastRisen_12 : decode cX6_leastRisen 12 = .ok (.iconst 1, 1) := by decide +kernel
theorem dX6_leastRisen_13 : decode cX6_leastRisen 13 = .ok (.istore 6, 2) := by decide +kernel
theorem dX6_leastRisen_15 : decode cX6_leastRisen 15 = .ok (.iload 6, 2) := by decide +kernel
theorem dX6_leastRisen_17 : decode cX6_leastRisen 17 = .ok (.iload_n 2, 1) := by decide +kernel
theorem dX6_leastRisen_18 : decode cX6_leastRisen 18 = .ok (.if_icmp .gt 71, 3) := by decide +kernel
theorem dX6_leastRisen_21 : decode cX6_leastRisen 21 = .ok (.iload_n 2, 1) := by decide +kernel
theorem dX6_leastRisen_22 : decode cX6_leastRisen 22 = .ok (.iconst 1, 1) := by decide +kernel
theorem dX6_leastRisen_23 : decode cX6_leastRisen 23 = .ok (.iadd, 1) := by decide +kernel
theorem dX6_leastRisen_24 : decode cX6_leastRisen 24 = .ok (.istore 7, 2) := by decide +kernel
theorem dX6_leastRisen_26 : decode cX6_leastRisen 26 = .ok (.iload 7, 2) := by decide +kernel
theorem dX6_leastRisen_28 : decode cX6_leastRisen 28 = .ok (.iload_n 1, 1) := by decide +kernel
theorem dX6_leastRisen_29 : decode cX6_leastRisen 29 = .ok (.if_icmp .gt 54, 3) := by decide +kernel
theorem dX6_leastRisen_32 : decode cX6_leastRisen 32 = .ok (.iload_n 0, 1) := by decide +kernel
theorem dX6_leastRisen_33 : decode cX6_leastRisen 33 = .ok (.iload_n 1, 1) := by decide +kernel
theorem dX6_leastRisen_34 : decode cX6_leastRisen 34 = .ok (.iload 6, 2) := by decide +kernel
theorem dX6_leastRisen_36 : decode cX6_leastRisen 36 = .ok (.iload 7, 2) := by decide +kernel
theorem dX6_leastRisen_38 : decode cX6_leastRisen 38 = .ok (.invokestatic 35, 3) := by decide +kernel
theorem dX6_leastRisen_41 : decode cX6_leastRisen 41 = .ok (.istore 8, 2) := by decide +kernel
theorem dX6_leastRisen_43 : decode cX6_leastRisen 43 = .ok (.iload 8, 2) := by decide +kernel
theorem dX6_leastRisen_45 : decode cX6_leastRisen 45 = .ok (.iload_n 3, 1) := by decide +kernel
theorem dX6_leastRisen_46 : decode cX6_leastRisen 46 = .ok (.if_icmp .le 31, 3) := by decide +kernel
theorem dX6_leastRisen_49 : decode cX6_leastRisen 49 = .ok (.iload 5, 2) := by decide +kernel
theorem dX6_leastRisen_51 : decode cX6_leastRisen 51 = .ok (.iconst (-1), 1) := by decide +kernel
theorem dX6_leastRisen_52 : decode cX6_leastRisen 52 = .ok (.if_icmp .eq 10, 3) := by decide +kernel
theorem dX6_leastRisen_55 : decode cX6_leastRisen 55 = .ok (.iload 8, 2) := by decide +kernel
theorem dX6_leastRisen_57 : decode cX6_leastRisen 57 = .ok (.iload 5, 2) := by decide +kernel
theorem dX6_leastRisen_59 : decode cX6_leastRisen 59 = .ok (.if_icmp .ge 18, 3) := by decide +kernel
theorem dX6_leastRisen_62 : decode cX6_leastRisen 62 = .ok (.iload 8, 2) := by decide +kernel
theorem dX6_leastRisen_64 : decode cX6_leastRisen 64 = .ok (.iload_n 1, 1) := by decide +kernel
theorem dX6_leastRisen_65 : decode cX6_leastRisen 65 = .ok (.invokestatic 32, 3) := by decide +kernel
theorem dX6_leastRisen_68 : decode cX6_leastRisen 68 = .ok (.iload 4, 2) := by decide +kernel
theorem dX6_leastRisen_70 : decode cX6_leastRisen 70 = .ok (.if_icmp .ne 7, 3) := by decide +kernel
theorem dX6_leastRisen_73 : decode cX6_leastRisen 73 = .ok (.iload 8, 2) := by decide +kernel
theorem dX6_leastRisen_75 : decode cX6_leastRisen 75 = .ok (.istore 5, 2) := by decide +kernel
theorem dX6_leastRisen_77 : decode cX6_leastRisen 77 = .ok (.iinc 7 1, 3) := by decide +kernel
theorem dX6_leastRisen_80 : decode cX6_leastRisen 80 = .ok (.goto (-54), 3) := by decide +kernel
theorem dX6_leastRisen_83 : decode cX6_leastRisen 83 = .ok (.iinc 6 1, 3) := by decide +kernel
theorem dX6_leastRisen_86 : decode cX6_leastRisen 86 = .ok (.goto (-71), 3) := by decide +kernel
theorem dX6_leastRisen_89 : decode cX6_leastRisen 89 = .ok (.iload 5, 2) := by decide +kernel
theorem dX6_leastRisen_91 : decode cX6_leastRisen 91 = .ok (.ireturn, 1) := by decide +kernel
theorem dX7_init_0 : decode cX7_init 0 = .ok (.aload_n 0, 1) := by decide +kernel
theorem dX7_init_1 : decode cX7_init 1 = .ok (.invokespecial 3, 3) := by decide +kernel
theorem dX7_init_4 : decode cX7_init 4 = .ok (.aload_n 0, 1) := by decide +kernel
theorem dX7_init_5 : decode cX7_init 5 = .ok (.sipush 600, 3) := by decide +kernel
theorem dX7_init_8 : decode cX7_init 8 = .ok (.newarray .int, 2) := by decide +kernel
theorem dX7_init_10 : decode cX7_init 10 = .ok (.putfield 9, 3) := by decide +kernel
theorem dX7_init_13 : decode cX7_init 13 = .ok (.aload_n 0, 1) := by decide +kernel
theorem dX7_init_14 : decode cX7_init 14 = .ok (.sipush 600, 3) := by decide +kernel
theorem dX7_init_17 : decode cX7_init 17 = .ok (.newarray .int, 2) := by decide +kernel
theorem dX7_init_19 : decode cX7_init 19 = .ok (.putfield 15, 3) := by decide +kernel
theorem dX7_init_22 : decode cX7_init 22 = .ok (.aload_n 0, 1) := by decide +kernel
theorem dX7_init_23 : decode cX7_init 23 = .ok (.iconst 0, 1) := by decide +kernel
theorem dX7_init_24 : decode cX7_init 24 = .ok (.putfield 18, 3) := by decide +kernel
theorem dX7_init_27 : decode cX7_init 27 = .ok (.aload_n 0, 1) := by decide +kernel
theorem dX7_init_28 : decode cX7_init 28 = .ok (.iconst 0, 1) := by decide +kernel
theorem dX7_init_29 : decode cX7_init 29 = .ok (.putfield 22, 3) := by decide +kernel
theorem dX7_init_32 : decode cX7_init 32 = .ok (.return_, 1) := by decide +kernel
theorem dX7_size_0 : decode cX7_size 0 = .ok (.aload_n 0, 1) := by decide +kernel
theorem dX7_size_1 : decode cX7_size 1 = .ok (.getfield 18, 3) := by decide +kernel
theorem dX7_size_4 : decode cX7_size 4 = .ok (.ireturn, 1) := by decide +kernel
theorem dX7_isThere_0 : decode cX7_isThere 0 = .ok (.aload_n 0, 1) := by decide +kernel
theorem dX7_isThere_1 : decode cX7_isThere 1 = .ok (.getfield 22, 3) := by decide +kernel
theorem dX7_isThere_4 : decode cX7_isThere 4 = .ok (.ireturn, 1) := by decide +kernel
theorem dX7_vanish_0 : decode cX7_vanish 0 = .ok (.aload_n 0, 1) := by decide +kernel
theorem dX7_vanish_1 : decode cX7_vanish 1 = .ok (.iconst 0, 1) := by decide +kernel
theorem dX7_vanish_2 : decode cX7_vanish 2 = .ok (.putfield 18, 3) := by decide +kernel
theorem dX7_vanish_5 : decode cX7_vanish 5 = .ok (.aload_n 0, 1) := by decide +kernel
theorem dX7_vanish_6 : decode cX7_vanish 6 = .ok (.iconst 0, 1) := by decide +kernel
theorem dX7_vanish_7 : decode cX7_vanish 7 = .ok (.putfield 22, 3) := by decide +kernel
theorem dX7_vanish_10 : decode cX7_vanish 10 = .ok (.return_, 1) := by decide +kernel
theorem dX7_clear_0 : decode cX7_clear 0 = .ok (.aload_n 0, 1) := by decide +kernel
theorem dX7_clear_1 : decode cX7_clear 1 = .ok (.iconst 0, 1) := by decide +kernel
theorem dX7_clear_2 : decode cX7_clear 2 = .ok (.putfield 18, 3) := by decide +kernel
theorem dX7_clear_5 : decode cX7_clear 5 = .ok (.aload_n 0, 1) := by decide +kernel
theorem dX7_clear_6 : decode cX7_clear 6 = .ok (.iconst 1, 1) := by decide +kernel
theorem dX7_clear_7 : decode cX7_clear 7 = .ok (.putfield 22, 3) := by decide +kernel
theorem dX7_clear_10 : decode cX7_clear 10 = .ok (.return_, 1) := by decide +kernel
theorem dX7_append_0 : decode cX7_append 0 = .ok (.aload_n 0, 1) := by decide +kernel
theorem dX7_append_1 : decode cX7_append 1 = .ok (.getfield 18, 3) := by decide +kernel
theorem dX7_append_4 : decode cX7_append 4 = .ok (.sipush 600, 3) := by decide +kernel
theorem dX7_append_7 : decode cX7_append 7 = .ok (.if_icmp .ge 33, 3) := by decide +kernel
theorem dX7_append_10 : decode cX7_append 10 = .ok (.aload_n 0, 1) := by decide +kernel
theorem dX7_append_11 : decode cX7_append 11 = .ok (.getfield 9, 3) := by decide +kernel
theorem dX7_append_14 : decode cX7_append 14 = .ok (.aload_n 0, 1) := by decide +kernel
theorem dX7_append_15 : decode cX7_append 15 = .ok (.getfield 18, 3) := by decide +kernel
theorem dX7_append_18 : decode cX7_append 18 = .ok (.iload_n 1, 1) := by decide +kernel
theorem dX7_append_19 : decode cX7_append 19 = .ok (.iastore, 1) := by decide +kernel
theorem dX7_append_20 : decode cX7_append 20 = .ok (.aload_n 0, 1) := by decide +kernel
theorem dX7_append_21 : decode cX7_append 21 = .ok (.getfield 15, 3) := by decide +kernel
theorem dX7_append_24 : decode cX7_append 24 = .ok (.aload_n 0, 1) := by decide +kernel
theorem dX7_append_25 : decode cX7_append 25 = .ok (.getfield 18, 3) := by decide +kernel
theorem dX7_append_28 : decode cX7_append 28 = .ok (.iload_n 2, 1) := by decide +kernel
theorem dX7_append_29 : decode cX7_append 29 = .ok (.iastore, 1) := by decide +kernel
theorem dX7_append_30 : decode cX7_append 30 = .ok (.aload_n 0, 1) := by decide +kernel
theorem dX7_append_31 : decode cX7_append 31 = .ok (.dup, 1) := by decide +kernel
theorem dX7_append_32 : decode cX7_append 32 = .ok (.getfield 18, 3) := by decide +kernel
theorem dX7_append_35 : decode cX7_append 35 = .ok (.iconst 1, 1) := by decide +kernel
theorem dX7_append_36 : decode cX7_append 36 = .ok (.iadd, 1) := by decide +kernel
theorem dX7_append_37 : decode cX7_append 37 = .ok (.putfield 18, 3) := by decide +kernel
theorem dX7_append_40 : decode cX7_append 40 = .ok (.return_, 1) := by decide +kernel
theorem dX7_exponentsAt_0 : decode cX7_exponentsAt 0 = .ok (.iload_n 1, 1) := by decide +kernel
theorem dX7_exponentsAt_1 : decode cX7_exponentsAt 1 = .ok (.ifCond .lt 20, 3) := by decide +kernel
theorem dX7_exponentsAt_4 : decode cX7_exponentsAt 4 = .ok (.iload_n 1, 1) := by decide +kernel
theorem dX7_exponentsAt_5 : decode cX7_exponentsAt 5 = .ok (.aload_n 0, 1) := by decide +kernel
theorem dX7_exponentsAt_6 : decode cX7_exponentsAt 6 = .ok (.getfield 18, 3) := by decide +kernel
theorem dX7_exponentsAt_9 : decode cX7_exponentsAt 9 = .ok (.if_icmp .ge 12, 3) := by decide +kernel
theorem dX7_exponentsAt_12 : decode cX7_exponentsAt 12 = .ok (.aload_n 0, 1) := by decide +kernel
theorem dX7_exponentsAt_13 : decode cX7_exponentsAt 13 = .ok (.getfield 9, 3) := by decide +kernel
theorem dX7_exponentsAt_16 : decode cX7_exponentsAt 16 = .ok (.iload_n 1, 1) := by decide +kernel
theorem dX7_exponentsAt_17 : decode cX7_exponentsAt 17 = .ok (.iaload, 1) := by decide +kernel
theorem dX7_exponentsAt_18 : decode cX7_exponentsAt 18 = .ok (.goto 4, 3) := by decide +kernel
theorem dX7_exponentsAt_21 : decode cX7_exponentsAt 21 = .ok (.iconst 0, 1) := by decide +kernel
theorem dX7_exponentsAt_22 : decode cX7_exponentsAt 22 = .ok (.ireturn, 1) := by decide +kernel
theorem dX7_numberAt_0 : decode cX7_numberAt 0 = .ok (.iload_n 1, 1) := by decide +kernel
theorem dX7_numberAt_1 : decode cX7_numberAt 1 = .ok (.ifCond .lt 20, 3) := by decide +kernel
theorem dX7_numberAt_4 : decode cX7_numberAt 4 = .ok (.iload_n 1, 1) := by decide +kernel
theorem dX7_numberAt_5 : decode cX7_numberAt 5 = .ok (.aload_n 0, 1) := by decide +kernel
theorem dX7_numberAt_6 : decode cX7_numberAt 6 = .ok (.getfield 18, 3) := by decide +kernel
theorem dX7_numberAt_9 : decode cX7_numberAt 9 = .ok (.if_icmp .ge 12, 3) := by decide +kernel
theorem dX7_numberAt_12 : decode cX7_numberAt 12 = .ok (.aload_n 0, 1) := by decide +kernel
theorem dX7_numberAt_13 : decode cX7_numberAt 13 = .ok (.getfield 15, 3) := by decide +kernel
theorem dX7_numberAt_16 : decode cX7_numberAt 16 = .ok (.iload_n 1, 1) := by decide +kernel
theorem dX7_numberAt_17 : decode cX7_numberAt 17 = .ok (.iaload, 1) := by decide +kernel
theorem dX7_numberAt_18 : decode cX7_numberAt 18 = .ok (.goto 4, 3) := by decide +kernel
theorem dX7_numberAt_21 : decode cX7_numberAt 21 = .ok (.iconst 0, 1) := by decide +kernel
theorem dX7_numberAt_22 : decode cX7_numberAt 22 = .ok (.ireturn, 1) := by decide +kernel
theorem dX7_numberOf_0 : decode cX7_numberOf 0 = .ok (.iconst 0, 1) := by decide +kernel
theorem dX7_numberOf_1 : decode cX7_numberOf 1 = .ok (.istore_n 2, 1) := by decide +kernel
theorem dX7_numberOf_2 : decode cX7_numberOf 2 = .ok (.iload_n 2, 1) := by decide +kernel
theorem dX7_numberOf_3 : decode cX7_numberOf 3 = .ok (.aload_n 0, 1) := by decide +kernel
theorem dX7_numberOf_4 : decode cX7_numberOf 4 = .ok (.getfield 18, 3) := by decide +kernel
theorem dX7_numberOf_7 : decode cX7_numberOf 7 = .ok (.if_icmp .ge 24, 3) := by decide +kernel
theorem dX7_numberOf_10 : decode cX7_numberOf 10 = .ok (.aload_n 0, 1) := by decide +kernel
theorem dX7_numberOf_11 : decode cX7_numberOf 11 = .ok (.iload_n 2, 1) := by decide +kernel
theorem dX7_numberOf_12 : decode cX7_numberOf 12 = .ok (.invokevirtual 26, 3) := by decide +kernel
theorem dX7_numberOf_15 : decode cX7_numberOf 15 = .ok (.iload_n 1, 1) := by decide +kernel
theorem dX7_numberOf_16 : decode cX7_numberOf 16 = .ok (.if_icmp .ne 9, 3) := by decide +kernel
theorem dX7_numberOf_19 : decode cX7_numberOf 19 = .ok (.aload_n 0, 1) := by decide +kernel
theorem dX7_numberOf_20 : decode cX7_numberOf 20 = .ok (.iload_n 2, 1) := by decide +kernel
theorem dX7_numberOf_21 : decode cX7_numberOf 21 = .ok (.invokevirtual 30, 3) := by decide +kernel
theorem dX7_numberOf_24 : decode cX7_numberOf 24 = .ok (.ireturn, 1) := by decide +kernel
theorem dX7_numberOf_25 : decode cX7_numberOf 25 = .ok (.iinc 2 1, 3) := by decide +kernel
theorem dX7_numberOf_28 : decode cX7_numberOf 28 = .ok (.goto (-26), 3) := by decide +kernel
theorem dX7_numberOf_31 : decode cX7_numberOf 31 = .ok (.iconst 0, 1) := by decide +kernel
theorem dX7_numberOf_32 : decode cX7_numberOf 32 = .ok (.ireturn, 1) := by decide +kernel
theorem dX7_exponentAt_0 : decode cX7_exponentAt 0 = .ok (.aload_n 0, 1) := by decide +kernel
theorem dX7_exponentAt_1 : decode cX7_exponentAt 1 = .ok (.iload_n 1, 1) := by decide +kernel
theorem dX7_exponentAt_2 : decode cX7_exponentAt 2 = .ok (.invokevirtual 26, 3) := by decide +kernel
theorem dX7_exponentAt_5 : decode cX7_exponentAt 5 = .ok (.iconst 5, 1) := by decide +kernel
theorem dX7_exponentAt_6 : decode cX7_exponentAt 6 = .ok (.iload_n 2, 1) := by decide +kernel
theorem dX7_exponentAt_7 : decode cX7_exponentAt 7 = .ok (.isub, 1) := by decide +kernel
theorem dX7_exponentAt_8 : decode cX7_exponentAt 8 = .ok (.invokestatic 33, 3) := by decide +kernel
theorem dX7_exponentAt_11 : decode cX7_exponentAt 11 = .ok (.ireturn, 1) := by decide +kernel
theorem dX7_topExponent_0 : decode cX7_topExponent 0 = .ok (.iconst 0, 1) := by decide +kernel
theorem dX7_topExponent_1 : decode cX7_topExponent 1 = .ok (.istore_n 2, 1) := by decide +kernel
theorem dX7_topExponent_2 : decode cX7_topExponent 2 = .ok (.iconst 0, 1) := by decide +kernel
theorem dX7_topExponent_3 : decode cX7_topExponent 3 = .ok (.istore_n 3, 1) := by decide +kernel
theorem dX7_topExponent_4 : decode cX7_topExponent 4 = .ok (.iload_n 3, 1) := by decide +kernel
theorem dX7_topExponent_5 : decode cX7_topExponent 5 = .ok (.aload_n 0, 1) := by decide +kernel
theorem dX7_topExponent_6 : decode cX7_topExponent 6 = .ok (.getfield 18, 3) := by decide +kernel
theorem dX7_topExponent_9 : decode cX7_topExponent 9 = .ok (.if_icmp .ge 20, 3) := by decide +kernel
theorem dX7_topExponent_12 : decode cX7_topExponent 12 = .ok (.iload_n 2, 1) := by decide +kernel
theorem dX7_topExponent_13 : decode cX7_topExponent 13 = .ok (.aload_n 0, 1) := by decide +kernel
theorem dX7_topExponent_14 : decode cX7_topExponent 14 = .ok (.iload_n 3, 1) := by decide +kernel
theorem dX7_topExponent_15 : decode cX7_topExponent 15 = .ok (.iload_n 1, 1) := by decide +kernel
theorem dX7_topExponent_16 : decode cX7_topExponent 16 = .ok (.invokevirtual 39, 3) := by decide +kernel
theorem dX7_topExponent_19 : decode cX7_topExponent 19 = .ok (.invokestatic 42, 3) := by decide +kernel
theorem dX7_topExponent_22 : decode cX7_topExponent 22 = .ok (.istore_n 2, 1) := by decide +kernel
theorem dX7_topExponent_23 : decode cX7_topExponent 23 = .ok (.iinc 3 1, 3) := by decide +kernel
theorem dX7_topExponent_26 : decode cX7_topExponent 26 = .ok (.goto (-22), 3) := by decide +kernel
theorem dX7_topExponent_29 : decode cX7_topExponent 29 = .ok (.iload_n 2, 1) := by decide +kernel
theorem dX7_topExponent_30 : decode cX7_topExponent 30 = .ok (.ireturn, 1) := by decide +kernel
theorem dX7_isLike_0 : decode cX7_isLike 0 = .ok (.aload_n 0, 1) := by decide +kernel
theorem dX7_isLike_1 : decode cX7_isLike 1 = .ok (.getfield 18, 3) := by decide +kernel
theorem dX7_isLike_4 : decode cX7_isLike 4 = .ok (.aload_n 1, 1) := by decide +kernel
theorem dX7_isLike_5 : decode cX7_isLike 5 = .ok (.getfield 18, 3) := by decide +kernel
theorem dX7_isLike_8 : decode cX7_isLike 8 = .ok (.if_icmp .eq 5, 3) := by decide +kernel
theorem dX7_isLike_11 : decode cX7_isLike 11 = .ok (.iconst 0, 1) := by decide +kernel
theorem dX7_isLike_12 : decode cX7_isLike 12 = .ok (.ireturn, 1) := by decide +kernel
theorem dX7_isLike_13 : decode cX7_isLike 13 = .ok (.iconst 0, 1) := by decide +kernel
theorem dX7_isLike_14 : decode cX7_isLike 14 = .ok (.istore_n 2, 1) := by decide +kernel
theorem dX7_isLike_15 : decode cX7_isLike 15 = .ok (.iload_n 2, 1) := by decide +kernel
theorem dX7_isLike_16 : decode cX7_isLike 16 = .ok (.aload_n 0, 1) := by decide +kernel
theorem dX7_isLike_17 : decode cX7_isLike 17 = .ok (.getfield 18, 3) := by decide +kernel
theorem dX7_isLike_20 : decode cX7_isLike 20 = .ok (.if_icmp .ge 37, 3) := by decide +kernel
theorem dX7_isLike_23 : decode cX7_isLike 23 = .ok (.aload_n 0, 1) := by decide +kernel
theorem dX7_isLike_24 : decode cX7_isLike 24 = .ok (.iload_n 2, 1) := by decide +kernel
theorem dX7_isLike_25 : decode cX7_isLike 25 = .ok (.invokevirtual 26, 3) := by decide +kernel
theorem dX7_isLike_28 : decode cX7_isLike 28 = .ok (.aload_n 1, 1) := by decide +kernel
theorem dX7_isLike_29 : decode cX7_isLike 29 = .ok (.iload_n 2, 1) := by decide +kernel
theorem dX7_isLike_30 : decode cX7_isLike 30 = .ok (.invokevirtual 26, 3) := by decide +kernel
theorem dX7_isLike_33 : decode cX7_isLike 33 = .ok (.if_icmp .ne 16, 3) := by decide +kernel
theorem dX7_isLike_36 : decode cX7_isLike 36 = .ok (.aload_n 0, 1) := by decide +kernel
theorem dX7_isLike_37 : decode cX7_isLike 37 = .ok (.iload_n 2, 1) := by decide +kernel
theorem dX7_isLike_38 : decode cX7_isLike 38 = .ok (.invokevirtual 30, 3) := by decide +kernel
theorem dX7_isLike_41 : decode cX7_isLike 41 = .ok (.aload_n 1, 1) := by decide +kernel
theorem dX7_isLike_42 : decode cX7_isLike 42 = .ok (.iload_n 2, 1) := by decide +kernel
theorem dX7_isLike_43 : decode cX7_isLike 43 = .ok (.invokevirtual 30, 3) := by decide +kernel
theorem dX7_isLike_46 : decode cX7_isLike 46 = .ok (.if_icmp .eq 5, 3) := by decide +kernel
theorem dX7_isLike_49 : decode cX7_isLike 49 = .ok (.iconst 0, 1) := by decide +kernel
theorem dX7_isLike_50 : decode cX7_isLike 50 = .ok (.ireturn, 1) := by decide +kernel
theorem dX7_isLike_51 : decode cX7_isLike 51 = .ok (.iinc 2 1, 3) := by decide +kernel
theorem dX7_isLike_54 : decode cX7_isLike 54 = .ok (.goto (-39), 3) := by decide +kernel
theorem dX7_isLike_57 : decode cX7_isLike 57 = .ok (.iconst 1, 1) := by decide +kernel
theorem dX7_isLike_58 : decode cX7_isLike 58 = .ok (.ireturn, 1) := by decide +kernel
theorem dX7_copy_0 : decode cX7_copy 0 = .ok (.aload_n 0, 1) := by decide +kernel
theorem dX7_copy_1 : decode cX7_copy 1 = .ok (.invokevirtual 47, 3) := by decide +kernel
theorem dX7_copy_4 : decode cX7_copy 4 = .ok (.iconst 0, 1) := by decide +kernel
theorem dX7_copy_5 : decode cX7_copy 5 = .ok (.istore_n 2, 1) := by decide +kernel
theorem dX7_copy_6 : decode cX7_copy 6 = .ok (.iload_n 2, 1) := by decide +kernel
theorem dX7_copy_7 : decode cX7_copy 7 = .ok (.aload_n 1, 1) := by decide +kernel
theorem dX7_copy_8 : decode cX7_copy 8 = .ok (.getfield 18, 3) := by decide +kernel
theorem dX7_copy_11 : decode cX7_copy 11 = .ok (.if_icmp .ge 23, 3) := by decide +kernel
theorem dX7_copy_14 : decode cX7_copy 14 = .ok (.aload_n 0, 1) := by decide +kernel
theorem dX7_copy_15 : decode cX7_copy 15 = .ok (.aload_n 1, 1) := by decide +kernel
theorem dX7_copy_16 : decode cX7_copy 16 = .ok (.iload_n 2, 1) := by decide +kernel
theorem dX7_copy_17 : decode cX7_copy 17 = .ok (.invokevirtual 26, 3) := by decide +kernel
theorem dX7_copy_20 : decode cX7_copy 20 = .ok (.aload_n 1, 1) := by decide +kernel
theorem dX7_copy_21 : decode cX7_copy 21 = .ok (.iload_n 2, 1) := by decide +kernel
theorem dX7_copy_22 : decode cX7_copy 22 = .ok (.invokevirtual 30, 3) := by decide +kernel
theorem dX7_copy_25 : decode cX7_copy 25 = .ok (.invokevirtual 50, 3) := by decide +kernel
theorem dX7_copy_28 : decode cX7_copy 28 = .ok (.iinc 2 1, 3) := by decide +kernel
theorem dX7_copy_31 : decode cX7_copy 31 = .ok (.goto (-25), 3) := by decide +kernel
theorem dX7_copy_34 : decode cX7_copy 34 = .ok (.return_, 1) := by decide +kernel
theorem dX7_digestOn_0 : decode cX7_digestOn 0 = .ok (.ldc2_w 54, 3) := by decide +kernel
theorem dX7_digestOn_3 : decode cX7_digestOn 3 = .ok (.lload_n 1, 1) := by decide +kernel
theorem dX7_digestOn_4 : decode cX7_digestOn 4 = .ok (.lmul, 1) := by decide +kernel
theorem dX7_digestOn_5 : decode cX7_digestOn 5 = .ok (.aload_n 0, 1) := by decide +kernel
theorem dX7_digestOn_6 : decode cX7_digestOn 6 = .ok (.getfield 18, 3) := by decide +kernel
theorem dX7_digestOn_9 : decode cX7_digestOn 9 = .ok (.i2l, 1) := by decide +kernel
theorem dX7_digestOn_10 : decode cX7_digestOn 10 = .ok (.ladd, 1) := by decide +kernel
theorem dX7_digestOn_11 : decode cX7_digestOn 11 = .ok (.lstore_n 3, 1) := by decide +kernel
theorem dX7_digestOn_12 : decode cX7_digestOn 12 = .ok (.iconst 0, 1) := by decide +kernel
theorem dX7_digestOn_13 : decode cX7_digestOn 13 = .ok (.istore 5, 2) := by decide +kernel
theorem dX7_digestOn_15 : decode cX7_digestOn 15 = .ok (.iload 5, 2) := by decide +kernel
theorem dX7_digestOn_17 : decode cX7_digestOn 17 = .ok (.aload_n 0, 1) := by decide +kernel
theorem dX7_digestOn_18 : decode cX7_digestOn 18 = .ok (.getfield 18, 3) := by decide +kernel
theorem dX7_digestOn_21 : decode cX7_digestOn 21 = .ok (.if_icmp .ge 37, 3) := by decide +kernel
theorem dX7_digestOn_24 : decode cX7_digestOn 24 = .ok (.ldc2_w 54, 3) := by decide +kernel
theorem dX7_digestOn_27 : decode cX7_digestOn 27 = .ok (.lload_n 3, 1) := by decide +kernel
theorem dX7_digestOn_28 : decode cX7_digestOn 28 = .ok (.lmul, 1) := by decide +kernel
theorem dX7_digestOn_29 : decode cX7_digestOn 29 = .ok (.aload_n 0, 1) := by decide +kernel
theorem dX7_digestOn_30 : decode cX7_digestOn 30 = .ok (.iload 5, 2) := by decide +kernel
theorem dX7_digestOn_32 : decode cX7_digestOn 32 = .ok (.invokevirtual 26, 3) := by decide +kernel
theorem dX7_digestOn_35 : decode cX7_digestOn 35 = .ok (.i2l, 1) := by decide +kernel
theorem dX7_digestOn_36 : decode cX7_digestOn 36 = .ok (.ladd, 1) := by decide +kernel
theorem dX7_digestOn_37 : decode cX7_digestOn 37 = .ok (.lstore_n 3, 1) := by decide +kernel
theorem dX7_digestOn_38 : decode cX7_digestOn 38 = .ok (.ldc2_w 54, 3) := by decide +kernel
theorem dX7_digestOn_41 : decode cX7_digestOn 41 = .ok (.lload_n 3, 1) := by decide +kernel
theorem dX7_digestOn_42 : decode cX7_digestOn 42 = .ok (.lmul, 1) := by decide +kernel
theorem dX7_digestOn_43 : decode cX7_digestOn 43 = .ok (.aload_n 0, 1) := by decide +kernel
theorem dX7_digestOn_44 : decode cX7_digestOn 44 = .ok (.iload 5, 2) := by decide +kernel
theorem dX7_digestOn_46 : decode cX7_digestOn 46 = .ok (.invokevirtual 30, 3) := by decide +kernel
theorem dX7_digestOn_49 : decode cX7_digestOn 49 = .ok (.i2l, 1) := by decide +kernel
theorem dX7_digestOn_50 : decode cX7_digestOn 50 = .ok (.ladd, 1) := by decide +kernel
theorem dX7_digestOn_51 : decode cX7_digestOn 51 = .ok (.lstore_n 3, 1) := by decide +kernel
theorem dX7_digestOn_52 : decode cX7_digestOn 52 = .ok (.iinc 5 1, 3) := by decide +kernel
theorem dX7_digestOn_55 : decode cX7_digestOn 55 = .ok (.goto (-40), 3) := by decide +kernel
theorem dX7_digestOn_58 : decode cX7_digestOn 58 = .ok (.lload_n 3, 1) := by decide +kernel
theorem dX7_digestOn_59 : decode cX7_digestOn 59 = .ok (.lreturn, 1) := by decide +kernel
theorem dX8_init_0 : decode cX8_init 0 = .ok (.aload_n 0, 1) := by decide +kernel
theorem dX8_init_1 : decode cX8_init 1 = .ok (.invokespecial 3, 3) := by decide +kernel
theorem dX8_init_4 : decode cX8_init 4 = .ok (.aload_n 0, 1) := by decide +kernel
theorem dX8_init_5 : decode cX8_init 5 = .ok (.ldc 9, 2) := by decide +kernel
theorem dX8_init_7 : decode cX8_init 7 = .ok (.newarray .long, 2) := by decide +kernel
theorem dX8_init_9 : decode cX8_init 9 = .ok (.putfield 10, 3) := by decide +kernel
theorem dX8_init_12 : decode cX8_init 12 = .ok (.aload_n 0, 1) := by decide +kernel
theorem dX8_init_13 : decode cX8_init 13 = .ok (.sipush 889, 3) := by decide +kernel
theorem dX8_init_16 : decode cX8_init 16 = .ok (.newarray .boolean, 2) := by decide +kernel
theorem dX8_init_18 : decode cX8_init 18 = .ok (.putfield 16, 3) := by decide +kernel
theorem dX8_init_21 : decode cX8_init 21 = .ok (.aload_n 0, 1) := by decide +kernel
theorem dX8_init_22 : decode cX8_init 22 = .ok (.new 20, 3) := by decide +kernel
theorem dX8_init_25 : decode cX8_init 25 = .ok (.dup, 1) := by decide +kernel
theorem dX8_init_26 : decode cX8_init 26 = .ok (.invokespecial 22, 3) := by decide +kernel
theorem dX8_init_29 : decode cX8_init 29 = .ok (.putfield 23, 3) := by decide +kernel
theorem dX8_init_32 : decode cX8_init 32 = .ok (.aload_n 0, 1) := by decide +kernel
theorem dX8_init_33 : decode cX8_init 33 = .ok (.iconst 0, 1) := by decide +kernel
theorem dX8_init_34 : decode cX8_init 34 = .ok (.putfield 27, 3) := by decide +kernel
theorem dX8_init_37 : decode cX8_init 37 = .ok (.aload_n 0, 1) := by decide +kernel
theorem dX8_init_38 : decode cX8_init 38 = .ok (.iconst 0, 1) := by decide +kernel
theorem dX8_init_39 : decode cX8_init 39 = .ok (.putfield 31, 3) := by decide +kernel
theorem dX8_init_42 : decode cX8_init 42 = .ok (.return_, 1) := by decide +kernel
theorem dX8_pour_0 : decode cX8_pour 0 = .ok (.iload_n 1, 1) := by decide +kernel
theorem dX8_pour_1 : decode cX8_pour 1 = .ok (.ifCond .lt 29, 3) := by decide +kernel
theorem dX8_pour_4 : decode cX8_pour 4 = .ok (.iload_n 1, 1) := by decide +kernel
theorem dX8_pour_5 : decode cX8_pour 5 = .ok (.ldc 35, 2) := by decide +kernel
theorem dX8_pour_7 : decode cX8_pour 7 = .ok (.if_icmp .gt 23, 3) := by decide +kernel
theorem dX8_pour_10 : decode cX8_pour 10 = .ok (.aload_n 0, 1) := by decide +kernel
theorem dX8_pour_11 : decode cX8_pour 11 = .ok (.getfield 10, 3) := by decide +kernel
theorem dX8_pour_14 : decode cX8_pour 14 = .ok (.iload_n 1, 1) := by decide +kernel
theorem dX8_pour_15 : decode cX8_pour 15 = .ok (.dup2, 1) := by decide +kernel
theorem dX8_pour_16 : decode cX8_pour 16 = .ok (.laload, 1) := by decide +kernel
theorem dX8_pour_17 : decode cX8_pour 17 = .ok (.lload_n 2, 1) := by decide +kernel
theorem dX8_pour_18 : decode cX8_pour 18 = .ok (.ladd, 1) := by decide +kernel
theorem dX8_pour_19 : decode cX8_pour 19 = .ok (.lastore, 1) := by decide +kernel
theorem dX8_pour_20 : decode cX8_pour 20 = .ok (.aload_n 0, 1) := by decide +kernel
theorem dX8_pour_21 : decode cX8_pour 21 = .ok (.getfield 16, 3) := by decide +kernel
theorem dX8_pour_24 : decode cX8_pour 24 = .ok (.iload_n 1, 1) := by decide +kernel
theorem dX8_pour_25 : decode cX8_pour 25 = .ok (.bipush 100, 2) := by decide +kernel
theorem dX8_pour_27 : decode cX8_pour 27 = .ok (.idiv, 1) := by decide +kernel
theorem dX8_pour_28 : decode cX8_pour 28 = .ok (.iconst 1, 1) := by decide +kernel
theorem dX8_pour_29 : decode cX8_pour 29 = .ok (.bastore, 1) := by decide +kernel
theorem dX8_pour_30 : decode cX8_pour 30 = .ok (.return_, 1) := by decide +kernel
theorem dX8_pourAll_0 : decode cX8_pourAll 0 = .ok (.iconst 0, 1) := by decide +kernel
theorem dX8_pourAll_1 : decode cX8_pourAll 1 = .ok (.istore 4, 2) := by decide +kernel
theorem dX8_pourAll_3 : decode cX8_pourAll 3 = .ok (.iload 4, 2) := by decide +kernel
theorem dX8_pourAll_5 : decode cX8_pourAll 5 = .ok (.aload_n 1, 1) := by decide +kernel
theorem dX8_pourAll_6 : decode cX8_pourAll 6 = .ok (.invokevirtual 36, 3) := by decide +kernel
theorem dX8_pourAll_9 : decode cX8_pourAll 9 = .ok (.if_icmp .ge 28, 3) := by decide +kernel
theorem dX8_pourAll_12 : decode cX8_pourAll 12 = .ok (.aload_n 0, 1) := by decide +kernel
theorem dX8_pourAll_13 : decode cX8_pourAll 13 = .ok (.aload_n 1, 1) := by decide +kernel
theorem dX8_pourAll_14 : decode cX8_pourAll 14 = .ok (.iload 4, 2) := by decide +kernel
theorem dX8_pourAll_16 : decode cX8_pourAll 16 = .ok (.invokevirtual 40, 3) := by decide +kernel
theorem dX8_pourAll_19 : decode cX8_pourAll 19 = .ok (.lload_n 2, 1) := by decide +kernel
theorem dX8_pourAll_20 : decode cX8_pourAll 20 = .ok (.aload_n 1, 1) := by decide +kernel
theorem dX8_pourAll_21 : decode cX8_pourAll 21 = .ok (.iload 4, 2) := by decide +kernel
theorem dX8_pourAll_23 : decode cX8_pourAll 23 = .ok (.invokevirtual 44, 3) := by decide +kernel
theorem dX8_pourAll_26 : decode cX8_pourAll 26 = .ok (.i2l, 1) := by decide +kernel
theorem dX8_pourAll_27 : decode cX8_pourAll 27 = .ok (.lmul, 1) := by decide +kernel
theorem dX8_pourAll_28 : decode cX8_pourAll 28 = .ok (.invokevirtual 47, 3) := by decide +kernel
theorem dX8_pourAll_31 : decode cX8_pourAll 31 = .ok (.iinc 4 1, 3) := by decide +kernel
theorem dX8_pourAll_34 : decode cX8_pourAll 34 = .ok (.goto (-31), 3) := by decide +kernel
theorem dX8_pourAll_37 : decode cX8_pourAll 37 = .ok (.return_, 1) := by decide +kernel
theorem dX8_settle_0 : decode cX8_settle 0 = .ok (.aload_n 0, 1) := by decide +kernel
theorem dX8_settle_1 : decode cX8_settle 1 = .ok (.getfield 23, 3) := by decide +kernel
theorem dX8_settle_4 : decode cX8_settle 4 = .ok (.invokevirtual 51, 3) := by decide +kernel
theorem dX8_settle_7 : decode cX8_settle 7 = .ok (.aload_n 0, 1) := by decide +kernel
theorem dX8_settle_8 : decode cX8_settle 8 = .ok (.iconst 0, 1) := by decide +kernel
theorem dX8_settle_9 : decode cX8_settle 9 = .ok (.putfield 27, 3) := by decide +kernel
theorem dX8_settle_12 : decode cX8_settle 12 = .ok (.aload_n 0, 1) := by decide +kernel
theorem dX8_settle_13 : decode cX8_settle 13 = .ok (.iconst 0, 1) := by decide +kernel
theorem dX8_settle_14 : decode cX8_settle 14 = .ok (.putfield 31, 3) := by decide +kernel
theorem dX8_settle_17 : decode cX8_settle 17 = .ok (.aload_n 0, 1) := by decide +kernel
theorem dX8_settle_18 : decode cX8_settle 18 = .ok (.getfield 16, 3) := by decide +kernel
theorem dX8_settle_21 : decode cX8_settle 21 = .ok (.arraylength, 1) := by decide +kernel
theorem dX8_settle_22 : decode cX8_settle 22 = .ok (.iconst 1, 1) := by decide +kernel
theorem dX8_settle_23 : decode cX8_settle 23 = .ok (.isub, 1) := by decide +kernel
theorem dX8_settle_24 : decode cX8_settle 24 = .ok (.istore_n 2, 1) := by decide +kernel
theorem dX8_settle_25 : decode cX8_settle 25 = .ok (.iload_n 2, 1) := by decide +kernel
theorem dX8_settle_26 : decode cX8_settle 26 = .ok (.ifCond .lt 23, 3) := by decide +kernel
theorem dX8_settle_29 : decode cX8_settle 29 = .ok (.aload_n 0, 1) := by decide +kernel
theorem dX8_settle_30 : decode cX8_settle 30 = .ok (.getfield 16, 3) := by decide +kernel
theorem dX8_settle_33 : decode cX8_settle 33 = .ok (.iload_n 2, 1) := by decide +kernel
theorem dX8_settle_34 : decode cX8_settle 34 = .ok (.baload, 1) := by decide +kernel
theorem dX8_settle_35 : decode cX8_settle 35 = .ok (.ifCond .eq 8, 3) := by decide +kernel
theorem dX8_settle_38 : decode cX8_settle 38 = .ok (.aload_n 0, 1) := by decide +kernel
theorem dX8_settle_39 : decode cX8_settle 39 = .ok (.iload_n 2, 1) := by decide +kernel
theorem dX8_settle_40 : decode cX8_settle 40 = .ok (.invokevirtual 54, 3) := by decide +kernel
theorem dX8_settle_43 : decode cX8_settle 43 = .ok (.iinc 2 (-1), 3) := by decide +kernel
theorem dX8_settle_46 : decode cX8_settle 46 = .ok (.goto (-21), 3) := by decide +kernel
theorem dX8_settle_49 : decode cX8_settle 49 = .ok (.aload_n 0, 1) := by decide +kernel
theorem dX8_settle_50 : decode cX8_settle 50 = .ok (.getfield 31, 3) := by decide +kernel
theorem dX8_settle_53 : decode cX8_settle 53 = .ok (.ifCond .eq 6, 3) := by decide +kernel
theorem dX8_settle_56 : decode cX8_settle 56 = .ok (.bipush (-5), 2) := by decide +kernel
theorem dX8_settle_58 : decode cX8_settle 58 = .ok (.ireturn, 1) := by decide +kernel
theorem dX8_settle_59 : decode cX8_settle 59 = .ok (.aload_n 0, 1) := by decide +kernel
theorem dX8_settle_60 : decode cX8_settle 60 = .ok (.getfield 27, 3) := by decide +kernel
theorem dX8_settle_63 : decode cX8_settle 63 = .ok (.sipush 600, 3) := by decide +kernel
theorem dX8_settle_66 : decode cX8_settle 66 = .ok (.if_icmp .le 6, 3) := by decide +kernel
theorem dX8_settle_69 : decode cX8_settle 69 = .ok (.bipush (-6), 2) := by decide +kernel
theorem dX8_settle_71 : decode cX8_settle 71 = .ok (.ireturn, 1) := by decide +kernel
theorem dX8_settle_72 : decode cX8_settle 72 = .ok (.aload_n 1, 1) := by decide +kernel
theorem dX8_settle_73 : decode cX8_settle 73 = .ok (.aload_n 0, 1) := by decide +kernel
theorem dX8_settle_74 : decode cX8_settle 74 = .ok (.getfield 23, 3) := by decide +kernel
theorem dX8_settle_77 : decode cX8_settle 77 = .ok (.invokevirtual 58, 3) := by decide +kernel
theorem dX8_settle_80 : decode cX8_settle 80 = .ok (.aload_n 0, 1) := by decide +kernel
theorem dX8_settle_81 : decode cX8_settle 81 = .ok (.getfield 27, 3) := by decide +kernel
theorem dX8_settle_84 : decode cX8_settle 84 = .ok (.ireturn, 1) := by decide +kernel
theorem dX8_takeOut_0 : decode cX8_takeOut 0 = .ok (.iload_n 1, 1) := by decide +kernel
theorem dX8_takeOut_1 : decode cX8_takeOut 1 = .ok (.bipush 100, 2) := by decide +kernel
theorem dX8_takeOut_3 : decode cX8_takeOut 3 = .ok (.imul, 1) := by decide +kernel
theorem dX8_takeOut_4 : decode cX8_takeOut 4 = .ok (.istore_n 2, 1) := by decide +kernel
theorem dX8_takeOut_5 : decode cX8_takeOut 5 = .ok (.iload_n 2, 1) := by decide +kernel
theorem dX8_takeOut_6 : decode cX8_takeOut 6 = .ok (.bipush 100, 2) := by decide +kernel
theorem dX8_takeOut_8 : decode cX8_takeOut 8 = .ok (.iadd, 1) := by decide +kernel
theorem dX8_takeOut_9 : decode cX8_takeOut 9 = .ok (.iconst 1, 1) := by decide +kernel
theorem dX8_takeOut_10 : decode cX8_takeOut 10 = .ok (.isub, 1) := by decide +kernel
theorem dX8_takeOut_11 : decode cX8_takeOut 11 = .ok (.ldc 35, 2) := by decide +kernel
theorem dX8_takeOut_13 : decode cX8_takeOut 13 = .ok (.invokestatic 62, 3) := by decide +kernel
theorem dX8_takeOut_16 : decode cX8_takeOut 16 = .ok (.istore_n 3, 1) := by decide +kernel
theorem dX8_takeOut_17 : decode cX8_takeOut 17 = .ok (.iload_n 3, 1) := by decide +kernel
theorem dX8_takeOut_18 : decode cX8_takeOut 18 = .ok (.iload_n 2, 1) := by decide +kernel
theorem dX8_takeOut_19 : decode cX8_takeOut 19 = .ok (.if_icmp .lt 70, 3) := by decide +kernel
theorem dX8_takeOut_22 : decode cX8_takeOut 22 = .ok (.aload_n 0, 1) := by decide +kernel
theorem dX8_takeOut_23 : decode cX8_takeOut 23 = .ok (.getfield 10, 3) := by decide +kernel
theorem dX8_takeOut_26 : decode cX8_takeOut 26 = .ok (.iload_n 3, 1) := by decide +kernel
theorem dX8_takeOut_27 : decode cX8_takeOut 27 = .ok (.laload, 1) := by decide +kernel
theorem dX8_takeOut_28 : decode cX8_takeOut 28 = .ok (.lconst 0, 1) := by decide +kernel
theorem dX8_takeOut_29 : decode cX8_takeOut 29 = .ok (.lcmp, 1) := by decide +kernel
theorem dX8_takeOut_30 : decode cX8_takeOut 30 = .ok (.ifCond .eq 53, 3) := by decide +kernel
theorem dX8_takeOut_33 : decode cX8_takeOut 33 = .ok (.aload_n 0, 1) := by decide +kernel
theorem dX8_takeOut_34 : decode cX8_takeOut 34 = .ok (.dup, 1) := by decide +kernel
theorem dX8_takeOut_35 : decode cX8_takeOut 35 = .ok (.getfield 31, 3) := by decide +kernel
theorem dX8_takeOut_38 : decode cX8_takeOut 38 = .ok (.aload_n 0, 1) := by decide +kernel
theorem dX8_takeOut_39 : decode cX8_takeOut 39 = .ok (.getfield 10, 3) := by decide +kernel
theorem dX8_takeOut_42 : decode cX8_takeOut 42 = .ok (.iload_n 3, 1) := by decide +kernel
theorem dX8_takeOut_43 : decode cX8_takeOut 43 = .ok (.laload, 1) := by decide +kernel
theorem dX8_takeOut_44 : decode cX8_takeOut 44 = .ok (.invokestatic 68, 3) := by decide +kernel
theorem dX8_takeOut_47 : decode cX8_takeOut 47 = .ok (.ior, 1) := by decide +kernel
theorem dX8_takeOut_48 : decode cX8_takeOut 48 = .ok (.putfield 31, 3) := by decide +kernel
theorem dX8_takeOut_51 : decode cX8_takeOut 51 = .ok (.aload_n 0, 1) := by decide +kernel
theorem dX8_takeOut_52 : decode cX8_takeOut 52 = .ok (.getfield 23, 3) := by decide +kernel
theorem dX8_takeOut_55 : decode cX8_takeOut 55 = .ok (.iload_n 3, 1) := by decide +kernel
theorem dX8_takeOut_56 : decode cX8_takeOut 56 = .ok (.aload_n 0, 1) := by decide +kernel
theorem dX8_takeOut_57 : decode cX8_takeOut 57 = .ok (.getfield 10, 3) := by decide +kernel
theorem dX8_takeOut_60 : decode cX8_takeOut 60 = .ok (.iload_n 3, 1) := by decide +kernel
theorem dX8_takeOut_61 : decode cX8_takeOut 61 = .ok (.laload, 1) := by decide +kernel
theorem dX8_takeOut_62 : decode cX8_takeOut 62 = .ok (.l2i, 1) := by decide +kernel
theorem dX8_takeOut_63 : decode cX8_takeOut 63 = .ok (.invokevirtual 72, 3) := by decide +kernel
theorem dX8_takeOut_66 : decode cX8_takeOut 66 = .ok (.aload_n 0, 1) := by decide +kernel
theorem dX8_takeOut_67 : decode cX8_takeOut 67 = .ok (.dup, 1) := by decide +kernel
theorem dX8_takeOut_68 : decode cX8_takeOut 68 = .ok (.getfield 27, 3) := by decide +kernel
theorem dX8_takeOut_71 : decode cX8_takeOut 71 = .ok (.iconst 1, 1) := by decide +kernel
theorem dX8_takeOut_72 : decode cX8_takeOut 72 = .ok (.iadd, 1) := by decide +kernel
theorem dX8_takeOut_73 : decode cX8_takeOut 73 = .ok (.putfield 27, 3) := by decide +kernel
theorem dX8_takeOut_76 : decode cX8_takeOut 76 = .ok (.aload_n 0, 1) := by decide +kernel
theorem dX8_takeOut_77 : decode cX8_takeOut 77 = .ok (.getfield 10, 3) := by decide +kernel
theorem dX8_takeOut_80 : decode cX8_takeOut 80 = .ok (.iload_n 3, 1) := by decide +kernel
theorem dX8_takeOut_81 : decode cX8_takeOut 81 = .ok (.lconst 0, 1) := by decide +kernel
theorem dX8_takeOut_82 : decode cX8_takeOut 82 = .ok (.lastore, 1) := by decide +kernel
theorem dX8_takeOut_83 : decode cX8_takeOut 83 = .ok (.iinc 3 (-1), 3) := by decide +kernel
theorem dX8_takeOut_86 : decode cX8_takeOut 86 = .ok (.goto (-69), 3) := by decide +kernel
theorem dX8_takeOut_89 : decode cX8_takeOut 89 = .ok (.aload_n 0, 1) := by decide +kernel
theorem dX8_takeOut_90 : decode cX8_takeOut 90 = .ok (.getfield 16, 3) := by decide +kernel
theorem dX8_takeOut_93 : decode cX8_takeOut 93 = .ok (.iload_n 1, 1) := by decide +kernel
theorem dX8_takeOut_94 : decode cX8_takeOut 94 = .ok (.iconst 0, 1) := by decide +kernel
theorem dX8_takeOut_95 : decode cX8_takeOut 95 = .ok (.bastore, 1) := by decide +kernel
theorem dX8_takeOut_96 : decode cX8_takeOut 96 = .ok (.return_, 1) := by decide +kernel
theorem dX9_init_0 : decode cX9_init 0 = .ok (.aload_n 0, 1) := by decide +kernel
theorem dX9_init_1 : decode cX9_init 1 = .ok (.invokespecial 3, 3) := by decide +kernel
theorem dX9_init_4 : decode cX9_init 4 = .ok (.aload_n 0, 1) := by decide +kernel
theorem dX9_init_5 : decode cX9_init 5 = .ok (.bipush 8, 2) := by decide +kernel
theorem dX9_init_7 : decode cX9_init 7 = .ok (.anewarray 11, 3) := by decide +kernel
theorem dX9_init_10 : decode cX9_init 10 = .ok (.putfield 13, 3) := by decide +kernel
theorem dX9_init_13 : decode cX9_init 13 = .ok (.aload_n 0, 1) := by decide +kernel
theorem dX9_init_14 : decode cX9_init 14 = .ok (.new 11, 3) := by decide +kernel
theorem dX9_init_17 : decode cX9_init 17 = .ok (.dup, 1) := by decide +kernel
theorem dX9_init_18 : decode cX9_init 18 = .ok (.invokespecial 17, 3) := by decide +kernel
theorem dX9_init_21 : decode cX9_init 21 = .ok (.putfield 18, 3) := by decide +kernel
theorem dX9_init_24 : decode cX9_init 24 = .ok (.aload_n 0, 1) := by decide +kernel
theorem dX9_init_25 : decode cX9_init 25 = .ok (.iconst 2, 1) := by decide +kernel
theorem dX9_init_26 : decode cX9_init 26 = .ok (.putfield 22, 3) := by decide +kernel
theorem dX9_init_29 : decode cX9_init 29 = .ok (.iconst 0, 1) := by decide +kernel
theorem dX9_init_30 : decode cX9_init 30 = .ok (.istore_n 1, 1) := by decide +kernel
theorem dX9_init_31 : decode cX9_init 31 = .ok (.iload_n 1, 1) := by decide +kernel
theorem dX9_init_32 : decode cX9_init 32 = .ok (.bipush 8, 2) := by decide +kernel
theorem dX9_init_34 : decode cX9_init 34 = .ok (.if_icmp .ge 22, 3) := by decide +kernel
theorem dX9_init_37 : decode cX9_init 37 = .ok (.aload_n 0, 1) := by decide +kernel
theorem dX9_init_38 : decode cX9_init 38 = .ok (.getfield 13, 3) := by decide +kernel
theorem dX9_init_41 : decode cX9_init 41 = .ok (.iload_n 1, 1) := by decide +kernel
theorem dX9_init_42 : decode cX9_init 42 = .ok (.new 11, 3) := by decide +kernel
theorem dX9_init_45 : decode cX9_init 45 = .ok (.dup, 1) := by decide +kernel
theorem dX9_init_46 : decode cX9_init 46 = .ok (.invokespecial 17, 3) := by decide +kernel
theorem dX9_init_49 : decode cX9_init 49 = .ok (.aastore, 1) := by decide +kernel
theorem dX9_init_50 : decode cX9_init 50 = .ok (.iinc 1 1, 3) := by decide +kernel
theorem dX9_init_53 : decode cX9_init 53 = .ok (.goto (-22), 3) := by decide +kernel
theorem dX9_init_56 : decode cX9_init 56 = .ok (.return_, 1) := by decide +kernel
theorem dX9_isRod_0 : decode cX9_isRod 0 = .ok (.iload_n 0, 1) := by decide +kernel
theorem dX9_isRod_1 : decode cX9_isRod 1 = .ok (.ifCond .lt 13, 3) := by decide +kernel
theorem dX9_isRod_4 : decode cX9_isRod 4 = .ok (.iload_n 0, 1) := by decide +kernel
theorem dX9_isRod_5 : decode cX9_isRod 5 = .ok (.bipush 8, 2) := by decide +kernel
theorem dX9_isRod_7 : decode cX9_isRod 7 = .ok (.if_icmp .ge 7, 3) := by decide +kernel
theorem dX9_isRod_10 : decode cX9_isRod 10 = .ok (.iconst 1, 1) := by decide +kernel
theorem dX9_isRod_11 : decode cX9_isRod 11 = .ok (.goto 4, 3) := by decide +kernel
theorem dX9_isRod_14 : decode cX9_isRod 14 = .ok (.iconst 0, 1) := by decide +kernel
theorem dX9_isRod_15 : decode cX9_isRod 15 = .ok (.ireturn, 1) := by decide +kernel
theorem dX9_areBits_0 : decode cX9_areBits 0 = .ok (.iload_n 0, 1) := by decide +kernel
theorem dX9_areBits_1 : decode cX9_areBits 1 = .ok (.ifCond .lt 14, 3) := by decide +kernel
theorem dX9_areBits_4 : decode cX9_areBits 4 = .ok (.iload_n 0, 1) := by decide +kernel
theorem dX9_areBits_5 : decode cX9_areBits 5 = .ok (.sipush 256, 3) := by decide +kernel
theorem dX9_areBits_8 : decode cX9_areBits 8 = .ok (.if_icmp .ge 7, 3) := by decide +kernel
theorem dX9_areBits_11 : decode cX9_areBits 11 = .ok (.iconst 1, 1) := by decide +kernel
theorem dX9_areBits_12 : decode cX9_areBits 12 = .ok (.goto 4, 3) := by decide +kernel
theorem dX9_areBits_15 : decode cX9_areBits 15 = .ok (.iconst 0, 1) := by decide +kernel
theorem dX9_areBits_16 : decode cX9_areBits 16 = .ok (.ireturn, 1) := by decide +kernel
theorem dX9_figure_0 : decode cX9_figure 0 = .ok (.iload_n 0, 1) := by decide +kernel
theorem dX9_figure_1 : decode cX9_figure 1 = .ok (.iconst 3, 1) := by decide +kernel
theorem dX9_figure_2 : decode cX9_figure 2 = .ok (.iload_n 1, 1) := by decide +kernel
theorem dX9_figure_3 : decode cX9_figure 3 = .ok (.isub, 1) := by decide +kernel
theorem dX9_figure_4 : decode cX9_figure 4 = .ok (.invokestatic 26, 3) := by decide +kernel
theorem dX9_figure_7 : decode cX9_figure 7 = .ok (.ireturn, 1) := by decide +kernel
theorem dX9_order_0 : decode cX9_order 0 = .ok (.aload_n 0, 1) := by decide +kernel
theorem dX9_order_1 : decode cX9_order 1 = .ok (.getfield 22, 3) := by decide +kernel
theorem dX9_order_4 : decode cX9_order 4 = .ok (.ireturn, 1) := by decide +kernel
theorem dX9_isPoint_0 : decode cX9_isPoint 0 = .ok (.iload_n 1, 1) := by decide +kernel
theorem dX9_isPoint_1 : decode cX9_isPoint 1 = .ok (.iconst 1, 1) := by decide +kernel
theorem dX9_isPoint_2 : decode cX9_isPoint 2 = .ok (.if_icmp .lt 13, 3) := by decide +kernel
theorem dX9_isPoint_5 : decode cX9_isPoint 5 = .ok (.iload_n 1, 1) := by decide +kernel
theorem dX9_isPoint_6 : decode cX9_isPoint 6 = .ok (.bipush 10, 2) := by decide +kernel
theorem dX9_isPoint_8 : decode cX9_isPoint 8 = .ok (.iconst 4, 1) := by decide +kernel
theorem dX9_isPoint_9 : decode cX9_isPoint 9 = .ok (.invokestatic 32, 3) := by decide +kernel
theorem dX9_isPoint_12 : decode cX9_isPoint 12 = .ok (.if_icmp .lt 5, 3) := by decide +kernel
theorem dX9_isPoint_15 : decode cX9_isPoint 15 = .ok (.iconst 0, 1) := by decide +kernel
theorem dX9_isPoint_16 : decode cX9_isPoint 16 = .ok (.ireturn, 1) := by decide +kernel
theorem dX9_isPoint_17 : decode cX9_isPoint 17 = .ok (.iconst 0, 1) := by decide +kernel
theorem dX9_isPoint_18 : decode cX9_isPoint 18 = .ok (.istore_n 2, 1) := by decide +kernel
theorem dX9_isPoint_19 : decode cX9_isPoint 19 = .ok (.iload_n 2, 1) := by decide +kernel
theorem dX9_isPoint_20 : decode cX9_isPoint 20 = .ok (.iconst 4, 1) := by decide +kernel
theorem dX9_isPoint_21 : decode cX9_isPoint 21 = .ok (.if_icmp .ge 23, 3) := by decide +kernel
theorem dX9_isPoint_24 : decode cX9_isPoint 24 = .ok (.iload_n 1, 1) := by decide +kernel
theorem dX9_isPoint_25 : decode cX9_isPoint 25 = .ok (.iload_n 2, 1) := by decide +kernel
theorem dX9_isPoint_26 : decode cX9_isPoint 26 = .ok (.invokestatic 35, 3) := by decide +kernel
theorem dX9_isPoint_29 : decode cX9_isPoint 29 = .ok (.aload_n 0, 1) := by decide +kernel
theorem dX9_isPoint_30 : decode cX9_isPoint 30 = .ok (.getfield 22, 3) := by decide +kernel
theorem dX9_isPoint_33 : decode cX9_isPoint 33 = .ok (.if_icmp .lt 5, 3) := by decide +kernel
theorem dX9_isPoint_36 : decode cX9_isPoint 36 = .ok (.iconst 0, 1) := by decide +kernel
theorem dX9_isPoint_37 : decode cX9_isPoint 37 = .ok (.ireturn, 1) := by decide +kernel
theorem dX9_isPoint_38 : decode cX9_isPoint 38 = .ok (.iinc 2 1, 3) := by decide +kernel
theorem dX9_isPoint_41 : decode cX9_isPoint 41 = .ok (.goto (-22), 3) := by decide +kernel
theorem dX9_isPoint_44 : decode cX9_isPoint 44 = .ok (.iconst 1, 1) := by decide +kernel
theorem dX9_isPoint_45 : decode cX9_isPoint 45 = .ok (.ireturn, 1) := by decide +kernel
theorem dX9_change_0 : decode cX9_change 0 = .ok (.aload_n 0, 1) := by decide +kernel
theorem dX9_change_1 : decode cX9_change 1 = .ok (.getfield 22, 3) := by decide +kernel
theorem dX9_change_4 : decode cX9_change 4 = .ok (.istore_n 2, 1) := by decide +kernel
theorem dX9_change_5 : decode cX9_change 5 = .ok (.aload_n 0, 1) := by decide +kernel
theorem dX9_change_6 : decode cX9_change 6 = .ok (.iload_n 1, 1) := by decide +kernel
theorem dX9_change_7 : decode cX9_change 7 = .ok (.putfield 22, 3) := by decide +kernel
theorem dX9_change_10 : decode cX9_change 10 = .ok (.iconst 0, 1) := by decide +kernel
theorem dX9_change_11 : decode cX9_change 11 = .ok (.istore_n 3, 1) := by decide +kernel
theorem dX9_change_12 : decode cX9_change 12 = .ok (.iload_n 3, 1) := by decide +kernel
theorem dX9_change_13 : decode cX9_change 13 = .ok (.bipush 8, 2) := by decide +kernel
theorem dX9_change_15 : decode cX9_change 15 = .ok (.if_icmp .ge 18, 3) := by decide +kernel
theorem dX9_change_18 : decode cX9_change 18 = .ok (.aload_n 0, 1) := by decide +kernel
theorem dX9_change_19 : decode cX9_change 19 = .ok (.getfield 13, 3) := by decide +kernel
theorem dX9_change_22 : decode cX9_change 22 = .ok (.iload_n 3, 1) := by decide +kernel
theorem dX9_change_23 : decode cX9_change 23 = .ok (.aaload, 1) := by decide +kernel
theorem dX9_change_24 : decode cX9_change 24 = .ok (.invokevirtual 38, 3) := by decide +kernel
theorem dX9_change_27 : decode cX9_change 27 = .ok (.iinc 3 1, 3) := by decide +kernel
theorem dX9_change_30 : decode cX9_change 30 = .ok (.goto (-18), 3) := by decide +kernel
theorem dX9_change_33 : decode cX9_change 33 = .ok (.iload_n 2, 1) := by decide +kernel
theorem dX9_change_34 : decode cX9_change 34 = .ok (.ireturn, 1) := by decide +kernel
theorem dX9_lay_0 : decode cX9_lay 0 = .ok (.iload_n 1, 1) := by decide +kernel
theorem dX9_lay_1 : decode cX9_lay 1 = .ok (.invokestatic 41, 3) := by decide +kernel
theorem dX9_lay_4 : decode cX9_lay 4 = .ok (.ifCond .eq 19, 3) := by decide +kernel
theorem dX9_lay_7 : decode cX9_lay 7 = .ok (.aload_n 0, 1) := by decide +kernel
theorem dX9_lay_8 : decode cX9_lay 8 = .ok (.getfield 18, 3) := by decide +kernel
theorem dX9_lay_11 : decode cX9_lay 11 = .ok (.iload_n 2, 1) := by decide +kernel
theorem dX9_lay_12 : decode cX9_lay 12 = .ok (.iload_n 3, 1) := by decide +kernel
theorem dX9_lay_13 : decode cX9_lay 13 = .ok (.aload_n 0, 1) := by decide +kernel
theorem dX9_lay_14 : decode cX9_lay 14 = .ok (.getfield 22, 3) := by decide +kernel
theorem dX9_lay_17 : decode cX9_lay 17 = .ok (.invokevirtual 45, 3) := by decide +kernel
theorem dX9_lay_20 : decode cX9_lay 20 = .ok (.ifCond .ne 5, 3) := by decide +kernel
theorem dX9_lay_23 : decode cX9_lay 23 = .ok (.iconst 0, 1) := by decide +kernel
theorem dX9_lay_24 : decode cX9_lay 24 = .ok (.ireturn, 1) := by decide +kernel
theorem dX9_lay_25 : decode cX9_lay 25 = .ok (.aload_n 0, 1) := by decide +kernel
theorem dX9_lay_26 : decode cX9_lay 26 = .ok (.getfield 13, 3) := by decide +kernel
theorem dX9_lay_29 : decode cX9_lay 29 = .ok (.iload_n 1, 1) := by decide +kernel
theorem dX9_lay_30 : decode cX9_lay 30 = .ok (.aaload, 1) := by decide +kernel
theorem dX9_lay_31 : decode cX9_lay 31 = .ok (.aload_n 0, 1) := by decide +kernel
theorem dX9_lay_32 : decode cX9_lay 32 = .ok (.getfield 18, 3) := by decide +kernel
theorem dX9_lay_35 : decode cX9_lay 35 = .ok (.invokevirtual 49, 3) := by decide +kernel
theorem dX9_lay_38 : decode cX9_lay 38 = .ok (.iconst 1, 1) := by decide +kernel
theorem dX9_lay_39 : decode cX9_lay 39 = .ok (.ireturn, 1) := by decide +kernel
theorem dX9_remove_0 : decode cX9_remove 0 = .ok (.iload_n 1, 1) := by decide +kernel
theorem dX9_remove_1 : decode cX9_remove 1 = .ok (.invokestatic 41, 3) := by decide +kernel
theorem dX9_remove_4 : decode cX9_remove 4 = .ok (.ifCond .eq 15, 3) := by decide +kernel
theorem dX9_remove_7 : decode cX9_remove 7 = .ok (.aload_n 0, 1) := by decide +kernel
theorem dX9_remove_8 : decode cX9_remove 8 = .ok (.getfield 13, 3) := by decide +kernel
theorem dX9_remove_11 : decode cX9_remove 11 = .ok (.iload_n 1, 1) := by decide +kernel
theorem dX9_remove_12 : decode cX9_remove 12 = .ok (.aaload, 1) := by decide +kernel
theorem dX9_remove_13 : decode cX9_remove 13 = .ok (.invokevirtual 53, 3) := by decide +kernel
theorem dX9_remove_16 : decode cX9_remove 16 = .ok (.ifCond .ne 5, 3) := by decide +kernel
theorem dX9_remove_19 : decode cX9_remove 19 = .ok (.iconst 0, 1) := by decide +kernel
theorem dX9_remove_20 : decode cX9_remove 20 = .ok (.ireturn, 1) := by decide +kernel
theorem dX9_remove_21 : decode cX9_remove 21 = .ok (.aload_n 0, 1) := by decide +kernel
theorem dX9_remove_22 : decode cX9_remove 22 = .ok (.getfield 13, 3) := by decide +kernel
theorem dX9_remove_25 : decode cX9_remove 25 = .ok (.iload_n 1, 1) := by decide +kernel
theorem dX9_remove_26 : decode cX9_remove 26 = .ok (.aaload, 1) := by decide +kernel
theorem dX9_remove_27 : decode cX9_remove 27 = .ok (.invokevirtual 38, 3) := by decide +kernel
theorem dX9_remove_30 : decode cX9_remove 30 = .ok (.iconst 1, 1) := by decide +kernel
theorem dX9_remove_31 : decode cX9_remove 31 = .ok (.ireturn, 1) := by decide +kernel
theorem dX9_howMet_0 : decode cX9_howMet 0 = .ok (.iload_n 1, 1) := by decide +kernel
theorem dX9_howMet_1 : decode cX9_howMet 1 = .ok (.invokestatic 41, 3) := by decide +kernel
theorem dX9_howMet_4 : decode cX9_howMet 4 = .ok (.ifCond .eq 34, 3) := by decide +kernel
theorem dX9_howMet_7 : decode cX9_howMet 7 = .ok (.iload_n 2, 1) := by decide +kernel
theorem dX9_howMet_8 : decode cX9_howMet 8 = .ok (.invokestatic 41, 3) := by decide +kernel
theorem dX9_howMet_11 : decode cX9_howMet 11 = .ok (.ifCond .eq 27, 3) := by decide +kernel
theorem dX9_howMet_14 : decode cX9_howMet 14 = .ok (.aload_n 0, 1) := by decide +kernel
theorem dX9_howMet_15 : decode cX9_howMet 15 = .ok (.getfield 13, 3) := by decide +kernel
theorem dX9_howMet_18 : decode cX9_howMet 18 = .ok (.iload_n 1, 1) := by decide +kernel
theorem dX9_howMet_19 : decode cX9_howMet 19 = .ok (.aaload, 1) := by decide +kernel
theorem dX9_howMet_20 : decode cX9_howMet 20 = .ok (.invokevirtual 53, 3) := by decide +kernel
theorem dX9_howMet_23 : decode cX9_howMet 23 = .ok (.ifCond .eq 15, 3) := by decide +kernel
theorem dX9_howMet_26 : decode cX9_howMet 26 = .ok (.aload_n 0, 1) := by decide +kernel
theorem dX9_howMet_27 : decode cX9_howMet 27 = .ok (.getfield 13, 3) := by decide +kernel
theorem dX9_howMet_30 : decode cX9_howMet 30 = .ok (.iload_n 2, 1) := by decide +kernel
theorem dX9_howMet_31 : decode cX9_howMet 31 = .ok (.aaload, 1) := by decide +kernel
theorem dX9_howMet_32 : decode cX9_howMet 32 = .ok (.invokevirtual 53, 3) := by decide +kernel
theorem dX9_howMet_35 : decode cX9_howMet 35 = .ok (.ifCond .ne 6, 3) := by decide +kernel
theorem dX9_howMet_38 : decode cX9_howMet 38 = .ok (.bipush (-3), 2) := by decide +kernel
theorem dX9_howMet_40 : decode cX9_howMet 40 = .ok (.ireturn, 1) := by decide +kernel
theorem dX9_howMet_41 : decode cX9_howMet 41 = .ok (.aload_n 0, 1) := by decide +kernel
theorem dX9_howMet_42 : decode cX9_howMet 42 = .ok (.getfield 13, 3) := by decide +kernel
theorem dX9_howMet_45 : decode cX9_howMet 45 = .ok (.iload_n 1, 1) := by decide +kernel
theorem dX9_howMet_46 : decode cX9_howMet 46 = .ok (.aaload, 1) := by decide +kernel
theorem dX9_howMet_47 : decode cX9_howMet 47 = .ok (.aload_n 0, 1) := by decide +kernel
theorem dX9_howMet_48 : decode cX9_howMet 48 = .ok (.getfield 13, 3) := by decide +kernel
theorem dX9_howMet_51 : decode cX9_howMet 51 = .ok (.iload_n 2, 1) := by decide +kernel
theorem dX9_howMet_52 : decode cX9_howMet 52 = .ok (.aaload, 1) := by decide +kernel
theorem dX9_howMet_53 : decode cX9_howMet 53 = .ok (.invokevirtual 57, 3) := by decide +kernel
theorem dX9_howMet_56 : decode cX9_howMet 56 = .ok (.ifCond .eq 5, 3) := by decide +kernel
theorem dX9_howMet_59 : decode cX9_howMet 59 = .ok (.iconst 2, 1) := by decide +kernel
theorem dX9_howMet_60 : decode cX9_howMet 60 = .ok (.ireturn, 1) := by decide +kernel
theorem dX9_howMet_61 : decode cX9_howMet 61 = .ok (.aload_n 0, 1) := by decide +kernel
theorem dX9_howMet_62 : decode cX9_howMet 62 = .ok (.getfield 13, 3) := by decide +kernel
theorem dX9_howMet_65 : decode cX9_howMet 65 = .ok (.iload_n 1, 1) := by decide +kernel
theorem dX9_howMet_66 : decode cX9_howMet 66 = .ok (.aaload, 1) := by decide +kernel
theorem dX9_howMet_67 : decode cX9_howMet 67 = .ok (.aload_n 0, 1) := by decide +kernel
theorem dX9_howMet_68 : decode cX9_howMet 68 = .ok (.getfield 13, 3) := by decide +kernel
theorem dX9_howMet_71 : decode cX9_howMet 71 = .ok (.iload_n 2, 1) := by decide +kernel
theorem dX9_howMet_72 : decode cX9_howMet 72 = .ok (.aaload, 1) := by decide +kernel
theorem dX9_howMet_73 : decode cX9_howMet 73 = .ok (.aload_n 0, 1) := by decide +kernel
theorem dX9_howMet_74 : decode cX9_howMet 74 = .ok (.getfield 22, 3) := by decide +kernel
theorem dX9_howMet_77 : decode cX9_howMet 77 = .ok (.invokevirtual 61, 3) := by decide +kernel
theorem dX9_howMet_80 : decode cX9_howMet 80 = .ok (.ifCond .eq 7, 3) := by decide +kernel
theorem dX9_howMet_83 : decode cX9_howMet 83 = .ok (.iconst 1, 1) := by decide +kernel
theorem dX9_howMet_84 : decode cX9_howMet 84 = .ok (.goto 4, 3) := by decide +kernel
theorem dX9_howMet_87 : decode cX9_howMet 87 = .ok (.iconst 0, 1) := by decide +kernel
theorem dX9_howMet_88 : decode cX9_howMet 88 = .ok (.ireturn, 1) := by decide +kernel
theorem dX9_rodsThere_0 : decode cX9_rodsThere 0 = .ok (.iconst 0, 1) := by decide +kernel
theorem dX9_rodsThere_1 : decode cX9_rodsThere 1 = .ok (.istore_n 1, 1) := by decide +kernel
theorem dX9_rodsThere_2 : decode cX9_rodsThere 2 = .ok (.iconst 0, 1) := by decide +kernel
theorem dX9_rodsThere_3 : decode cX9_rodsThere 3 = .ok (.istore_n 2, 1) := by decide +kernel
theorem dX9_rodsThere_4 : decode cX9_rodsThere 4 = .ok (.iload_n 2, 1) := by decide +kernel
theorem dX9_rodsThere_5 : decode cX9_rodsThere 5 = .ok (.bipush 8, 2) := by decide +kernel
theorem dX9_rodsThere_7 : decode cX9_rodsThere 7 = .ok (.if_icmp .ge 29, 3) := by decide +kernel
theorem dX9_rodsThere_10 : decode cX9_rodsThere 10 = .ok (.iload_n 1, 1) := by decide +kernel
theorem dX9_rodsThere_11 : decode cX9_rodsThere 11 = .ok (.aload_n 0, 1) := by decide +kernel
theorem dX9_rodsThere_12 : decode cX9_rodsThere 12 = .ok (.getfield 13, 3) := by decide +kernel
theorem dX9_rodsThere_15 : decode cX9_rodsThere 15 = .ok (.iload_n 2, 1) := by decide +kernel
theorem dX9_rodsThere_16 : decode cX9_rodsThere 16 = .ok (.aaload, 1) := by decide +kernel
theorem dX9_rodsThere_17 : decode cX9_rodsThere 17 = .ok (.invokevirtual 53, 3) := by decide +kernel
theorem dX9_rodsThere_20 : decode cX9_rodsThere 20 = .ok (.ifCond .eq 7, 3) := by decide +kernel
theorem dX9_rodsThere_23 : decode cX9_rodsThere 23 = .ok (.iconst 1, 1) := by decide +kernel
theorem dX9_rodsThere_24 : decode cX9_rodsThere 24 = .ok (.goto 4, 3) := by decide +kernel
theorem dX9_rodsThere_27 : decode cX9_rodsThere 27 = .ok (.iconst 0, 1) := by decide +kernel
theorem dX9_rodsThere_28 : decode cX9_rodsThere 28 = .ok (.iadd, 1) := by decide +kernel
theorem dX9_rodsThere_29 : decode cX9_rodsThere 29 = .ok (.istore_n 1, 1) := by decide +kernel
theorem dX9_rodsThere_30 : decode cX9_rodsThere 30 = .ok (.iinc 2 1, 3) := by decide +kernel
theorem dX9_rodsThere_33 : decode cX9_rodsThere 33 = .ok (.goto (-29), 3) := by decide +kernel
theorem dX9_rodsThere_36 : decode cX9_rodsThere 36 = .ok (.iload_n 1, 1) := by decide +kernel
theorem dX9_rodsThere_37 : decode cX9_rodsThere 37 = .ok (.ireturn, 1) := by decide +kernel
theorem dX9_areThere_0 : decode cX9_areThere 0 = .ok (.iconst 0, 1) := by decide +kernel
theorem dX9_areThere_1 : decode cX9_areThere 1 = .ok (.istore_n 2, 1) := by decide +kernel
theorem dX9_areThere_2 : decode cX9_areThere 2 = .ok (.iload_n 2, 1) := by decide +kernel
theorem dX9_areThere_3 : decode cX9_areThere 3 = .ok (.bipush 8, 2) := by decide +kernel
theorem dX9_areThere_5 : decode cX9_areThere 5 = .ok (.if_icmp .ge 31, 3) := by decide +kernel
theorem dX9_areThere_8 : decode cX9_areThere 8 = .ok (.iload_n 1, 1) := by decide +kernel
theorem dX9_areThere_9 : decode cX9_areThere 9 = .ok (.iload_n 2, 1) := by decide +kernel
theorem dX9_areThere_10 : decode cX9_areThere 10 = .ok (.invokestatic 65, 3) := by decide +kernel
theorem dX9_areThere_13 : decode cX9_areThere 13 = .ok (.ifCond .eq 17, 3) := by decide +kernel
theorem dX9_areThere_16 : decode cX9_areThere 16 = .ok (.aload_n 0, 1) := by decide +kernel
theorem dX9_areThere_17 : decode cX9_areThere 17 = .ok (.getfield 13, 3) := by decide +kernel
theorem dX9_areThere_20 : decode cX9_areThere 20 = .ok (.iload_n 2, 1) := by decide +kernel
theorem dX9_areThere_21 : decode cX9_areThere 21 = .ok (.aaload, 1) := by decide +kernel
theorem dX9_areThere_22 : decode cX9_areThere 22 = .ok (.invokevirtual 53, 3) := by decide +kernel
theorem dX9_areThere_25 : decode cX9_areThere 25 = .ok (.ifCond .ne 5, 3) := by decide +kernel
theorem dX9_areThere_28 : decode cX9_areThere 28 = .ok (.iconst 0, 1) := by decide +kernel
theorem dX9_areThere_29 : decode cX9_areThere 29 = .ok (.ireturn, 1) := by decide +kernel
theorem dX9_areThere_30 : decode cX9_areThere 30 = .ok (.iinc 2 1, 3) := by decide +kernel
theorem dX9_areThere_33 : decode cX9_areThere 33 = .ok (.goto (-31), 3) := by decide +kernel
theorem dX9_areThere_36 : decode cX9_areThere 36 = .ok (.iconst 1, 1) := by decide +kernel
theorem dX9_areThere_37 : decode cX9_areThere 37 = .ok (.ireturn, 1) := by decide +kernel
theorem dX9_isTold_0 : decode cX9_isTold 0 = .ok (.iload_n 0, 1) := by decide +kernel
theorem dX9_isTold_1 : decode cX9_isTold 1 = .ok (.iload_n 1, 1) := by decide +kernel
theorem dX9_isTold_2 : decode cX9_isTold 2 = .ok (.ishr, 1) := by decide +kernel
theorem dX9_isTold_3 : decode cX9_isTold 3 = .ok (.iconst 1, 1) := by decide +kernel
theorem dX9_isTold_4 : decode cX9_isTold 4 = .ok (.iand, 1) := by decide +kernel
theorem dX9_isTold_5 : decode cX9_isTold 5 = .ok (.iconst 1, 1) := by decide +kernel
theorem dX9_isTold_6 : decode cX9_isTold 6 = .ok (.if_icmp .ne 7, 3) := by decide +kernel
theorem dX9_isTold_9 : decode cX9_isTold 9 = .ok (.iconst 1, 1) := by decide +kernel
theorem dX9_isTold_10 : decode cX9_isTold 10 = .ok (.goto 4, 3) := by decide +kernel
theorem dX9_isTold_13 : decode cX9_isTold 13 = .ok (.iconst 0, 1) := by decide +kernel
theorem dX9_isTold_14 : decode cX9_isTold 14 = .ok (.ireturn, 1) := by decide +kernel
theorem dX9_linesMeeting_0 : decode cX9_linesMeeting 0 = .ok (.iconst 0, 1) := by decide +kernel
theorem dX9_linesMeeting_1 : decode cX9_linesMeeting 1 = .ok (.istore_n 2, 1) := by decide +kernel
theorem dX9_linesMeeting_2 : decode cX9_linesMeeting 2 = .ok (.iconst 0, 1) := by decide +kernel
theorem dX9_linesMeeting_3 : decode cX9_linesMeeting 3 = .ok (.istore_n 3, 1) := by decide +kernel
theorem dX9_linesMeeting_4 : decode cX9_linesMeeting 4 = .ok (.iload_n 3, 1) := by decide +kernel
theorem dX9_linesMeeting_5 : decode cX9_linesMeeting 5 = .ok (.iconst 3, 1) := by decide +kernel
theorem dX9_linesMeeting_6 : decode cX9_linesMeeting 6 = .ok (.if_icmp .ge 37, 3) := by decide +kernel
theorem dX9_linesMeeting_9 : decode cX9_linesMeeting 9 = .ok (.iload_n 3, 1) := by decide +kernel
theorem dX9_linesMeeting_10 : decode cX9_linesMeeting 10 = .ok (.iconst 1, 1) := by decide +kernel
theorem dX9_linesMeeting_11 : decode cX9_linesMeeting 11 = .ok (.iadd, 1) := by decide +kernel
theorem dX9_linesMeeting_12 : decode cX9_linesMeeting 12 = .ok (.istore 4, 2) := by decide +kernel
theorem dX9_linesMeeting_14 : decode cX9_linesMeeting 14 = .ok (.iload 4, 2) := by decide +kernel
theorem dX9_linesMeeting_16 : decode cX9_linesMeeting 16 = .ok (.iconst 4, 1) := by decide +kernel
theorem dX9_linesMeeting_17 : decode cX9_linesMeeting 17 = .ok (.if_icmp .ge 20, 3) := by decide +kernel
theorem dX9_linesMeeting_20 : decode cX9_linesMeeting 20 = .ok (.iload_n 2, 1) := by decide +kernel
theorem dX9_linesMeeting_21 : decode cX9_linesMeeting 21 = .ok (.aload_n 0, 1) := by decide +kernel
theorem dX9_linesMeeting_22 : decode cX9_linesMeeting 22 = .ok (.iload_n 3, 1) := by decide +kernel
theorem dX9_linesMeeting_23 : decode cX9_linesMeeting 23 = .ok (.iload 4, 2) := by decide +kernel
theorem dX9_linesMeeting_25 : decode cX9_linesMeeting 25 = .ok (.iload_n 1, 1) := by decide +kernel
theorem dX9_linesMeeting_26 : decode cX9_linesMeeting 26 = .ok (.invokevirtual 69, 3) := by decide +kernel
theorem dX9_linesMeeting_29 : decode cX9_linesMeeting 29 = .ok (.iadd, 1) := by decide +kernel
theorem dX9_linesMeeting_30 : decode cX9_linesMeeting 30 = .ok (.istore_n 2, 1) := by decide +kernel
theorem dX9_linesMeeting_31 : decode cX9_linesMeeting 31 = .ok (.iinc 4 1, 3) := by decide +kernel
theorem dX9_linesMeeting_34 : decode cX9_linesMeeting 34 = .ok (.goto (-20), 3) := by decide +kernel
theorem dX9_linesMeeting_37 : decode cX9_linesMeeting 37 = .ok (.iinc 3 1, 3) := by decide +kernel
theorem dX9_linesMeeting_40 : decode cX9_linesMeeting 40 = .ok (.goto (-36), 3) := by decide +kernel
theorem dX9_linesMeeting_43 : decode cX9_linesMeeting 43 = .ok (.iload_n 2, 1) := by decide +kernel
theorem dX9_linesMeeting_44 : decode cX9_linesMeeting 44 = .ok (.ireturn, 1) := by decide +kernel
theorem dX9_linesFrom_0 : decode cX9_linesFrom 0 = .ok (.iconst 0, 1) := by decide +kernel
theorem dX9_linesFrom_1 : decode cX9_linesFrom 1 = .ok (.istore 4, 2) := by decide +kernel
theorem dX9_linesFrom_3 : decode cX9_linesFrom 3 = .ok (.aload_n 0, 1) := by decide +kernel
theorem dX9_linesFrom_4 : decode cX9_linesFrom 4 = .ok (.getfield 22, 3) := by decide +kernel
theorem dX9_linesFrom_7 : decode cX9_linesFrom 7 = .ok (.iconst 2, 1) := by decide +kernel
theorem dX9_linesFrom_8 : decode cX9_linesFrom 8 = .ok (.iload_n 1, 1) := by decide +kernel
theorem dX9_linesFrom_9 : decode cX9_linesFrom 9 = .ok (.isub, 1) := by decide +kernel
theorem dX9_linesFrom_10 : decode cX9_linesFrom 10 = .ok (.invokestatic 32, 3) := by decide +kernel
theorem dX9_linesFrom_13 : decode cX9_linesFrom 13 = .ok (.istore 5, 2) := by decide +kernel
theorem dX9_linesFrom_15 : decode cX9_linesFrom 15 = .ok (.aload_n 0, 1) := by decide +kernel
theorem dX9_linesFrom_16 : decode cX9_linesFrom 16 = .ok (.getfield 22, 3) := by decide +kernel
theorem dX9_linesFrom_19 : decode cX9_linesFrom 19 = .ok (.iconst 3, 1) := by decide +kernel
theorem dX9_linesFrom_20 : decode cX9_linesFrom 20 = .ok (.iload_n 2, 1) := by decide +kernel
theorem dX9_linesFrom_21 : decode cX9_linesFrom 21 = .ok (.isub, 1) := by decide +kernel
theorem dX9_linesFrom_22 : decode cX9_linesFrom 22 = .ok (.invokestatic 32, 3) := by decide +kernel
theorem dX9_linesFrom_25 : decode cX9_linesFrom 25 = .ok (.istore 6, 2) := by decide +kernel
theorem dX9_linesFrom_27 : decode cX9_linesFrom 27 = .ok (.iconst 0, 1) := by decide +kernel
theorem dX9_linesFrom_28 : decode cX9_linesFrom 28 = .ok (.istore 7, 2) := by decide +kernel
theorem dX9_linesFrom_30 : decode cX9_linesFrom 30 = .ok (.iload 7, 2) := by decide +kernel
theorem dX9_linesFrom_32 : decode cX9_linesFrom 32 = .ok (.iload 5, 2) := by decide +kernel
theorem dX9_linesFrom_34 : decode cX9_linesFrom 34 = .ok (.if_icmp .ge 64, 3) := by decide +kernel
theorem dX9_linesFrom_37 : decode cX9_linesFrom 37 = .ok (.iconst 0, 1) := by decide +kernel
theorem dX9_linesFrom_38 : decode cX9_linesFrom 38 = .ok (.istore 8, 2) := by decide +kernel
theorem dX9_linesFrom_40 : decode cX9_linesFrom 40 = .ok (.iload 8, 2) := by decide +kernel
theorem dX9_linesFrom_42 : decode cX9_linesFrom 42 = .ok (.iload 6, 2) := by decide +kernel
theorem dX9_linesFrom_44 : decode cX9_linesFrom 44 = .ok (.if_icmp .ge 48, 3) := by decide +kernel
theorem dX9_linesFrom_47 : decode cX9_linesFrom 47 = .ok (.aload_n 0, 1) := by decide +kernel
theorem dX9_linesFrom_48 : decode cX9_linesFrom 48 = .ok (.getfield 18, 3) := by decide +kernel
theorem dX9_linesFrom_51 : decode cX9_linesFrom 51 = .ok (.aload_n 0, 1) := by decide +kernel
theorem dX9_linesFrom_52 : decode cX9_linesFrom 52 = .ok (.iload_n 1, 1) := by decide +kernel
theorem dX9_linesFrom_53 : decode cX9_linesFrom 53 = .ok (.iload_n 2, 1) := by decide +kernel
theorem dX9_linesFrom_54 : decode cX9_linesFrom 54 = .ok (.iload 7, 2) := by decide +kernel
theorem dX9_linesFrom_56 : decode cX9_linesFrom 56 = .ok (.invokevirtual 73, 3) := by decide +kernel
theorem dX9_linesFrom_59 : decode cX9_linesFrom 59 = .ok (.aload_n 0, 1) := by decide +kernel
theorem dX9_linesFrom_60 : decode cX9_linesFrom 60 = .ok (.iload_n 2, 1) := by decide +kernel
theorem dX9_linesFrom_61 : decode cX9_linesFrom 61 = .ok (.iconst (-1), 1) := by decide +kernel
theorem dX9_linesFrom_62 : decode cX9_linesFrom 62 = .ok (.iload 8, 2) := by decide +kernel
theorem dX9_linesFrom_64 : decode cX9_linesFrom 64 = .ok (.invokevirtual 73, 3) := by decide +kernel
theorem dX9_linesFrom_67 : decode cX9_linesFrom 67 = .ok (.aload_n 0, 1) := by decide +kernel
theorem dX9_linesFrom_68 : decode cX9_linesFrom 68 = .ok (.getfield 22, 3) := by decide +kernel
theorem dX9_linesFrom_71 : decode cX9_linesFrom 71 = .ok (.invokevirtual 45, 3) := by decide +kernel
theorem dX9_linesFrom_74 : decode cX9_linesFrom 74 = .ok (.pop, 1) := by decide +kernel
theorem dX9_linesFrom_75 : decode cX9_linesFrom 75 = .ok (.aload_n 0, 1) := by decide +kernel
theorem dX9_linesFrom_76 : decode cX9_linesFrom 76 = .ok (.iload_n 3, 1) := by decide +kernel
theorem dX9_linesFrom_77 : decode cX9_linesFrom 77 = .ok (.invokevirtual 76, 3) := by decide +kernel
theorem dX9_linesFrom_80 : decode cX9_linesFrom 80 = .ok (.ifCond .eq 6, 3) := by decide +kernel
theorem dX9_linesFrom_83 : decode cX9_linesFrom 83 = .ok (.iinc 4 1, 3) := by decide +kernel
theorem dX9_linesFrom_86 : decode cX9_linesFrom 86 = .ok (.iinc 8 1, 3) := by decide +kernel
theorem dX9_linesFrom_89 : decode cX9_linesFrom 89 = .ok (.goto (-49), 3) := by decide +kernel
theorem dX9_linesFrom_92 : decode cX9_linesFrom 92 = .ok (.iinc 7 1, 3) := by decide +kernel
theorem dX9_linesFrom_95 : decode cX9_linesFrom 95 = .ok (.goto (-65), 3) := by decide +kernel
theorem dX9_linesFrom_98 : decode cX9_linesFrom 98 = .ok (.iload 4, 2) := by decide +kernel
theorem dX9_linesFrom_100 : decode cX9_linesFrom 100 = .ok (.ireturn, 1) := by decide +kernel
theorem dX9_crossesAll_0 : decode cX9_crossesAll 0 = .ok (.iconst 0, 1) := by decide +kernel
theorem dX9_crossesAll_1 : decode cX9_crossesAll 1 = .ok (.istore_n 2, 1) := by decide +kernel
theorem dX9_crossesAll_2 : decode cX9_crossesAll 2 = .ok (.iload_n 2, 1) := by decide +kernel
theorem dX9_crossesAll_3 : decode cX9_crossesAll 3 = .ok (.bipush 8, 2) := by decide +kernel
theorem dX9_crossesAll_5 : decode cX9_crossesAll 5 = .ok (.if_icmp .ge 39, 3) := by decide +kernel
theorem dX9_crossesAll_8 : decode cX9_crossesAll 8 = .ok (.iload_n 1, 1) := by decide +kernel
theorem dX9_crossesAll_9 : decode cX9_crossesAll 9 = .ok (.iload_n 2, 1) := by decide +kernel
theorem dX9_crossesAll_10 : decode cX9_crossesAll 10 = .ok (.invokestatic 65, 3) := by decide +kernel
theorem dX9_crossesAll_13 : decode cX9_crossesAll 13 = .ok (.ifCond .eq 25, 3) := by decide +kernel
theorem dX9_crossesAll_16 : decode cX9_crossesAll 16 = .ok (.aload_n 0, 1) := by decide +kernel
theorem dX9_crossesAll_17 : decode cX9_crossesAll 17 = .ok (.getfield 18, 3) := by decide +kernel
theorem dX9_crossesAll_20 : decode cX9_crossesAll 20 = .ok (.aload_n 0, 1) := by decide +kernel
theorem dX9_crossesAll_21 : decode cX9_crossesAll 21 = .ok (.getfield 13, 3) := by decide +kernel
theorem dX9_crossesAll_24 : decode cX9_crossesAll 24 = .ok (.iload_n 2, 1) := by decide +kernel
theorem dX9_crossesAll_25 : decode cX9_crossesAll 25 = .ok (.aaload, 1) := by decide +kernel
theorem dX9_crossesAll_26 : decode cX9_crossesAll 26 = .ok (.aload_n 0, 1) := by decide +kernel
theorem dX9_crossesAll_27 : decode cX9_crossesAll 27 = .ok (.getfield 22, 3) := by decide +kernel
theorem dX9_crossesAll_30 : decode cX9_crossesAll 30 = .ok (.invokevirtual 61, 3) := by decide +kernel
theorem dX9_crossesAll_33 : decode cX9_crossesAll 33 = .ok (.ifCond .ne 5, 3) := by decide +kernel
theorem dX9_crossesAll_36 : decode cX9_crossesAll 36 = .ok (.iconst 0, 1) := by decide +kernel
theorem dX9_crossesAll_37 : decode cX9_crossesAll 37 = .ok (.ireturn, 1) := by decide +kernel
theorem dX9_crossesAll_38 : decode cX9_crossesAll 38 = .ok (.iinc 2 1, 3) := by decide +kernel
theorem dX9_crossesAll_41 : decode cX9_crossesAll 41 = .ok (.goto (-39), 3) := by decide +kernel
theorem dX9_crossesAll_44 : decode cX9_crossesAll 44 = .ok (.iconst 1, 1) := by decide +kernel
theorem dX9_crossesAll_45 : decode cX9_crossesAll 45 = .ok (.ireturn, 1) := by decide +kernel
theorem dX9_pointsOn_0 : decode cX9_pointsOn 0 = .ok (.iconst 0, 1) := by decide +kernel
theorem dX9_pointsOn_1 : decode cX9_pointsOn 1 = .ok (.istore_n 2, 1) := by decide +kernel
theorem dX9_pointsOn_2 : decode cX9_pointsOn 2 = .ok (.iconst 0, 1) := by decide +kernel
theorem dX9_pointsOn_3 : decode cX9_pointsOn 3 = .ok (.istore_n 3, 1) := by decide +kernel
theorem dX9_pointsOn_4 : decode cX9_pointsOn 4 = .ok (.iload_n 3, 1) := by decide +kernel
theorem dX9_pointsOn_5 : decode cX9_pointsOn 5 = .ok (.iconst 4, 1) := by decide +kernel
theorem dX9_pointsOn_6 : decode cX9_pointsOn 6 = .ok (.if_icmp .ge 56, 3) := by decide +kernel
theorem dX9_pointsOn_9 : decode cX9_pointsOn 9 = .ok (.aload_n 0, 1) := by decide +kernel
theorem dX9_pointsOn_10 : decode cX9_pointsOn 10 = .ok (.getfield 22, 3) := by decide +kernel
theorem dX9_pointsOn_13 : decode cX9_pointsOn 13 = .ok (.iconst 3, 1) := by decide +kernel
theorem dX9_pointsOn_14 : decode cX9_pointsOn 14 = .ok (.iload_n 3, 1) := by decide +kernel
theorem dX9_pointsOn_15 : decode cX9_pointsOn 15 = .ok (.isub, 1) := by decide +kernel
theorem dX9_pointsOn_16 : decode cX9_pointsOn 16 = .ok (.invokestatic 32, 3) := by decide +kernel
theorem dX9_pointsOn_19 : decode cX9_pointsOn 19 = .ok (.istore 4, 2) := by decide +kernel
theorem dX9_pointsOn_21 : decode cX9_pointsOn 21 = .ok (.iconst 0, 1) := by decide +kernel
theorem dX9_pointsOn_22 : decode cX9_pointsOn 22 = .ok (.istore 5, 2) := by decide +kernel
theorem dX9_pointsOn_24 : decode cX9_pointsOn 24 = .ok (.iload 5, 2) := by decide +kernel
theorem dX9_pointsOn_26 : decode cX9_pointsOn 26 = .ok (.iload 4, 2) := by decide +kernel
theorem dX9_pointsOn_28 : decode cX9_pointsOn 28 = .ok (.if_icmp .ge 28, 3) := by decide +kernel
theorem dX9_pointsOn_31 : decode cX9_pointsOn 31 = .ok (.aload_n 0, 1) := by decide +kernel
theorem dX9_pointsOn_32 : decode cX9_pointsOn 32 = .ok (.aload_n 0, 1) := by decide +kernel
theorem dX9_pointsOn_33 : decode cX9_pointsOn 33 = .ok (.iload_n 3, 1) := by decide +kernel
theorem dX9_pointsOn_34 : decode cX9_pointsOn 34 = .ok (.iconst (-1), 1) := by decide +kernel
theorem dX9_pointsOn_35 : decode cX9_pointsOn 35 = .ok (.iload 5, 2) := by decide +kernel
theorem dX9_pointsOn_37 : decode cX9_pointsOn 37 = .ok (.invokevirtual 73, 3) := by decide +kernel
theorem dX9_pointsOn_40 : decode cX9_pointsOn 40 = .ok (.iload_n 1, 1) := by decide +kernel
theorem dX9_pointsOn_41 : decode cX9_pointsOn 41 = .ok (.invokevirtual 79, 3) := by decide +kernel
theorem dX9_pointsOn_44 : decode cX9_pointsOn 44 = .ok (.ifCond .eq 6, 3) := by decide +kernel
theorem dX9_pointsOn_47 : decode cX9_pointsOn 47 = .ok (.iinc 2 1, 3) := by decide +kernel
theorem dX9_pointsOn_50 : decode cX9_pointsOn 50 = .ok (.iinc 5 1, 3) := by decide +kernel
theorem dX9_pointsOn_53 : decode cX9_pointsOn 53 = .ok (.goto (-29), 3) := by decide +kernel
theorem dX9_pointsOn_56 : decode cX9_pointsOn 56 = .ok (.iinc 3 1, 3) := by decide +kernel
theorem dX9_pointsOn_59 : decode cX9_pointsOn 59 = .ok (.goto (-55), 3) := by decide +kernel
theorem dX9_pointsOn_62 : decode cX9_pointsOn 62 = .ok (.iload_n 2, 1) := by decide +kernel
theorem dX9_pointsOn_63 : decode cX9_pointsOn 63 = .ok (.ireturn, 1) := by decide +kernel
theorem dX9_isOnOne_0 : decode cX9_isOnOne 0 = .ok (.iconst 0, 1) := by decide +kernel
theorem dX9_isOnOne_1 : decode cX9_isOnOne 1 = .ok (.istore_n 3, 1) := by decide +kernel
theorem dX9_isOnOne_2 : decode cX9_isOnOne 2 = .ok (.iload_n 3, 1) := by decide +kernel
theorem dX9_isOnOne_3 : decode cX9_isOnOne 3 = .ok (.bipush 8, 2) := by decide +kernel
theorem dX9_isOnOne_5 : decode cX9_isOnOne 5 = .ok (.if_icmp .ge 36, 3) := by decide +kernel
theorem dX9_isOnOne_8 : decode cX9_isOnOne 8 = .ok (.iload_n 2, 1) := by decide +kernel
theorem dX9_isOnOne_9 : decode cX9_isOnOne 9 = .ok (.iload_n 3, 1) := by decide +kernel
theorem dX9_isOnOne_10 : decode cX9_isOnOne 10 = .ok (.invokestatic 65, 3) := by decide +kernel
theorem dX9_isOnOne_13 : decode cX9_isOnOne 13 = .ok (.ifCond .eq 22, 3) := by decide +kernel
theorem dX9_isOnOne_16 : decode cX9_isOnOne 16 = .ok (.aload_n 0, 1) := by decide +kernel
theorem dX9_isOnOne_17 : decode cX9_isOnOne 17 = .ok (.getfield 13, 3) := by decide +kernel
theorem dX9_isOnOne_20 : decode cX9_isOnOne 20 = .ok (.iload_n 3, 1) := by decide +kernel
theorem dX9_isOnOne_21 : decode cX9_isOnOne 21 = .ok (.aaload, 1) := by decide +kernel
theorem dX9_isOnOne_22 : decode cX9_isOnOne 22 = .ok (.iload_n 1, 1) := by decide +kernel
theorem dX9_isOnOne_23 : decode cX9_isOnOne 23 = .ok (.aload_n 0, 1) := by decide +kernel
theorem dX9_isOnOne_24 : decode cX9_isOnOne 24 = .ok (.getfield 22, 3) := by decide +kernel
theorem dX9_isOnOne_27 : decode cX9_isOnOne 27 = .ok (.invokevirtual 82, 3) := by decide +kernel
theorem dX9_isOnOne_30 : decode cX9_isOnOne 30 = .ok (.ifCond .eq 5, 3) := by decide +kernel
theorem dX9_isOnOne_33 : decode cX9_isOnOne 33 = .ok (.iconst 1, 1) := by decide +kernel
theorem dX9_isOnOne_34 : decode cX9_isOnOne 34 = .ok (.ireturn, 1) := by decide +kernel
theorem dX9_isOnOne_35 : decode cX9_isOnOne 35 = .ok (.iinc 3 1, 3) := by decide +kernel
theorem dX9_isOnOne_38 : decode cX9_isOnOne 38 = .ok (.goto (-36), 3) := by decide +kernel
theorem dX9_isOnOne_41 : decode cX9_isOnOne 41 = .ok (.iconst 0, 1) := by decide +kernel
theorem dX9_isOnOne_42 : decode cX9_isOnOne 42 = .ok (.ireturn, 1) := by decide +kernel
theorem dX9_pointFrom_0 : decode cX9_pointFrom 0 = .ok (.iconst 0, 1) := by decide +kernel
theorem dX9_pointFrom_1 : decode cX9_pointFrom 1 = .ok (.istore 4, 2) := by decide +kernel
theorem dX9_pointFrom_3 : decode cX9_pointFrom 3 = .ok (.iload_n 3, 1) := by decide +kernel
theorem dX9_pointFrom_4 : decode cX9_pointFrom 4 = .ok (.istore 5, 2) := by decide +kernel
theorem dX9_pointFrom_6 : decode cX9_pointFrom 6 = .ok (.iconst 0, 1) := by decide +kernel
theorem dX9_pointFrom_7 : decode cX9_pointFrom 7 = .ok (.istore 6, 2) := by decide +kernel
theorem dX9_pointFrom_9 : decode cX9_pointFrom 9 = .ok (.iload 6, 2) := by decide +kernel
theorem dX9_pointFrom_11 : decode cX9_pointFrom 11 = .ok (.iconst 4, 1) := by decide +kernel
theorem dX9_pointFrom_12 : decode cX9_pointFrom 12 = .ok (.if_icmp .ge 69, 3) := by decide +kernel
theorem dX9_pointFrom_15 : decode cX9_pointFrom 15 = .ok (.iload 6, 2) := by decide +kernel
theorem dX9_pointFrom_17 : decode cX9_pointFrom 17 = .ok (.iload_n 1, 1) := by decide +kernel
theorem dX9_pointFrom_18 : decode cX9_pointFrom 18 = .ok (.if_icmp .ne 7, 3) := by decide +kernel
theorem dX9_pointFrom_21 : decode cX9_pointFrom 21 = .ok (.iconst 1, 1) := by decide +kernel
theorem dX9_pointFrom_22 : decode cX9_pointFrom 22 = .ok (.goto 4, 3) := by decide +kernel
theorem dX9_pointFrom_25 : decode cX9_pointFrom 25 = .ok (.iconst 0, 1) := by decide +kernel
theorem dX9_pointFrom_26 : decode cX9_pointFrom 26 = .ok (.istore 7, 2) := by decide +kernel
theorem dX9_pointFrom_28 : decode cX9_pointFrom 28 = .ok (.iload 6, 2) := by decide +kernel
theorem dX9_pointFrom_30 : decode cX9_pointFrom 30 = .ok (.iload_n 1, 1) := by decide +kernel
theorem dX9_pointFrom_31 : decode cX9_pointFrom 31 = .ok (.if_icmp .le 34, 3) := by decide +kernel
theorem dX9_pointFrom_34 : decode cX9_pointFrom 34 = .ok (.iload 6, 2) := by decide +kernel
theorem dX9_pointFrom_36 : decode cX9_pointFrom 36 = .ok (.iload_n 2, 1) := by decide +kernel
theorem dX9_pointFrom_37 : decode cX9_pointFrom 37 = .ok (.if_icmp .eq 28, 3) := by decide +kernel
theorem dX9_pointFrom_40 : decode cX9_pointFrom 40 = .ok (.aload_n 0, 1) := by decide +kernel
theorem dX9_pointFrom_41 : decode cX9_pointFrom 41 = .ok (.getfield 22, 3) := by decide +kernel
theorem dX9_pointFrom_44 : decode cX9_pointFrom 44 = .ok (.ifCond .le 21, 3) := by decide +kernel
theorem dX9_pointFrom_47 : decode cX9_pointFrom 47 = .ok (.iload 5, 2) := by decide +kernel
theorem dX9_pointFrom_49 : decode cX9_pointFrom 49 = .ok (.aload_n 0, 1) := by decide +kernel
theorem dX9_pointFrom_50 : decode cX9_pointFrom 50 = .ok (.getfield 22, 3) := by decide +kernel
theorem dX9_pointFrom_53 : decode cX9_pointFrom 53 = .ok (.irem, 1) := by decide +kernel
theorem dX9_pointFrom_54 : decode cX9_pointFrom 54 = .ok (.istore 7, 2) := by decide +kernel
theorem dX9_pointFrom_56 : decode cX9_pointFrom 56 = .ok (.iload 5, 2) := by decide +kernel
theorem dX9_pointFrom_58 : decode cX9_pointFrom 58 = .ok (.aload_n 0, 1) := by decide +kernel
theorem dX9_pointFrom_59 : decode cX9_pointFrom 59 = .ok (.getfield 22, 3) := by decide +kernel
theorem dX9_pointFrom_62 : decode cX9_pointFrom 62 = .ok (.idiv, 1) := by decide +kernel
theorem dX9_pointFrom_63 : decode cX9_pointFrom 63 = .ok (.istore 5, 2) := by decide +kernel
theorem dX9_pointFrom_65 : decode cX9_pointFrom 65 = .ok (.iload 4, 2) := by decide +kernel
theorem dX9_pointFrom_67 : decode cX9_pointFrom 67 = .ok (.bipush 10, 2) := by decide +kernel
theorem dX9_pointFrom_69 : decode cX9_pointFrom 69 = .ok (.imul, 1) := by decide +kernel
theorem dX9_pointFrom_70 : decode cX9_pointFrom 70 = .ok (.iload 7, 2) := by decide +kernel
theorem dX9_pointFrom_72 : decode cX9_pointFrom 72 = .ok (.iadd, 1) := by decide +kernel
theorem dX9_pointFrom_73 : decode cX9_pointFrom 73 = .ok (.istore 4, 2) := by decide +kernel
theorem dX9_pointFrom_75 : decode cX9_pointFrom 75 = .ok (.iinc 6 1, 3) := by decide +kernel
theorem dX9_pointFrom_78 : decode cX9_pointFrom 78 = .ok (.goto (-69), 3) := by decide +kernel
theorem dX9_pointFrom_81 : decode cX9_pointFrom 81 = .ok (.iload 4, 2) := by decide +kernel
theorem dX9_pointFrom_83 : decode cX9_pointFrom 83 = .ok (.ireturn, 1) := by decide +kernel
theorem dX10_init_0 : decode cX10_init 0 = .ok (.aload_n 0, 1) := by decide +kernel
theorem dX10_init_1 : decode cX10_init 1 = .ok (.invokespecial 1, 3) := by decide +kernel
theorem dX10_init_4 : decode cX10_init 4 = .ok (.aload_n 0, 1) := by decide +kernel
theorem dX10_init_5 : decode cX10_init 5 = .ok (.bipush 12, 2) := by decide +kernel
theorem dX10_init_7 : decode cX10_init 7 = .ok (.anewarray 9, 3) := by decide +kernel
theorem dX10_init_10 : decode cX10_init 10 = .ok (.putfield 11, 3) := by decide +kernel
theorem dX10_init_13 : decode cX10_init 13 = .ok (.aload_n 0, 1) := by decide +kernel
theorem dX10_init_14 : decode cX10_init 14 = .ok (.new 15, 3) := by decide +kernel
theorem dX10_init_17 : decode cX10_init 17 = .ok (.dup, 1) := by decide +kernel
theorem dX10_init_18 : decode cX10_init 18 = .ok (.invokespecial 17, 3) := by decide +kernel
theorem dX10_init_21 : decode cX10_init 21 = .ok (.putfield 18, 3) := by decide +kernel
theorem dX10_init_24 : decode cX10_init 24 = .ok (.aload_n 0, 1) := by decide +kernel
theorem dX10_init_25 : decode cX10_init 25 = .ok (.new 22, 3) := by decide +kernel
theorem dX10_init_28 : decode cX10_init 28 = .ok (.dup, 1) := by decide +kernel
theorem dX10_init_29 : decode cX10_init 29 = .ok (.invokespecial 24, 3) := by decide +kernel
theorem dX10_init_32 : decode cX10_init 32 = .ok (.putfield 25, 3) := by decide +kernel
theorem dX10_init_35 : decode cX10_init 35 = .ok (.aload_n 0, 1) := by decide +kernel
theorem dX10_init_36 : decode cX10_init 36 = .ok (.new 29, 3) := by decide +kernel
theorem dX10_init_39 : decode cX10_init 39 = .ok (.dup, 1) := by decide +kernel
theorem dX10_init_40 : decode cX10_init 40 = .ok (.invokespecial 31, 3) := by decide +kernel
theorem dX10_init_43 : decode cX10_init 43 = .ok (.putfield 32, 3) := by decide +kernel
theorem dX10_init_46 : decode cX10_init 46 = .ok (.iconst 0, 1) := by decide +kernel
theorem dX10_init_47 : decode cX10_init 47 = .ok (.istore_n 1, 1) := by decide +kernel
theorem dX10_init_48 : decode cX10_init 48 = .ok (.iload_n 1, 1) := by decide +kernel
theorem dX10_init_49 : decode cX10_init 49 = .ok (.bipush 12, 2) := by decide +kernel
theorem dX10_init_51 : decode cX10_init 51 = .ok (.if_icmp .ge 22, 3) := by decide +kernel
theorem dX10_init_54 : decode cX10_init 54 = .ok (.aload_n 0, 1) := by decide +kernel
theorem dX10_init_55 : decode cX10_init 55 = .ok (.getfield 11, 3) := by decide +kernel
theorem dX10_init_58 : decode cX10_init 58 = .ok (.iload_n 1, 1) := by decide +kernel
theorem dX10_init_59 : decode cX10_init 59 = .ok (.new 9, 3) := by decide +kernel
theorem dX10_init_62 : decode cX10_init 62 = .ok (.dup, 1) := by decide +kernel
theorem dX10_init_63 : decode cX10_init 63 = .ok (.invokespecial 36, 3) := by decide +kernel
theorem dX10_init_66 : decode cX10_init 66 = .ok (.aastore, 1) := by decide +kernel
theorem dX10_init_67 : decode cX10_init 67 = .ok (.iinc 1 1, 3) := by decide +kernel
theorem dX10_init_70 : decode cX10_init 70 = .ok (.goto (-22), 3) := by decide +kernel
theorem dX10_init_73 : decode cX10_init 73 = .ok (.return_, 1) := by decide +kernel
theorem dX10_length_0 : decode cX10_length 0 = .ok (.iload_n 1, 1) := by decide +kernel
theorem dX10_length_1 : decode cX10_length 1 = .ok (.invokestatic 37, 3) := by decide +kernel
theorem dX10_length_4 : decode cX10_length 4 = .ok (.istore_n 2, 1) := by decide +kernel
theorem dX10_length_5 : decode cX10_length 5 = .ok (.iload_n 2, 1) := by decide +kernel
theorem dX10_length_6 : decode cX10_length 6 = .ok (.ifCond .ne 8, 3) := by decide +kernel
theorem dX10_length_9 : decode cX10_length 9 = .ok (.bipush (-2), 2) := by decide +kernel
theorem dX10_length_11 : decode cX10_length 11 = .ok (.goto 8, 3) := by decide +kernel
theorem dX10_length_14 : decode cX10_length 14 = .ok (.iload_n 1, 1) := by decide +kernel
theorem dX10_length_15 : decode cX10_length 15 = .ok (.iload_n 2, 1) := by decide +kernel
theorem dX10_length_16 : decode cX10_length 16 = .ok (.invokestatic 43, 3) := by decide +kernel
theorem dX10_length_19 : decode cX10_length 19 = .ok (.ireturn, 1) := by decide +kernel
theorem dX10_exchange_0 : decode cX10_exchange 0 = .ok (.iload_n 1, 1) := by decide +kernel
theorem dX10_exchange_1 : decode cX10_exchange 1 = .ok (.invokestatic 37, 3) := by decide +kernel
theorem dX10_exchange_4 : decode cX10_exchange 4 = .ok (.istore_n 3, 1) := by decide +kernel
theorem dX10_exchange_5 : decode cX10_exchange 5 = .ok (.iload_n 2, 1) := by decide +kernel
theorem dX10_exchange_6 : decode cX10_exchange 6 = .ok (.iconst 1, 1) := by decide +kernel
theorem dX10_exchange_7 : decode cX10_exchange 7 = .ok (.if_icmp .lt 8, 3) := by decide +kernel
theorem dX10_exchange_10 : decode cX10_exchange 10 = .ok (.iload_n 2, 1) := by decide +kernel
theorem dX10_exchange_11 : decode cX10_exchange 11 = .ok (.iload_n 3, 1) := by decide +kernel
theorem dX10_exchange_12 : decode cX10_exchange 12 = .ok (.if_icmp .lt 6, 3) := by decide +kernel
theorem dX10_exchange_15 : decode cX10_exchange 15 = .ok (.bipush (-2), 2) := by decide +kernel
theorem dX10_exchange_17 : decode cX10_exchange 17 = .ok (.ireturn, 1) := by decide +kernel
theorem dX10_exchange_18 : decode cX10_exchange 18 = .ok (.iload_n 1, 1) := by decide +kernel
theorem dX10_exchange_19 : decode cX10_exchange 19 = .ok (.iload_n 3, 1) := by decide +kernel
theorem dX10_exchange_20 : decode cX10_exchange 20 = .ok (.iload_n 2, 1) := by decide +kernel
theorem dX10_exchange_21 : decode cX10_exchange 21 = .ok (.iload_n 2, 1) := by decide +kernel
theorem dX10_exchange_22 : decode cX10_exchange 22 = .ok (.iconst 1, 1) := by decide +kernel
theorem dX10_exchange_23 : decode cX10_exchange 23 = .ok (.iadd, 1) := by decide +kernel
theorem dX10_exchange_24 : decode cX10_exchange 24 = .ok (.invokestatic 47, 3) := by decide +kernel
theorem dX10_exchange_27 : decode cX10_exchange 27 = .ok (.ireturn, 1) := by decide +kernel
theorem dX10_inverse_0 : decode cX10_inverse 0 = .ok (.iload_n 1, 1) := by decide +kernel
theorem dX10_inverse_1 : decode cX10_inverse 1 = .ok (.invokestatic 37, 3) := by decide +kernel
theorem dX10_inverse_4 : decode cX10_inverse 4 = .ok (.istore_n 2, 1) := by decide +kernel
theorem dX10_inverse_5 : decode cX10_inverse 5 = .ok (.iload_n 2, 1) := by decide +kernel
theorem dX10_inverse_6 : decode cX10_inverse 6 = .ok (.ifCond .ne 8, 3) := by decide +kernel
theorem dX10_inverse_9 : decode cX10_inverse 9 = .ok (.bipush (-2), 2) := by decide +kernel
theorem dX10_inverse_11 : decode cX10_inverse 11 = .ok (.goto 8, 3) := by decide +kernel
theorem dX10_inverse_14 : decode cX10_inverse 14 = .ok (.iload_n 1, 1) := by decide +kernel
theorem dX10_inverse_15 : decode cX10_inverse 15 = .ok (.iload_n 2, 1) := by decide +kernel
theorem dX10_inverse_16 : decode cX10_inverse 16 = .ok (.invokestatic 51, 3) := by decide +kernel
theorem dX10_inverse_19 : decode cX10_inverse 19 = .ok (.ireturn, 1) := by decide +kernel
theorem dX10_orders_0 : decode cX10_orders 0 = .ok (.iload_n 1, 1) := by decide +kernel
theorem dX10_orders_1 : decode cX10_orders 1 = .ok (.iconst 1, 1) := by decide +kernel
theorem dX10_orders_2 : decode cX10_orders 2 = .ok (.if_icmp .lt 12, 3) := by decide +kernel
theorem dX10_orders_5 : decode cX10_orders 5 = .ok (.iload_n 1, 1) := by decide +kernel
theorem dX10_orders_6 : decode cX10_orders 6 = .ok (.iconst 5, 1) := by decide +kernel
theorem dX10_orders_7 : decode cX10_orders 7 = .ok (.if_icmp .gt 7, 3) := by decide +kernel
theorem dX10_orders_10 : decode cX10_orders 10 = .ok (.iload_n 2, 1) := by decide +kernel
theorem dX10_orders_11 : decode cX10_orders 11 = .ok (.ifCond .ge 6, 3) := by decide +kernel
theorem dX10_orders_14 : decode cX10_orders 14 = .ok (.bipush (-2), 2) := by decide +kernel
theorem dX10_orders_16 : decode cX10_orders 16 = .ok (.ireturn, 1) := by decide +kernel
theorem dX10_orders_17 : decode cX10_orders 17 = .ok (.iload_n 1, 1) := by decide +kernel
theorem dX10_orders_18 : decode cX10_orders 18 = .ok (.iload_n 2, 1) := by decide +kernel
theorem dX10_orders_19 : decode cX10_orders 19 = .ok (.invokestatic 54, 3) := by decide +kernel
theorem dX10_orders_22 : decode cX10_orders 22 = .ok (.ireturn, 1) := by decide +kernel
theorem dX10_step_0 : decode cX10_step 0 = .ok (.iload_n 1, 1) := by decide +kernel
theorem dX10_step_1 : decode cX10_step 1 = .ok (.invokestatic 37, 3) := by decide +kernel
theorem dX10_step_4 : decode cX10_step 4 = .ok (.istore 4, 2) := by decide +kernel
theorem dX10_step_6 : decode cX10_step 6 = .ok (.iload 4, 2) := by decide +kernel
theorem dX10_step_8 : decode cX10_step 8 = .ok (.ifCond .eq 20, 3) := by decide +kernel
theorem dX10_step_11 : decode cX10_step 11 = .ok (.iload 4, 2) := by decide +kernel
theorem dX10_step_13 : decode cX10_step 13 = .ok (.iconst 5, 1) := by decide +kernel
theorem dX10_step_14 : decode cX10_step 14 = .ok (.if_icmp .eq 14, 3) := by decide +kernel
theorem dX10_step_17 : decode cX10_step 17 = .ok (.iload_n 2, 1) := by decide +kernel
theorem dX10_step_18 : decode cX10_step 18 = .ok (.iconst 1, 1) := by decide +kernel
theorem dX10_step_19 : decode cX10_step 19 = .ok (.if_icmp .lt 9, 3) := by decide +kernel
theorem dX10_step_22 : decode cX10_step 22 = .ok (.iload_n 2, 1) := by decide +kernel
theorem dX10_step_23 : decode cX10_step 23 = .ok (.iload 4, 2) := by decide +kernel
theorem dX10_step_25 : decode cX10_step 25 = .ok (.if_icmp .le 6, 3) := by decide +kernel
theorem dX10_step_28 : decode cX10_step 28 = .ok (.bipush (-2), 2) := by decide +kernel
theorem dX10_step_30 : decode cX10_step 30 = .ok (.ireturn, 1) := by decide +kernel
theorem dX10_step_31 : decode cX10_step 31 = .ok (.iload_n 1, 1) := by decide +kernel
theorem dX10_step_32 : decode cX10_step 32 = .ok (.bipush 10, 2) := by decide +kernel
theorem dX10_step_34 : decode cX10_step 34 = .ok (.imul, 1) := by decide +kernel
theorem dX10_step_35 : decode cX10_step 35 = .ok (.iload 4, 2) := by decide +kernel
theorem dX10_step_37 : decode cX10_step 37 = .ok (.iadd, 1) := by decide +kernel
theorem dX10_step_38 : decode cX10_step 38 = .ok (.iconst 1, 1) := by decide +kernel
theorem dX10_step_39 : decode cX10_step 39 = .ok (.iadd, 1) := by decide +kernel
theorem dX10_step_40 : decode cX10_step 40 = .ok (.iload 4, 2) := by decide +kernel
theorem dX10_step_42 : decode cX10_step 42 = .ok (.iconst 1, 1) := by decide +kernel
theorem dX10_step_43 : decode cX10_step 43 = .ok (.iadd, 1) := by decide +kernel
theorem dX10_step_44 : decode cX10_step 44 = .ok (.iload_n 2, 1) := by decide +kernel
theorem dX10_step_45 : decode cX10_step 45 = .ok (.iload_n 3, 1) := by decide +kernel
theorem dX10_step_46 : decode cX10_step 46 = .ok (.invokestatic 57, 3) := by decide +kernel
theorem dX10_step_49 : decode cX10_step 49 = .ok (.ireturn, 1) := by decide +kernel
theorem dX10_blank_0 : decode cX10_blank 0 = .ok (.iload_n 1, 1) := by decide +kernel
theorem dX10_blank_1 : decode cX10_blank 1 = .ok (.invokestatic 60, 3) := by decide +kernel
theorem dX10_blank_4 : decode cX10_blank 4 = .ok (.ifCond .ne 6, 3) := by decide +kernel
theorem dX10_blank_7 : decode cX10_blank 7 = .ok (.bipush (-2), 2) := by decide +kernel
theorem dX10_blank_9 : decode cX10_blank 9 = .ok (.ireturn, 1) := by decide +kernel
theorem dX10_blank_10 : decode cX10_blank 10 = .ok (.aload_n 0, 1) := by decide +kernel
theorem dX10_blank_11 : decode cX10_blank 11 = .ok (.getfield 11, 3) := by decide +kernel
theorem dX10_blank_14 : decode cX10_blank 14 = .ok (.iload_n 1, 1) := by decide +kernel
theorem dX10_blank_15 : decode cX10_blank 15 = .ok (.aaload, 1) := by decide +kernel
theorem dX10_blank_16 : decode cX10_blank 16 = .ok (.invokevirtual 64, 3) := by decide +kernel
theorem dX10_blank_19 : decode cX10_blank 19 = .ok (.iconst 1, 1) := by decide +kernel
theorem dX10_blank_20 : decode cX10_blank 20 = .ok (.ireturn, 1) := by decide +kernel
theorem dX10_lose_0 : decode cX10_lose 0 = .ok (.iload_n 1, 1) := by decide +kernel
theorem dX10_lose_1 : decode cX10_lose 1 = .ok (.invokestatic 60, 3) := by decide +kernel
theorem dX10_lose_4 : decode cX10_lose 4 = .ok (.ifCond .ne 6, 3) := by decide +kernel
theorem dX10_lose_7 : decode cX10_lose 7 = .ok (.bipush (-2), 2) := by decide +kernel
theorem dX10_lose_9 : decode cX10_lose 9 = .ok (.ireturn, 1) := by decide +kernel
theorem dX10_lose_10 : decode cX10_lose 10 = .ok (.aload_n 0, 1) := by decide +kernel
theorem dX10_lose_11 : decode cX10_lose 11 = .ok (.iload_n 1, 1) := by decide +kernel
theorem dX10_lose_12 : decode cX10_lose 12 = .ok (.invokevirtual 67, 3) := by decide +kernel
theorem dX10_lose_15 : decode cX10_lose 15 = .ok (.ifCond .eq 6, 3) := by decide +kernel
theorem dX10_lose_18 : decode cX10_lose 18 = .ok (.bipush (-3), 2) := by decide +kernel
theorem dX10_lose_20 : decode cX10_lose 20 = .ok (.ireturn, 1) := by decide +kernel
theorem dX10_lose_21 : decode cX10_lose 21 = .ok (.aload_n 0, 1) := by decide +kernel
theorem dX10_lose_22 : decode cX10_lose 22 = .ok (.getfield 11, 3) := by decide +kernel
theorem dX10_lose_25 : decode cX10_lose 25 = .ok (.iload_n 1, 1) := by decide +kernel
theorem dX10_lose_26 : decode cX10_lose 26 = .ok (.aaload, 1) := by decide +kernel
theorem dX10_lose_27 : decode cX10_lose 27 = .ok (.invokevirtual 70, 3) := by decide +kernel
theorem dX10_lose_30 : decode cX10_lose 30 = .ok (.istore_n 2, 1) := by decide +kernel
theorem dX10_lose_31 : decode cX10_lose 31 = .ok (.aload_n 0, 1) := by decide +kernel
theorem dX10_lose_32 : decode cX10_lose 32 = .ok (.getfield 11, 3) := by decide +kernel
theorem dX10_lose_35 : decode cX10_lose 35 = .ok (.iload_n 1, 1) := by decide +kernel
theorem dX10_lose_36 : decode cX10_lose 36 = .ok (.aaload, 1) := by decide +kernel
theorem dX10_lose_37 : decode cX10_lose 37 = .ok (.invokevirtual 74, 3) := by decide +kernel
theorem dX10_lose_40 : decode cX10_lose 40 = .ok (.iload_n 2, 1) := by decide +kernel
theorem dX10_lose_41 : decode cX10_lose 41 = .ok (.ireturn, 1) := by decide +kernel
theorem dX10_add_0 : decode cX10_add 0 = .ok (.iload_n 1, 1) := by decide +kernel
theorem dX10_add_1 : decode cX10_add 1 = .ok (.invokestatic 60, 3) := by decide +kernel
theorem dX10_add_4 : decode cX10_add 4 = .ok (.ifCond .eq 18, 3) := by decide +kernel
theorem dX10_add_7 : decode cX10_add 7 = .ok (.lload_n 2, 1) := by decide +kernel
theorem dX10_add_8 : decode cX10_add 8 = .ok (.invokestatic 77, 3) := by decide +kernel
theorem dX10_add_11 : decode cX10_add 11 = .ok (.ifCond .ne 11, 3) := by decide +kernel
theorem dX10_add_14 : decode cX10_add 14 = .ok (.iload 4, 2) := by decide +kernel
theorem dX10_add_16 : decode cX10_add 16 = .ok (.invokestatic 81, 3) := by decide +kernel
theorem dX10_add_19 : decode cX10_add 19 = .ok (.ifCond .ne 6, 3) := by decide +kernel
theorem dX10_add_22 : decode cX10_add 22 = .ok (.bipush (-2), 2) := by decide +kernel
theorem dX10_add_24 : decode cX10_add 24 = .ok (.ireturn, 1) := by decide +kernel
theorem dX10_add_25 : decode cX10_add 25 = .ok (.aload_n 0, 1) := by decide +kernel
theorem dX10_add_26 : decode cX10_add 26 = .ok (.iload_n 1, 1) := by decide +kernel
theorem dX10_add_27 : decode cX10_add 27 = .ok (.invokevirtual 67, 3) := by decide +kernel
theorem dX10_add_30 : decode cX10_add 30 = .ok (.ifCond .eq 6, 3) := by decide +kernel
theorem dX10_add_33 : decode cX10_add 33 = .ok (.bipush (-3), 2) := by decide +kernel
theorem dX10_add_35 : decode cX10_add 35 = .ok (.ireturn, 1) := by decide +kernel
theorem dX10_add_36 : decode cX10_add 36 = .ok (.aload_n 0, 1) := by decide +kernel
theorem dX10_add_37 : decode cX10_add 37 = .ok (.getfield 18, 3) := by decide +kernel
theorem dX10_add_40 : decode cX10_add 40 = .ok (.aload_n 0, 1) := by decide +kernel
theorem dX10_add_41 : decode cX10_add 41 = .ok (.getfield 11, 3) := by decide +kernel
theorem dX10_add_44 : decode cX10_add 44 = .ok (.iload_n 1, 1) := by decide +kernel
theorem dX10_add_45 : decode cX10_add 45 = .ok (.aaload, 1) := by decide +kernel
theorem dX10_add_46 : decode cX10_add 46 = .ok (.lload_n 2, 1) := by decide +kernel
theorem dX10_add_47 : decode cX10_add 47 = .ok (.iload 4, 2) := by decide +kernel
theorem dX10_add_49 : decode cX10_add 49 = .ok (.invokevirtual 84, 3) := by decide +kernel
theorem dX10_add_52 : decode cX10_add 52 = .ok (.ireturn, 1) := by decide +kernel
theorem dX10_terms_0 : decode cX10_terms 0 = .ok (.iload_n 1, 1) := by decide +kernel
theorem dX10_terms_1 : decode cX10_terms 1 = .ok (.invokestatic 60, 3) := by decide +kernel
theorem dX10_terms_4 : decode cX10_terms 4 = .ok (.ifCond .ne 6, 3) := by decide +kernel
theorem dX10_terms_7 : decode cX10_terms 7 = .ok (.bipush (-2), 2) := by decide +kernel
theorem dX10_terms_9 : decode cX10_terms 9 = .ok (.ireturn, 1) := by decide +kernel
theorem dX10_terms_10 : decode cX10_terms 10 = .ok (.aload_n 0, 1) := by decide +kernel
theorem dX10_terms_11 : decode cX10_terms 11 = .ok (.iload_n 1, 1) := by decide +kernel
theorem dX10_terms_12 : decode cX10_terms 12 = .ok (.invokevirtual 67, 3) := by decide +kernel
theorem dX10_terms_15 : decode cX10_terms 15 = .ok (.ifCond .eq 8, 3) := by decide +kernel
theorem dX10_terms_18 : decode cX10_terms 18 = .ok (.bipush (-3), 2) := by decide +kernel
theorem dX10_terms_20 : decode cX10_terms 20 = .ok (.goto 12, 3) := by decide +kernel
theorem dX10_terms_23 : decode cX10_terms 23 = .ok (.aload_n 0, 1) := by decide +kernel
theorem dX10_terms_24 : decode cX10_terms 24 = .ok (.getfield 11, 3) := by decide +kernel
theorem dX10_terms_27 : decode cX10_terms 27 = .ok (.iload_n 1, 1) := by decide +kernel
theorem dX10_terms_28 : decode cX10_terms 28 = .ok (.aaload, 1) := by decide +kernel
theorem dX10_terms_29 : decode cX10_terms 29 = .ok (.invokevirtual 70, 3) := by decide +kernel
theorem dX10_terms_32 : decode cX10_terms 32 = .ok (.ireturn, 1) := by decide +kernel
theorem dX10_exponents_0 : decode cX10_exponents 0 = .ok (.iload_n 1, 1) := by decide +kernel
theorem dX10_exponents_1 : decode cX10_exponents 1 = .ok (.invokestatic 60, 3) := by decide +kernel
theorem dX10_exponents_4 : decode cX10_exponents 4 = .ok (.ifCond .ne 6, 3) := by decide +kernel
theorem dX10_exponents_7 : decode cX10_exponents 7 = .ok (.bipush (-2), 2) := by decide +kernel
theorem dX10_exponents_9 : decode cX10_exponents 9 = .ok (.ireturn, 1) := by decide +kernel
theorem dX10_exponents_10 : decode cX10_exponents 10 = .ok (.aload_n 0, 1) := by decide +kernel
theorem dX10_exponents_11 : decode cX10_exponents 11 = .ok (.iload_n 1, 1) := by decide +kernel
theorem dX10_exponents_12 : decode cX10_exponents 12 = .ok (.invokevirtual 67, 3) := by decide +kernel
theorem dX10_exponents_15 : decode cX10_exponents 15 = .ok (.ifCond .eq 6, 3) := by decide +kernel
theorem dX10_exponents_18 : decode cX10_exponents 18 = .ok (.bipush (-3), 2) := by decide +kernel
theorem dX10_exponents_20 : decode cX10_exponents 20 = .ok (.ireturn, 1) := by decide +kernel
theorem dX10_exponents_21 : decode cX10_exponents 21 = .ok (.iload_n 2, 1) := by decide +kernel
theorem dX10_exponents_22 : decode cX10_exponents 22 = .ok (.ifCond .lt 16, 3) := by decide +kernel
theorem dX10_exponents_25 : decode cX10_exponents 25 = .ok (.iload_n 2, 1) := by decide +kernel
theorem dX10_exponents_26 : decode cX10_exponents 26 = .ok (.aload_n 0, 1) := by decide +kernel
theorem dX10_exponents_27 : decode cX10_exponents 27 = .ok (.getfield 11, 3) := by decide +kernel
theorem dX10_exponents_30 : decode cX10_exponents 30 = .ok (.iload_n 1, 1) := by decide +kernel
theorem dX10_exponents_31 : decode cX10_exponents 31 = .ok (.aaload, 1) := by decide +kernel
theorem dX10_exponents_32 : decode cX10_exponents 32 = .ok (.invokevirtual 70, 3) := by decide +kernel
theorem dX10_exponents_35 : decode cX10_exponents 35 = .ok (.if_icmp .lt 6, 3) := by decide +kernel
theorem dX10_exponents_38 : decode cX10_exponents 38 = .ok (.bipush (-2), 2) := by decide +kernel
theorem dX10_exponents_40 : decode cX10_exponents 40 = .ok (.ireturn, 1) := by decide +kernel
theorem dX10_exponents_41 : decode cX10_exponents 41 = .ok (.aload_n 0, 1) := by decide +kernel
theorem dX10_exponents_42 : decode cX10_exponents 42 = .ok (.getfield 11, 3) := by decide +kernel
theorem dX10_exponents_45 : decode cX10_exponents 45 = .ok (.iload_n 1, 1) := by decide +kernel
theorem dX10_exponents_46 : decode cX10_exponents 46 = .ok (.aaload, 1) := by decide +kernel
theorem dX10_exponents_47 : decode cX10_exponents 47 = .ok (.iload_n 2, 1) := by decide +kernel
theorem dX10_exponents_48 : decode cX10_exponents 48 = .ok (.invokevirtual 88, 3) := by decide +kernel
theorem dX10_exponents_51 : decode cX10_exponents 51 = .ok (.ireturn, 1) := by decide +kernel
theorem dX10_number_0 : decode cX10_number 0 = .ok (.iload_n 1, 1) := by decide +kernel
theorem dX10_number_1 : decode cX10_number 1 = .ok (.invokestatic 60, 3) := by decide +kernel
theorem dX10_number_4 : decode cX10_number 4 = .ok (.ifCond .eq 10, 3) := by decide +kernel
theorem dX10_number_7 : decode cX10_number 7 = .ok (.iload_n 2, 1) := by decide +kernel
theorem dX10_number_8 : decode cX10_number 8 = .ok (.invokestatic 81, 3) := by decide +kernel
theorem dX10_number_11 : decode cX10_number 11 = .ok (.ifCond .ne 9, 3) := by decide +kernel
theorem dX10_number_14 : decode cX10_number 14 = .ok (.bipush (-2), 2) := by decide +kernel
theorem dX10_number_16 : decode cX10_number 16 = .ok (.invokestatic 91, 3) := by decide +kernel
theorem dX10_number_19 : decode cX10_number 19 = .ok (.lreturn, 1) := by decide +kernel
theorem dX10_number_20 : decode cX10_number 20 = .ok (.aload_n 0, 1) := by decide +kernel
theorem dX10_number_21 : decode cX10_number 21 = .ok (.iload_n 1, 1) := by decide +kernel
theorem dX10_number_22 : decode cX10_number 22 = .ok (.invokevirtual 67, 3) := by decide +kernel
theorem dX10_number_25 : decode cX10_number 25 = .ok (.ifCond .eq 11, 3) := by decide +kernel
theorem dX10_number_28 : decode cX10_number 28 = .ok (.bipush (-3), 2) := by decide +kernel
theorem dX10_number_30 : decode cX10_number 30 = .ok (.invokestatic 91, 3) := by decide +kernel
theorem dX10_number_33 : decode cX10_number 33 = .ok (.goto 14, 3) := by decide +kernel
theorem dX10_number_36 : decode cX10_number 36 = .ok (.aload_n 0, 1) := by decide +kernel
theorem dX10_number_37 : decode cX10_number 37 = .ok (.getfield 11, 3) := by decide +kernel
theorem dX10_number_40 : decode cX10_number 40 = .ok (.iload_n 1, 1) := by decide +kernel
theorem dX10_number_41 : decode cX10_number 41 = .ok (.aaload, 1) := by decide +kernel
theorem dX10_number_42 : decode cX10_number 42 = .ok (.iload_n 2, 1) := by decide +kernel
theorem dX10_number_43 : decode cX10_number 43 = .ok (.invokevirtual 95, 3) := by decide +kernel
theorem dX10_number_46 : decode cX10_number 46 = .ok (.i2l, 1) := by decide +kernel
theorem dX10_number_47 : decode cX10_number 47 = .ok (.lreturn, 1) := by decide +kernel
theorem dX10_sum_0 : decode cX10_sum 0 = .ok (.iload_n 1, 1) := by decide +kernel
theorem dX10_sum_1 : decode cX10_sum 1 = .ok (.invokestatic 60, 3) := by decide +kernel
theorem dX10_sum_4 : decode cX10_sum 4 = .ok (.ifCond .eq 31, 3) := by decide +kernel
theorem dX10_sum_7 : decode cX10_sum 7 = .ok (.iload_n 2, 1) := by decide +kernel
theorem dX10_sum_8 : decode cX10_sum 8 = .ok (.invokestatic 60, 3) := by decide +kernel
theorem dX10_sum_11 : decode cX10_sum 11 = .ok (.ifCond .eq 24, 3) := by decide +kernel
theorem dX10_sum_14 : decode cX10_sum 14 = .ok (.iload_n 3, 1) := by decide +kernel
theorem dX10_sum_15 : decode cX10_sum 15 = .ok (.invokestatic 60, 3) := by decide +kernel
theorem dX10_sum_18 : decode cX10_sum 18 = .ok (.ifCond .eq 17, 3) := by decide +kernel
theorem dX10_sum_21 : decode cX10_sum 21 = .ok (.iload 4, 2) := by decide +kernel
theorem dX10_sum_23 : decode cX10_sum 23 = .ok (.ldc 98, 2) := by decide +kernel
theorem dX10_sum_25 : decode cX10_sum 25 = .ok (.if_icmp .lt 10, 3) := by decide +kernel
theorem dX10_sum_28 : decode cX10_sum 28 = .ok (.iload 4, 2) := by decide +kernel
theorem dX10_sum_30 : decode cX10_sum 30 = .ok (.ldc 99, 2) := by decide +kernel
theorem dX10_sum_32 : decode cX10_sum 32 = .ok (.if_icmp .le 6, 3) := by decide +kernel
theorem dX10_sum_35 : decode cX10_sum 35 = .ok (.bipush (-2), 2) := by decide +kernel
theorem dX10_sum_37 : decode cX10_sum 37 = .ok (.ireturn, 1) := by decide +kernel
theorem dX10_sum_38 : decode cX10_sum 38 = .ok (.aload_n 0, 1) := by decide +kernel
theorem dX10_sum_39 : decode cX10_sum 39 = .ok (.iload_n 2, 1) := by decide +kernel
theorem dX10_sum_40 : decode cX10_sum 40 = .ok (.invokevirtual 67, 3) := by decide +kernel
theorem dX10_sum_43 : decode cX10_sum 43 = .ok (.ifCond .ne 11, 3) := by decide +kernel
theorem dX10_sum_46 : decode cX10_sum 46 = .ok (.aload_n 0, 1) := by decide +kernel
theorem dX10_sum_47 : decode cX10_sum 47 = .ok (.iload_n 3, 1) := by decide +kernel
theorem dX10_sum_48 : decode cX10_sum 48 = .ok (.invokevirtual 67, 3) := by decide +kernel
theorem dX10_sum_51 : decode cX10_sum 51 = .ok (.ifCond .eq 6, 3) := by decide +kernel
theorem dX10_sum_54 : decode cX10_sum 54 = .ok (.bipush (-3), 2) := by decide +kernel
theorem dX10_sum_56 : decode cX10_sum 56 = .ok (.ireturn, 1) := by decide +kernel
theorem dX10_sum_57 : decode cX10_sum 57 = .ok (.aload_n 0, 1) := by decide +kernel
theorem dX10_sum_58 : decode cX10_sum 58 = .ok (.getfield 18, 3) := by decide +kernel
theorem dX10_sum_61 : decode cX10_sum 61 = .ok (.aload_n 0, 1) := by decide +kernel
theorem dX10_sum_62 : decode cX10_sum 62 = .ok (.getfield 11, 3) := by decide +kernel
theorem dX10_sum_65 : decode cX10_sum 65 = .ok (.iload_n 1, 1) := by decide +kernel
theorem dX10_sum_66 : decode cX10_sum 66 = .ok (.aaload, 1) := by decide +kernel
theorem dX10_sum_67 : decode cX10_sum 67 = .ok (.aload_n 0, 1) := by decide +kernel
theorem dX10_sum_68 : decode cX10_sum 68 = .ok (.getfield 11, 3) := by decide +kernel
theorem dX10_sum_71 : decode cX10_sum 71 = .ok (.iload_n 2, 1) := by decide +kernel
theorem dX10_sum_72 : decode cX10_sum 72 = .ok (.aaload, 1) := by decide +kernel
theorem dX10_sum_73 : decode cX10_sum 73 = .ok (.aload_n 0, 1) := by decide +kernel
theorem dX10_sum_74 : decode cX10_sum 74 = .ok (.getfield 11, 3) := by decide +kernel
theorem dX10_sum_77 : decode cX10_sum 77 = .ok (.iload_n 3, 1) := by decide +kernel
theorem dX10_sum_78 : decode cX10_sum 78 = .ok (.aaload, 1) := by decide +kernel
theorem dX10_sum_79 : decode cX10_sum 79 = .ok (.iload 4, 2) := by decide +kernel
theorem dX10_sum_81 : decode cX10_sum 81 = .ok (.invokevirtual 100, 3) := by decide +kernel
theorem dX10_sum_84 : decode cX10_sum 84 = .ok (.ireturn, 1) := by decide +kernel
theorem dX10_product_0 : decode cX10_product 0 = .ok (.iload_n 1, 1) := by decide +kernel
theorem dX10_product_1 : decode cX10_product 1 = .ok (.invokestatic 60, 3) := by decide +kernel
theorem dX10_product_4 : decode cX10_product 4 = .ok (.ifCond .eq 17, 3) := by decide +kernel
theorem dX10_product_7 : decode cX10_product 7 = .ok (.iload_n 2, 1) := by decide +kernel
theorem dX10_product_8 : decode cX10_product 8 = .ok (.invokestatic 60, 3) := by decide +kernel
theorem dX10_product_11 : decode cX10_product 11 = .ok (.ifCond .eq 10, 3) := by decide +kernel
theorem dX10_product_14 : decode cX10_product 14 = .ok (.iload_n 3, 1) := by decide +kernel
theorem dX10_product_15 : decode cX10_product 15 = .ok (.invokestatic 60, 3) := by decide +kernel
theorem dX10_product_18 : decode cX10_product 18 = .ok (.ifCond .ne 6, 3) := by decide +kernel
theorem dX10_product_21 : decode cX10_product 21 = .ok (.bipush (-2), 2) := by decide +kernel
theorem dX10_product_23 : decode cX10_product 23 = .ok (.ireturn, 1) := by decide +kernel
theorem dX10_product_24 : decode cX10_product 24 = .ok (.aload_n 0, 1) := by decide +kernel
theorem dX10_product_25 : decode cX10_product 25 = .ok (.iload_n 2, 1) := by decide +kernel
theorem dX10_product_26 : decode cX10_product 26 = .ok (.invokevirtual 67, 3) := by decide +kernel
theorem dX10_product_29 : decode cX10_product 29 = .ok (.ifCond .ne 11, 3) := by decide +kernel
theorem dX10_product_32 : decode cX10_product 32 = .ok (.aload_n 0, 1) := by decide +kernel
theorem dX10_product_33 : decode cX10_product 33 = .ok (.iload_n 3, 1) := by decide +kernel
theorem dX10_product_34 : decode cX10_product 34 = .ok (.invokevirtual 67, 3) := by decide +kernel
theorem dX10_product_37 : decode cX10_product 37 = .ok (.ifCond .eq 6, 3) := by decide +kernel
theorem dX10_product_40 : decode cX10_product 40 = .ok (.bipush (-3), 2) := by decide +kernel
theorem dX10_product_42 : decode cX10_product 42 = .ok (.ireturn, 1) := by decide +kernel
theorem dX10_product_43 : decode cX10_product 43 = .ok (.aload_n 0, 1) := by decide +kernel
theorem dX10_product_44 : decode cX10_product 44 = .ok (.getfield 18, 3) := by decide +kernel
theorem dX10_product_47 : decode cX10_product 47 = .ok (.aload_n 0, 1) := by decide +kernel
theorem dX10_product_48 : decode cX10_product 48 = .ok (.getfield 11, 3) := by decide +kernel
theorem dX10_product_51 : decode cX10_product 51 = .ok (.iload_n 1, 1) := by decide +kernel
theorem dX10_product_52 : decode cX10_product 52 = .ok (.aaload, 1) := by decide +kernel
theorem dX10_product_53 : decode cX10_product 53 = .ok (.aload_n 0, 1) := by decide +kernel
theorem dX10_product_54 : decode cX10_product 54 = .ok (.getfield 11, 3) := by decide +kernel
theorem dX10_product_57 : decode cX10_product 57 = .ok (.iload_n 2, 1) := by decide +kernel
theorem dX10_product_58 : decode cX10_product 58 = .ok (.aaload, 1) := by decide +kernel
theorem dX10_product_59 : decode cX10_product 59 = .ok (.aload_n 0, 1) := by decide +kernel
theorem dX10_product_60 : decode cX10_product 60 = .ok (.getfield 11, 3) := by decide +kernel
theorem dX10_product_63 : decode cX10_product 63 = .ok (.iload_n 3, 1) := by decide +kernel
theorem dX10_product_64 : decode cX10_product 64 = .ok (.aaload, 1) := by decide +kernel
theorem dX10_product_65 : decode cX10_product 65 = .ok (.invokevirtual 104, 3) := by decide +kernel
theorem dX10_product_68 : decode cX10_product 68 = .ok (.ireturn, 1) := by decide +kernel
theorem dX10_turned_0 : decode cX10_turned 0 = .ok (.iload_n 1, 1) := by decide +kernel
theorem dX10_turned_1 : decode cX10_turned 1 = .ok (.invokestatic 60, 3) := by decide +kernel
theorem dX10_turned_4 : decode cX10_turned 4 = .ok (.ifCond .eq 20, 3) := by decide +kernel
theorem dX10_turned_7 : decode cX10_turned 7 = .ok (.iload_n 2, 1) := by decide +kernel
theorem dX10_turned_8 : decode cX10_turned 8 = .ok (.invokestatic 60, 3) := by decide +kernel
theorem dX10_turned_11 : decode cX10_turned 11 = .ok (.ifCond .eq 13, 3) := by decide +kernel
theorem dX10_turned_14 : decode cX10_turned 14 = .ok (.iload_n 3, 1) := by decide +kernel
theorem dX10_turned_15 : decode cX10_turned 15 = .ok (.iconst 1, 1) := by decide +kernel
theorem dX10_turned_16 : decode cX10_turned 16 = .ok (.if_icmp .lt 8, 3) := by decide +kernel
theorem dX10_turned_19 : decode cX10_turned 19 = .ok (.iload_n 3, 1) := by decide +kernel
theorem dX10_turned_20 : decode cX10_turned 20 = .ok (.iconst 5, 1) := by decide +kernel
theorem dX10_turned_21 : decode cX10_turned 21 = .ok (.if_icmp .lt 6, 3) := by decide +kernel
theorem dX10_turned_24 : decode cX10_turned 24 = .ok (.bipush (-2), 2) := by decide +kernel
theorem dX10_turned_26 : decode cX10_turned 26 = .ok (.ireturn, 1) := by decide +kernel
theorem dX10_turned_27 : decode cX10_turned 27 = .ok (.aload_n 0, 1) := by decide +kernel
theorem dX10_turned_28 : decode cX10_turned 28 = .ok (.iload_n 2, 1) := by decide +kernel
theorem dX10_turned_29 : decode cX10_turned 29 = .ok (.invokevirtual 67, 3) := by decide +kernel
theorem dX10_turned_32 : decode cX10_turned 32 = .ok (.ifCond .eq 8, 3) := by decide +kernel
theorem dX10_turned_35 : decode cX10_turned 35 = .ok (.bipush (-3), 2) := by decide +kernel
theorem dX10_turned_37 : decode cX10_turned 37 = .ok (.goto 23, 3) := by decide +kernel
theorem dX10_turned_40 : decode cX10_turned 40 = .ok (.aload_n 0, 1) := by decide +kernel
theorem dX10_turned_41 : decode cX10_turned 41 = .ok (.getfield 18, 3) := by decide +kernel
theorem dX10_turned_44 : decode cX10_turned 44 = .ok (.aload_n 0, 1) := by decide +kernel
theorem dX10_turned_45 : decode cX10_turned 45 = .ok (.getfield 11, 3) := by decide +kernel
theorem dX10_turned_48 : decode cX10_turned 48 = .ok (.iload_n 1, 1) := by decide +kernel
theorem dX10_turned_49 : decode cX10_turned 49 = .ok (.aaload, 1) := by decide +kernel
theorem dX10_turned_50 : decode cX10_turned 50 = .ok (.aload_n 0, 1) := by decide +kernel
theorem dX10_turned_51 : decode cX10_turned 51 = .ok (.getfield 11, 3) := by decide +kernel
theorem dX10_turned_54 : decode cX10_turned 54 = .ok (.iload_n 2, 1) := by decide +kernel
theorem dX10_turned_55 : decode cX10_turned 55 = .ok (.aaload, 1) := by decide +kernel
theorem dX10_turned_56 : decode cX10_turned 56 = .ok (.iload_n 3, 1) := by decide +kernel
theorem dX10_turned_57 : decode cX10_turned 57 = .ok (.invokevirtual 108, 3) := by decide +kernel
theorem dX10_turned_60 : decode cX10_turned 60 = .ok (.ireturn, 1) := by decide +kernel
theorem dX10_difference_0 : decode cX10_difference 0 = .ok (.iload_n 1, 1) := by decide +kernel
theorem dX10_difference_1 : decode cX10_difference 1 = .ok (.invokestatic 60, 3) := by decide +kernel
theorem dX10_difference_4 : decode cX10_difference 4 = .ok (.ifCond .eq 20, 3) := by decide +kernel
theorem dX10_difference_7 : decode cX10_difference 7 = .ok (.iload_n 2, 1) := by decide +kernel
theorem dX10_difference_8 : decode cX10_difference 8 = .ok (.invokestatic 60, 3) := by decide +kernel
theorem dX10_difference_11 : decode cX10_difference 11 = .ok (.ifCond .eq 13, 3) := by decide +kernel
theorem dX10_difference_14 : decode cX10_difference 14 = .ok (.iload_n 3, 1) := by decide +kernel
theorem dX10_difference_15 : decode cX10_difference 15 = .ok (.iconst 1, 1) := by decide +kernel
theorem dX10_difference_16 : decode cX10_difference 16 = .ok (.if_icmp .lt 8, 3) := by decide +kernel
theorem dX10_difference_19 : decode cX10_difference 19 = .ok (.iload_n 3, 1) := by decide +kernel
theorem dX10_difference_20 : decode cX10_difference 20 = .ok (.iconst 5, 1) := by decide +kernel
theorem dX10_difference_21 : decode cX10_difference 21 = .ok (.if_icmp .lt 6, 3) := by decide +kernel
theorem dX10_difference_24 : decode cX10_difference 24 = .ok (.bipush (-2), 2) := by decide +kernel
theorem dX10_difference_26 : decode cX10_difference 26 = .ok (.ireturn, 1) := by decide +kernel
theorem dX10_difference_27 : decode cX10_difference 27 = .ok (.aload_n 0, 1) := by decide +kernel
theorem dX10_difference_28 : decode cX10_difference 28 = .ok (.iload_n 2, 1) := by decide +kernel
theorem dX10_difference_29 : decode cX10_difference 29 = .ok (.invokevirtual 67, 3) := by decide +kernel
theorem dX10_difference_32 : decode cX10_difference 32 = .ok (.ifCond .eq 8, 3) := by decide +kernel
theorem dX10_difference_35 : decode cX10_difference 35 = .ok (.bipush (-3), 2) := by decide +kernel
theorem dX10_difference_37 : decode cX10_difference 37 = .ok (.goto 23, 3) := by decide +kernel
theorem dX10_difference_40 : decode cX10_difference 40 = .ok (.aload_n 0, 1) := by decide +kernel
theorem dX10_difference_41 : decode cX10_difference 41 = .ok (.getfield 18, 3) := by decide +kernel
theorem dX10_difference_44 : decode cX10_difference 44 = .ok (.aload_n 0, 1) := by decide +kernel
theorem dX10_difference_45 : decode cX10_difference 45 = .ok (.getfield 11, 3) := by decide +kernel
theorem dX10_difference_48 : decode cX10_difference 48 = .ok (.iload_n 1, 1) := by decide +kernel
theorem dX10_difference_49 : decode cX10_difference 49 = .ok (.aaload, 1) := by decide +kernel
theorem dX10_difference_50 : decode cX10_difference 50 = .ok (.aload_n 0, 1) := by decide +kernel
theorem dX10_difference_51 : decode cX10_difference 51 = .ok (.getfield 11, 3) := by decide +kernel
theorem dX10_difference_54 : decode cX10_difference 54 = .ok (.iload_n 2, 1) := by decide +kernel
theorem dX10_difference_55 : decode cX10_difference 55 = .ok (.aaload, 1) := by decide +kernel
theorem dX10_difference_56 : decode cX10_difference 56 = .ok (.iload_n 3, 1) := by decide +kernel
theorem dX10_difference_57 : decode cX10_difference 57 = .ok (.invokevirtual 112, 3) := by decide +kernel
theorem dX10_difference_60 : decode cX10_difference 60 = .ok (.ireturn, 1) := by decide +kernel
theorem dX10_polynomial_0 : decode cX10_polynomial 0 = .ok (.iload_n 2, 1) := by decide +kernel
theorem dX10_polynomial_1 : decode cX10_polynomial 1 = .ok (.invokestatic 37, 3) := by decide +kernel
theorem dX10_polynomial_4 : decode cX10_polynomial 4 = .ok (.istore_n 3, 1) := by decide +kernel
theorem dX10_polynomial_5 : decode cX10_polynomial 5 = .ok (.iload_n 1, 1) := by decide +kernel
theorem dX10_polynomial_6 : decode cX10_polynomial 6 = .ok (.invokestatic 60, 3) := by decide +kernel
theorem dX10_polynomial_9 : decode cX10_polynomial 9 = .ok (.ifCond .eq 7, 3) := by decide +kernel
theorem dX10_polynomial_12 : decode cX10_polynomial 12 = .ok (.iload_n 3, 1) := by decide +kernel
theorem dX10_polynomial_13 : decode cX10_polynomial 13 = .ok (.ifCond .ne 6, 3) := by decide +kernel
theorem dX10_polynomial_16 : decode cX10_polynomial 16 = .ok (.bipush (-2), 2) := by decide +kernel
theorem dX10_polynomial_18 : decode cX10_polynomial 18 = .ok (.ireturn, 1) := by decide +kernel
theorem dX10_polynomial_19 : decode cX10_polynomial 19 = .ok (.aload_n 0, 1) := by decide +kernel
theorem dX10_polynomial_20 : decode cX10_polynomial 20 = .ok (.getfield 18, 3) := by decide +kernel
theorem dX10_polynomial_23 : decode cX10_polynomial 23 = .ok (.aload_n 0, 1) := by decide +kernel
theorem dX10_polynomial_24 : decode cX10_polynomial 24 = .ok (.getfield 11, 3) := by decide +kernel
theorem dX10_polynomial_27 : decode cX10_polynomial 27 = .ok (.iload_n 1, 1) := by decide +kernel
theorem dX10_polynomial_28 : decode cX10_polynomial 28 = .ok (.aaload, 1) := by decide +kernel
theorem dX10_polynomial_29 : decode cX10_polynomial 29 = .ok (.iload_n 2, 1) := by decide +kernel
theorem dX10_polynomial_30 : decode cX10_polynomial 30 = .ok (.iload_n 3, 1) := by decide +kernel
theorem dX10_polynomial_31 : decode cX10_polynomial 31 = .ok (.invokevirtual 115, 3) := by decide +kernel
theorem dX10_polynomial_34 : decode cX10_polynomial 34 = .ok (.ireturn, 1) := by decide +kernel
theorem dX10_part_0 : decode cX10_part 0 = .ok (.iload_n 2, 1) := by decide +kernel
theorem dX10_part_1 : decode cX10_part 1 = .ok (.invokestatic 37, 3) := by decide +kernel
theorem dX10_part_4 : decode cX10_part 4 = .ok (.istore_n 3, 1) := by decide +kernel
theorem dX10_part_5 : decode cX10_part 5 = .ok (.iload_n 1, 1) := by decide +kernel
theorem dX10_part_6 : decode cX10_part 6 = .ok (.invokestatic 60, 3) := by decide +kernel
theorem dX10_part_9 : decode cX10_part 9 = .ok (.ifCond .eq 7, 3) := by decide +kernel
theorem dX10_part_12 : decode cX10_part 12 = .ok (.iload_n 3, 1) := by decide +kernel
theorem dX10_part_13 : decode cX10_part 13 = .ok (.ifCond .ne 9, 3) := by decide +kernel
theorem dX10_part_16 : decode cX10_part 16 = .ok (.bipush (-2), 2) := by decide +kernel
theorem dX10_part_18 : decode cX10_part 18 = .ok (.invokestatic 91, 3) := by decide +kernel
theorem dX10_part_21 : decode cX10_part 21 = .ok (.lreturn, 1) := by decide +kernel
theorem dX10_part_22 : decode cX10_part 22 = .ok (.aload_n 0, 1) := by decide +kernel
theorem dX10_part_23 : decode cX10_part 23 = .ok (.iload_n 1, 1) := by decide +kernel
theorem dX10_part_24 : decode cX10_part 24 = .ok (.invokevirtual 67, 3) := by decide +kernel
theorem dX10_part_27 : decode cX10_part 27 = .ok (.ifCond .eq 11, 3) := by decide +kernel
theorem dX10_part_30 : decode cX10_part 30 = .ok (.bipush (-3), 2) := by decide +kernel
theorem dX10_part_32 : decode cX10_part 32 = .ok (.invokestatic 91, 3) := by decide +kernel
theorem dX10_part_35 : decode cX10_part 35 = .ok (.goto 18, 3) := by decide +kernel
theorem dX10_part_38 : decode cX10_part 38 = .ok (.aload_n 0, 1) := by decide +kernel
theorem dX10_part_39 : decode cX10_part 39 = .ok (.getfield 18, 3) := by decide +kernel
theorem dX10_part_42 : decode cX10_part 42 = .ok (.aload_n 0, 1) := by decide +kernel
theorem dX10_part_43 : decode cX10_part 43 = .ok (.getfield 11, 3) := by decide +kernel
theorem dX10_part_46 : decode cX10_part 46 = .ok (.iload_n 1, 1) := by decide +kernel
theorem dX10_part_47 : decode cX10_part 47 = .ok (.aaload, 1) := by decide +kernel
theorem dX10_part_48 : decode cX10_part 48 = .ok (.iload_n 2, 1) := by decide +kernel
theorem dX10_part_49 : decode cX10_part 49 = .ok (.iload_n 3, 1) := by decide +kernel
theorem dX10_part_50 : decode cX10_part 50 = .ok (.invokevirtual 119, 3) := by decide +kernel
theorem dX10_part_53 : decode cX10_part 53 = .ok (.lreturn, 1) := by decide +kernel
theorem dX10_constant_0 : decode cX10_constant 0 = .ok (.iload_n 1, 1) := by decide +kernel
theorem dX10_constant_1 : decode cX10_constant 1 = .ok (.invokestatic 37, 3) := by decide +kernel
theorem dX10_constant_4 : decode cX10_constant 4 = .ok (.ifCond .eq 17, 3) := by decide +kernel
theorem dX10_constant_7 : decode cX10_constant 7 = .ok (.iload_n 2, 1) := by decide +kernel
theorem dX10_constant_8 : decode cX10_constant 8 = .ok (.invokestatic 37, 3) := by decide +kernel
theorem dX10_constant_11 : decode cX10_constant 11 = .ok (.ifCond .eq 10, 3) := by decide +kernel
theorem dX10_constant_14 : decode cX10_constant 14 = .ok (.iload_n 3, 1) := by decide +kernel
theorem dX10_constant_15 : decode cX10_constant 15 = .ok (.invokestatic 37, 3) := by decide +kernel
theorem dX10_constant_18 : decode cX10_constant 18 = .ok (.ifCond .ne 9, 3) := by decide +kernel
theorem dX10_constant_21 : decode cX10_constant 21 = .ok (.bipush (-2), 2) := by decide +kernel
theorem dX10_constant_23 : decode cX10_constant 23 = .ok (.invokestatic 91, 3) := by decide +kernel
theorem dX10_constant_26 : decode cX10_constant 26 = .ok (.lreturn, 1) := by decide +kernel
theorem dX10_constant_27 : decode cX10_constant 27 = .ok (.aload_n 0, 1) := by decide +kernel
theorem dX10_constant_28 : decode cX10_constant 28 = .ok (.getfield 18, 3) := by decide +kernel
theorem dX10_constant_31 : decode cX10_constant 31 = .ok (.iload_n 1, 1) := by decide +kernel
theorem dX10_constant_32 : decode cX10_constant 32 = .ok (.iload_n 2, 1) := by decide +kernel
theorem dX10_constant_33 : decode cX10_constant 33 = .ok (.iload_n 3, 1) := by decide +kernel
theorem dX10_constant_34 : decode cX10_constant 34 = .ok (.invokevirtual 123, 3) := by decide +kernel
theorem dX10_constant_37 : decode cX10_constant 37 = .ok (.lreturn, 1) := by decide +kernel
theorem dX10_same_0 : decode cX10_same 0 = .ok (.iload_n 1, 1) := by decide +kernel
theorem dX10_same_1 : decode cX10_same 1 = .ok (.invokestatic 60, 3) := by decide +kernel
theorem dX10_same_4 : decode cX10_same 4 = .ok (.ifCond .eq 10, 3) := by decide +kernel
theorem dX10_same_7 : decode cX10_same 7 = .ok (.iload_n 2, 1) := by decide +kernel
theorem dX10_same_8 : decode cX10_same 8 = .ok (.invokestatic 60, 3) := by decide +kernel
theorem dX10_same_11 : decode cX10_same 11 = .ok (.ifCond .ne 6, 3) := by decide +kernel
theorem dX10_same_14 : decode cX10_same 14 = .ok (.bipush (-2), 2) := by decide +kernel
theorem dX10_same_16 : decode cX10_same 16 = .ok (.ireturn, 1) := by decide +kernel
theorem dX10_same_17 : decode cX10_same 17 = .ok (.aload_n 0, 1) := by decide +kernel
theorem dX10_same_18 : decode cX10_same 18 = .ok (.iload_n 1, 1) := by decide +kernel
theorem dX10_same_19 : decode cX10_same 19 = .ok (.invokevirtual 67, 3) := by decide +kernel
theorem dX10_same_22 : decode cX10_same 22 = .ok (.ifCond .ne 11, 3) := by decide +kernel
theorem dX10_same_25 : decode cX10_same 25 = .ok (.aload_n 0, 1) := by decide +kernel
theorem dX10_same_26 : decode cX10_same 26 = .ok (.iload_n 2, 1) := by decide +kernel
theorem dX10_same_27 : decode cX10_same 27 = .ok (.invokevirtual 67, 3) := by decide +kernel
theorem dX10_same_30 : decode cX10_same 30 = .ok (.ifCond .eq 6, 3) := by decide +kernel
theorem dX10_same_33 : decode cX10_same 33 = .ok (.bipush (-3), 2) := by decide +kernel
theorem dX10_same_35 : decode cX10_same 35 = .ok (.ireturn, 1) := by decide +kernel
theorem dX10_same_36 : decode cX10_same 36 = .ok (.aload_n 0, 1) := by decide +kernel
theorem dX10_same_37 : decode cX10_same 37 = .ok (.getfield 11, 3) := by decide +kernel
theorem dX10_same_40 : decode cX10_same 40 = .ok (.iload_n 1, 1) := by decide +kernel
theorem dX10_same_41 : decode cX10_same 41 = .ok (.aaload, 1) := by decide +kernel
theorem dX10_same_42 : decode cX10_same 42 = .ok (.aload_n 0, 1) := by decide +kernel
theorem dX10_same_43 : decode cX10_same 43 = .ok (.getfield 11, 3) := by decide +kernel
theorem dX10_same_46 : decode cX10_same 46 = .ok (.iload_n 2, 1) := by decide +kernel
theorem dX10_same_47 : decode cX10_same 47 = .ok (.aaload, 1) := by decide +kernel
theorem dX10_same_48 : decode cX10_same 48 = .ok (.invokevirtual 127, 3) := by decide +kernel
theorem dX10_same_51 : decode cX10_same 51 = .ok (.ifCond .eq 7, 3) := by decide +kernel
theorem dX10_same_54 : decode cX10_same 54 = .ok (.iconst 1, 1) := by decide +kernel
theorem dX10_same_55 : decode cX10_same 55 = .ok (.goto 4, 3) := by decide +kernel
theorem dX10_same_58 : decode cX10_same 58 = .ok (.iconst 0, 1) := by decide +kernel
theorem dX10_same_59 : decode cX10_same 59 = .ok (.ireturn, 1) := by decide +kernel
theorem dX10_strip_0 : decode cX10_strip 0 = .ok (.iload_n 1, 1) := by decide +kernel
theorem dX10_strip_1 : decode cX10_strip 1 = .ok (.iload_n 2, 1) := by decide +kernel
theorem dX10_strip_2 : decode cX10_strip 2 = .ok (.iload_n 3, 1) := by decide +kernel
theorem dX10_strip_3 : decode cX10_strip 3 = .ok (.invokestatic 131, 3) := by decide +kernel
theorem dX10_strip_6 : decode cX10_strip 6 = .ok (.ifCond .eq 15, 3) := by decide +kernel
theorem dX10_strip_9 : decode cX10_strip 9 = .ok (.iload 4, 2) := by decide +kernel
theorem dX10_strip_11 : decode cX10_strip 11 = .ok (.ifCond .lt 10, 3) := by decide +kernel
theorem dX10_strip_14 : decode cX10_strip 14 = .ok (.iload 4, 2) := by decide +kernel
theorem dX10_strip_16 : decode cX10_strip 16 = .ok (.bipush 16, 2) := by decide +kernel
theorem dX10_strip_18 : decode cX10_strip 18 = .ok (.if_icmp .le 6, 3) := by decide +kernel
theorem dX10_strip_21 : decode cX10_strip 21 = .ok (.bipush (-2), 2) := by decide +kernel
theorem dX10_strip_23 : decode cX10_strip 23 = .ok (.ireturn, 1) := by decide +kernel
theorem dX10_strip_24 : decode cX10_strip 24 = .ok (.iload_n 1, 1) := by decide +kernel
theorem dX10_strip_25 : decode cX10_strip 25 = .ok (.iload_n 2, 1) := by decide +kernel
theorem dX10_strip_26 : decode cX10_strip 26 = .ok (.iload_n 3, 1) := by decide +kernel
theorem dX10_strip_27 : decode cX10_strip 27 = .ok (.iload 4, 2) := by decide +kernel
theorem dX10_strip_29 : decode cX10_strip 29 = .ok (.iload 5, 2) := by decide +kernel
theorem dX10_strip_31 : decode cX10_strip 31 = .ok (.invokestatic 137, 3) := by decide +kernel
theorem dX10_strip_34 : decode cX10_strip 34 = .ok (.ireturn, 1) := by decide +kernel
theorem dX10_fillings_0 : decode cX10_fillings 0 = .ok (.iload_n 1, 1) := by decide +kernel
theorem dX10_fillings_1 : decode cX10_fillings 1 = .ok (.iload_n 2, 1) := by decide +kernel
theorem dX10_fillings_2 : decode cX10_fillings 2 = .ok (.iload_n 3, 1) := by decide +kernel
theorem dX10_fillings_3 : decode cX10_fillings 3 = .ok (.invokestatic 131, 3) := by decide +kernel
theorem dX10_fillings_6 : decode cX10_fillings 6 = .ok (.ifCond .eq 23, 3) := by decide +kernel
theorem dX10_fillings_9 : decode cX10_fillings 9 = .ok (.iload_n 1, 1) := by decide +kernel
theorem dX10_fillings_10 : decode cX10_fillings 10 = .ok (.iload_n 2, 1) := by decide +kernel
theorem dX10_fillings_11 : decode cX10_fillings 11 = .ok (.iload 4, 2) := by decide +kernel
theorem dX10_fillings_13 : decode cX10_fillings 13 = .ok (.invokestatic 131, 3) := by decide +kernel
theorem dX10_fillings_16 : decode cX10_fillings 16 = .ok (.ifCond .eq 13, 3) := by decide +kernel
theorem dX10_fillings_19 : decode cX10_fillings 19 = .ok (.iload_n 1, 1) := by decide +kernel
theorem dX10_fillings_20 : decode cX10_fillings 20 = .ok (.iload_n 2, 1) := by decide +kernel
theorem dX10_fillings_21 : decode cX10_fillings 21 = .ok (.iload 5, 2) := by decide +kernel
theorem dX10_fillings_23 : decode cX10_fillings 23 = .ok (.invokestatic 131, 3) := by decide +kernel
theorem dX10_fillings_26 : decode cX10_fillings 26 = .ok (.ifCond .ne 6, 3) := by decide +kernel
theorem dX10_fillings_29 : decode cX10_fillings 29 = .ok (.bipush (-2), 2) := by decide +kernel
theorem dX10_fillings_31 : decode cX10_fillings 31 = .ok (.ireturn, 1) := by decide +kernel
theorem dX10_fillings_32 : decode cX10_fillings 32 = .ok (.aload_n 0, 1) := by decide +kernel
theorem dX10_fillings_33 : decode cX10_fillings 33 = .ok (.getfield 25, 3) := by decide +kernel
theorem dX10_fillings_36 : decode cX10_fillings 36 = .ok (.invokevirtual 141, 3) := by decide +kernel
theorem dX10_fillings_39 : decode cX10_fillings 39 = .ok (.iload_n 1, 1) := by decide +kernel
theorem dX10_fillings_40 : decode cX10_fillings 40 = .ok (.iload_n 3, 1) := by decide +kernel
theorem dX10_fillings_41 : decode cX10_fillings 41 = .ok (.iload 4, 2) := by decide +kernel
theorem dX10_fillings_43 : decode cX10_fillings 43 = .ok (.iload 5, 2) := by decide +kernel
theorem dX10_fillings_45 : decode cX10_fillings 45 = .ok (.invokevirtual 145, 3) := by decide +kernel
theorem dX10_fillings_48 : decode cX10_fillings 48 = .ok (.ireturn, 1) := by decide +kernel
theorem dX10_orderOf_0 : decode cX10_orderOf 0 = .ok (.iload_n 1, 1) := by decide +kernel
theorem dX10_orderOf_1 : decode cX10_orderOf 1 = .ok (.iload_n 2, 1) := by decide +kernel
theorem dX10_orderOf_2 : decode cX10_orderOf 2 = .ok (.iload_n 3, 1) := by decide +kernel
theorem dX10_orderOf_3 : decode cX10_orderOf 3 = .ok (.invokestatic 131, 3) := by decide +kernel
theorem dX10_orderOf_6 : decode cX10_orderOf 6 = .ok (.ifCond .eq 10, 3) := by decide +kernel
theorem dX10_orderOf_9 : decode cX10_orderOf 9 = .ok (.iload_n 1, 1) := by decide +kernel
theorem dX10_orderOf_10 : decode cX10_orderOf 10 = .ok (.iload_n 2, 1) := by decide +kernel
theorem dX10_orderOf_11 : decode cX10_orderOf 11 = .ok (.iadd, 1) := by decide +kernel
theorem dX10_orderOf_12 : decode cX10_orderOf 12 = .ok (.iconst 5, 1) := by decide +kernel
theorem dX10_orderOf_13 : decode cX10_orderOf 13 = .ok (.if_icmp .le 6, 3) := by decide +kernel
theorem dX10_orderOf_16 : decode cX10_orderOf 16 = .ok (.bipush (-2), 2) := by decide +kernel
theorem dX10_orderOf_18 : decode cX10_orderOf 18 = .ok (.ireturn, 1) := by decide +kernel
theorem dX10_orderOf_19 : decode cX10_orderOf 19 = .ok (.iload_n 1, 1) := by decide +kernel
theorem dX10_orderOf_20 : decode cX10_orderOf 20 = .ok (.iload_n 2, 1) := by decide +kernel
theorem dX10_orderOf_21 : decode cX10_orderOf 21 = .ok (.iload_n 3, 1) := by decide +kernel
theorem dX10_orderOf_22 : decode cX10_orderOf 22 = .ok (.invokestatic 150, 3) := by decide +kernel
theorem dX10_orderOf_25 : decode cX10_orderOf 25 = .ok (.ireturn, 1) := by decide +kernel
theorem dX10_begin_0 : decode cX10_begin 0 = .ok (.iload_n 1, 1) := by decide +kernel
theorem dX10_begin_1 : decode cX10_begin 1 = .ok (.iload_n 2, 1) := by decide +kernel
theorem dX10_begin_2 : decode cX10_begin 2 = .ok (.invokestatic 154, 3) := by decide +kernel
theorem dX10_begin_5 : decode cX10_begin 5 = .ok (.ifCond .ne 6, 3) := by decide +kernel
theorem dX10_begin_8 : decode cX10_begin 8 = .ok (.bipush (-2), 2) := by decide +kernel
theorem dX10_begin_10 : decode cX10_begin 10 = .ok (.ireturn, 1) := by decide +kernel
theorem dX10_begin_11 : decode cX10_begin 11 = .ok (.aload_n 0, 1) := by decide +kernel
theorem dX10_begin_12 : decode cX10_begin 12 = .ok (.getfield 25, 3) := by decide +kernel
theorem dX10_begin_15 : decode cX10_begin 15 = .ok (.iload_n 1, 1) := by decide +kernel
theorem dX10_begin_16 : decode cX10_begin 16 = .ok (.iload_n 2, 1) := by decide +kernel
theorem dX10_begin_17 : decode cX10_begin 17 = .ok (.invokevirtual 158, 3) := by decide +kernel
theorem dX10_begin_20 : decode cX10_begin 20 = .ok (.ireturn, 1) := by decide +kernel
theorem dX10_condition_0 : decode cX10_condition 0 = .ok (.aload_n 0, 1) := by decide +kernel
theorem dX10_condition_1 : decode cX10_condition 1 = .ok (.getfield 25, 3) := by decide +kernel
theorem dX10_condition_4 : decode cX10_condition 4 = .ok (.invokevirtual 161, 3) := by decide +kernel
theorem dX10_condition_7 : decode cX10_condition 7 = .ok (.aload_n 0, 1) := by decide +kernel
theorem dX10_condition_8 : decode cX10_condition 8 = .ok (.getfield 25, 3) := by decide +kernel
theorem dX10_condition_11 : decode cX10_condition 11 = .ok (.invokevirtual 164, 3) := by decide +kernel
theorem dX10_condition_14 : decode cX10_condition 14 = .ok (.iload_n 1, 1) := by decide +kernel
theorem dX10_condition_15 : decode cX10_condition 15 = .ok (.invokestatic 131, 3) := by decide +kernel
theorem dX10_condition_18 : decode cX10_condition 18 = .ok (.ifCond .ne 6, 3) := by decide +kernel
theorem dX10_condition_21 : decode cX10_condition 21 = .ok (.bipush (-2), 2) := by decide +kernel
theorem dX10_condition_23 : decode cX10_condition 23 = .ok (.ireturn, 1) := by decide +kernel
theorem dX10_condition_24 : decode cX10_condition 24 = .ok (.aload_n 0, 1) := by decide +kernel
theorem dX10_condition_25 : decode cX10_condition 25 = .ok (.getfield 25, 3) := by decide +kernel
theorem dX10_condition_28 : decode cX10_condition 28 = .ok (.iload_n 1, 1) := by decide +kernel
theorem dX10_condition_29 : decode cX10_condition 29 = .ok (.invokevirtual 167, 3) := by decide +kernel
theorem dX10_condition_32 : decode cX10_condition 32 = .ok (.ireturn, 1) := by decide +kernel
theorem dX10_meeting_0 : decode cX10_meeting 0 = .ok (.aload_n 0, 1) := by decide +kernel
theorem dX10_meeting_1 : decode cX10_meeting 1 = .ok (.getfield 25, 3) := by decide +kernel
theorem dX10_meeting_4 : decode cX10_meeting 4 = .ok (.invokevirtual 170, 3) := by decide +kernel
theorem dX10_meeting_7 : decode cX10_meeting 7 = .ok (.lreturn, 1) := by decide +kernel
theorem dX10_field_0 : decode cX10_field 0 = .ok (.iload_n 1, 1) := by decide +kernel
theorem dX10_field_1 : decode cX10_field 1 = .ok (.iconst 2, 1) := by decide +kernel
theorem dX10_field_2 : decode cX10_field 2 = .ok (.if_icmp .eq 16, 3) := by decide +kernel
theorem dX10_field_5 : decode cX10_field 5 = .ok (.iload_n 1, 1) := by decide +kernel
theorem dX10_field_6 : decode cX10_field 6 = .ok (.iconst 3, 1) := by decide +kernel
theorem dX10_field_7 : decode cX10_field 7 = .ok (.if_icmp .eq 11, 3) := by decide +kernel
theorem dX10_field_10 : decode cX10_field 10 = .ok (.iload_n 1, 1) := by decide +kernel
theorem dX10_field_11 : decode cX10_field 11 = .ok (.iconst 5, 1) := by decide +kernel
theorem dX10_field_12 : decode cX10_field 12 = .ok (.if_icmp .eq 6, 3) := by decide +kernel
theorem dX10_field_15 : decode cX10_field 15 = .ok (.bipush (-2), 2) := by decide +kernel
theorem dX10_field_17 : decode cX10_field 17 = .ok (.ireturn, 1) := by decide +kernel
theorem dX10_field_18 : decode cX10_field 18 = .ok (.aload_n 0, 1) := by decide +kernel
theorem dX10_field_19 : decode cX10_field 19 = .ok (.getfield 32, 3) := by decide +kernel
theorem dX10_field_22 : decode cX10_field 22 = .ok (.iload_n 1, 1) := by decide +kernel
theorem dX10_field_23 : decode cX10_field 23 = .ok (.invokevirtual 174, 3) := by decide +kernel
theorem dX10_field_26 : decode cX10_field 26 = .ok (.ireturn, 1) := by decide +kernel
theorem dX10_rod_0 : decode cX10_rod 0 = .ok (.iload_n 1, 1) := by decide +kernel
theorem dX10_rod_1 : decode cX10_rod 1 = .ok (.invokestatic 177, 3) := by decide +kernel
theorem dX10_rod_4 : decode cX10_rod 4 = .ok (.ifCond .eq 25, 3) := by decide +kernel
theorem dX10_rod_7 : decode cX10_rod 7 = .ok (.aload_n 0, 1) := by decide +kernel
theorem dX10_rod_8 : decode cX10_rod 8 = .ok (.getfield 32, 3) := by decide +kernel
theorem dX10_rod_11 : decode cX10_rod 11 = .ok (.iload_n 2, 1) := by decide +kernel
theorem dX10_rod_12 : decode cX10_rod 12 = .ok (.invokevirtual 180, 3) := by decide +kernel
theorem dX10_rod_15 : decode cX10_rod 15 = .ok (.ifCond .eq 14, 3) := by decide +kernel
theorem dX10_rod_18 : decode cX10_rod 18 = .ok (.aload_n 0, 1) := by decide +kernel
theorem dX10_rod_19 : decode cX10_rod 19 = .ok (.getfield 32, 3) := by decide +kernel
theorem dX10_rod_22 : decode cX10_rod 22 = .ok (.iload_n 3, 1) := by decide +kernel
theorem dX10_rod_23 : decode cX10_rod 23 = .ok (.invokevirtual 180, 3) := by decide +kernel
theorem dX10_rod_26 : decode cX10_rod 26 = .ok (.ifCond .ne 6, 3) := by decide +kernel
theorem dX10_rod_29 : decode cX10_rod 29 = .ok (.bipush (-2), 2) := by decide +kernel
theorem dX10_rod_31 : decode cX10_rod 31 = .ok (.ireturn, 1) := by decide +kernel
theorem dX10_rod_32 : decode cX10_rod 32 = .ok (.aload_n 0, 1) := by decide +kernel
theorem dX10_rod_33 : decode cX10_rod 33 = .ok (.getfield 32, 3) := by decide +kernel
theorem dX10_rod_36 : decode cX10_rod 36 = .ok (.iload_n 1, 1) := by decide +kernel
theorem dX10_rod_37 : decode cX10_rod 37 = .ok (.iload_n 2, 1) := by decide +kernel
theorem dX10_rod_38 : decode cX10_rod 38 = .ok (.iload_n 3, 1) := by decide +kernel
theorem dX10_rod_39 : decode cX10_rod 39 = .ok (.invokevirtual 183, 3) := by decide +kernel
theorem dX10_rod_42 : decode cX10_rod 42 = .ok (.ifCond .eq 7, 3) := by decide +kernel
theorem dX10_rod_45 : decode cX10_rod 45 = .ok (.iconst 1, 1) := by decide +kernel
theorem dX10_rod_46 : decode cX10_rod 46 = .ok (.goto 5, 3) := by decide +kernel
theorem dX10_rod_49 : decode cX10_rod 49 = .ok (.bipush (-2), 2) := by decide +kernel
theorem dX10_rod_51 : decode cX10_rod 51 = .ok (.ireturn, 1) := by decide +kernel
theorem dX10_drop_0 : decode cX10_drop 0 = .ok (.iload_n 1, 1) := by decide +kernel
theorem dX10_drop_1 : decode cX10_drop 1 = .ok (.invokestatic 177, 3) := by decide +kernel
theorem dX10_drop_4 : decode cX10_drop 4 = .ok (.ifCond .ne 6, 3) := by decide +kernel
theorem dX10_drop_7 : decode cX10_drop 7 = .ok (.bipush (-2), 2) := by decide +kernel
theorem dX10_drop_9 : decode cX10_drop 9 = .ok (.ireturn, 1) := by decide +kernel
theorem dX10_drop_10 : decode cX10_drop 10 = .ok (.aload_n 0, 1) := by decide +kernel
theorem dX10_drop_11 : decode cX10_drop 11 = .ok (.getfield 32, 3) := by decide +kernel
theorem dX10_drop_14 : decode cX10_drop 14 = .ok (.iload_n 1, 1) := by decide +kernel
theorem dX10_drop_15 : decode cX10_drop 15 = .ok (.invokevirtual 186, 3) := by decide +kernel
theorem dX10_drop_18 : decode cX10_drop 18 = .ok (.ifCond .eq 7, 3) := by decide +kernel
theorem dX10_drop_21 : decode cX10_drop 21 = .ok (.iconst 1, 1) := by decide +kernel
theorem dX10_drop_22 : decode cX10_drop 22 = .ok (.goto 5, 3) := by decide +kernel
theorem dX10_drop_25 : decode cX10_drop 25 = .ok (.bipush (-3), 2) := by decide +kernel
theorem dX10_drop_27 : decode cX10_drop 27 = .ok (.ireturn, 1) := by decide +kernel
theorem dX10_meet_0 : decode cX10_meet 0 = .ok (.iload_n 1, 1) := by decide +kernel
theorem dX10_meet_1 : decode cX10_meet 1 = .ok (.invokestatic 177, 3) := by decide +kernel
theorem dX10_meet_4 : decode cX10_meet 4 = .ok (.ifCond .eq 10, 3) := by decide +kernel
theorem dX10_meet_7 : decode cX10_meet 7 = .ok (.iload_n 2, 1) := by decide +kernel
theorem dX10_meet_8 : decode cX10_meet 8 = .ok (.invokestatic 177, 3) := by decide +kernel
theorem dX10_meet_11 : decode cX10_meet 11 = .ok (.ifCond .ne 6, 3) := by decide +kernel
theorem dX10_meet_14 : decode cX10_meet 14 = .ok (.bipush (-2), 2) := by decide +kernel
theorem dX10_meet_16 : decode cX10_meet 16 = .ok (.ireturn, 1) := by decide +kernel
theorem dX10_meet_17 : decode cX10_meet 17 = .ok (.aload_n 0, 1) := by decide +kernel
theorem dX10_meet_18 : decode cX10_meet 18 = .ok (.getfield 32, 3) := by decide +kernel
theorem dX10_meet_21 : decode cX10_meet 21 = .ok (.iload_n 1, 1) := by decide +kernel
theorem dX10_meet_22 : decode cX10_meet 22 = .ok (.iload_n 2, 1) := by decide +kernel
theorem dX10_meet_23 : decode cX10_meet 23 = .ok (.invokevirtual 189, 3) := by decide +kernel
theorem dX10_meet_26 : decode cX10_meet 26 = .ok (.ireturn, 1) := by decide +kernel
theorem dX10_lines_0 : decode cX10_lines 0 = .ok (.iload_n 1, 1) := by decide +kernel
theorem dX10_lines_1 : decode cX10_lines 1 = .ok (.invokestatic 192, 3) := by decide +kernel
theorem dX10_lines_4 : decode cX10_lines 4 = .ok (.ifCond .ne 6, 3) := by decide +kernel
theorem dX10_lines_7 : decode cX10_lines 7 = .ok (.bipush (-2), 2) := by decide +kernel
theorem dX10_lines_9 : decode cX10_lines 9 = .ok (.ireturn, 1) := by decide +kernel
theorem dX10_lines_10 : decode cX10_lines 10 = .ok (.aload_n 0, 1) := by decide +kernel
theorem dX10_lines_11 : decode cX10_lines 11 = .ok (.getfield 32, 3) := by decide +kernel
theorem dX10_lines_14 : decode cX10_lines 14 = .ok (.iload_n 1, 1) := by decide +kernel
theorem dX10_lines_15 : decode cX10_lines 15 = .ok (.invokevirtual 195, 3) := by decide +kernel
theorem dX10_lines_18 : decode cX10_lines 18 = .ok (.ifCond .eq 14, 3) := by decide +kernel
theorem dX10_lines_21 : decode cX10_lines 21 = .ok (.aload_n 0, 1) := by decide +kernel
theorem dX10_lines_22 : decode cX10_lines 22 = .ok (.getfield 32, 3) := by decide +kernel
theorem dX10_lines_25 : decode cX10_lines 25 = .ok (.iload_n 1, 1) := by decide +kernel
theorem dX10_lines_26 : decode cX10_lines 26 = .ok (.invokevirtual 198, 3) := by decide +kernel
theorem dX10_lines_29 : decode cX10_lines 29 = .ok (.goto 5, 3) := by decide +kernel
theorem dX10_lines_32 : decode cX10_lines 32 = .ok (.bipush (-3), 2) := by decide +kernel
theorem dX10_lines_34 : decode cX10_lines 34 = .ok (.ireturn, 1) := by decide +kernel
theorem dX10_points_0 : decode cX10_points 0 = .ok (.iload_n 1, 1) := by decide +kernel
theorem dX10_points_1 : decode cX10_points 1 = .ok (.invokestatic 192, 3) := by decide +kernel
theorem dX10_points_4 : decode cX10_points 4 = .ok (.ifCond .ne 6, 3) := by decide +kernel
theorem dX10_points_7 : decode cX10_points 7 = .ok (.bipush (-2), 2) := by decide +kernel
theorem dX10_points_9 : decode cX10_points 9 = .ok (.ireturn, 1) := by decide +kernel
theorem dX10_points_10 : decode cX10_points 10 = .ok (.aload_n 0, 1) := by decide +kernel
theorem dX10_points_11 : decode cX10_points 11 = .ok (.getfield 32, 3) := by decide +kernel
theorem dX10_points_14 : decode cX10_points 14 = .ok (.iload_n 1, 1) := by decide +kernel
theorem dX10_points_15 : decode cX10_points 15 = .ok (.invokevirtual 195, 3) := by decide +kernel
theorem dX10_points_18 : decode cX10_points 18 = .ok (.ifCond .eq 14, 3) := by decide +kernel
theorem dX10_points_21 : decode cX10_points 21 = .ok (.aload_n 0, 1) := by decide +kernel
theorem dX10_points_22 : decode cX10_points 22 = .ok (.getfield 32, 3) := by decide +kernel
theorem dX10_points_25 : decode cX10_points 25 = .ok (.iload_n 1, 1) := by decide +kernel
theorem dX10_points_26 : decode cX10_points 26 = .ok (.invokevirtual 201, 3) := by decide +kernel
theorem dX10_points_29 : decode cX10_points 29 = .ok (.goto 5, 3) := by decide +kernel
theorem dX10_points_32 : decode cX10_points 32 = .ok (.bipush (-3), 2) := by decide +kernel
theorem dX10_points_34 : decode cX10_points 34 = .ok (.ireturn, 1) := by decide +kernel
theorem dX10_count_0 : decode cX10_count 0 = .ok (.iload_n 1, 1) := by decide +kernel
theorem dX10_count_1 : decode cX10_count 1 = .ok (.tableswitch 84 0 5 #[39, 44, 52, 60, 68, 76], 39) := by decide +kernel
theorem dX10_count_40 : decode cX10_count 40 = .ok (.aload_n 0, 1) := by decide +kernel
theorem dX10_count_41 : decode cX10_count 41 = .ok (.invokevirtual 204, 3) := by decide +kernel
theorem dX10_count_44 : decode cX10_count 44 = .ok (.ireturn, 1) := by decide +kernel
theorem dX10_count_45 : decode cX10_count 45 = .ok (.aload_n 0, 1) := by decide +kernel
theorem dX10_count_46 : decode cX10_count 46 = .ok (.getfield 25, 3) := by decide +kernel
theorem dX10_count_49 : decode cX10_count 49 = .ok (.invokevirtual 207, 3) := by decide +kernel
theorem dX10_count_52 : decode cX10_count 52 = .ok (.ireturn, 1) := by decide +kernel
theorem dX10_count_53 : decode cX10_count 53 = .ok (.aload_n 0, 1) := by decide +kernel
theorem dX10_count_54 : decode cX10_count 54 = .ok (.getfield 25, 3) := by decide +kernel
theorem dX10_count_57 : decode cX10_count 57 = .ok (.invokevirtual 161, 3) := by decide +kernel
theorem dX10_count_60 : decode cX10_count 60 = .ok (.ireturn, 1) := by decide +kernel
theorem dX10_count_61 : decode cX10_count 61 = .ok (.aload_n 0, 1) := by decide +kernel
theorem dX10_count_62 : decode cX10_count 62 = .ok (.getfield 25, 3) := by decide +kernel
theorem dX10_count_65 : decode cX10_count 65 = .ok (.invokevirtual 164, 3) := by decide +kernel
theorem dX10_count_68 : decode cX10_count 68 = .ok (.ireturn, 1) := by decide +kernel
theorem dX10_count_69 : decode cX10_count 69 = .ok (.aload_n 0, 1) := by decide +kernel
theorem dX10_count_70 : decode cX10_count 70 = .ok (.getfield 32, 3) := by decide +kernel
theorem dX10_count_73 : decode cX10_count 73 = .ok (.invokevirtual 208, 3) := by decide +kernel
theorem dX10_count_76 : decode cX10_count 76 = .ok (.ireturn, 1) := by decide +kernel
theorem dX10_count_77 : decode cX10_count 77 = .ok (.aload_n 0, 1) := by decide +kernel
theorem dX10_count_78 : decode cX10_count 78 = .ok (.getfield 32, 3) := by decide +kernel
theorem dX10_count_81 : decode cX10_count 81 = .ok (.invokevirtual 211, 3) := by decide +kernel
theorem dX10_count_84 : decode cX10_count 84 = .ok (.ireturn, 1) := by decide +kernel
theorem dX10_count_85 : decode cX10_count 85 = .ok (.bipush (-2), 2) := by decide +kernel
theorem dX10_count_87 : decode cX10_count 87 = .ok (.ireturn, 1) := by decide +kernel
theorem dX10_digest_0 : decode cX10_digest 0 = .ok (.ldc2_w 214, 3) := by decide +kernel
theorem dX10_digest_3 : decode cX10_digest 3 = .ok (.lstore_n 1, 1) := by decide +kernel
theorem dX10_digest_4 : decode cX10_digest 4 = .ok (.iconst 0, 1) := by decide +kernel
theorem dX10_digest_5 : decode cX10_digest 5 = .ok (.istore_n 3, 1) := by decide +kernel
theorem dX10_digest_6 : decode cX10_digest 6 = .ok (.iload_n 3, 1) := by decide +kernel
theorem dX10_digest_7 : decode cX10_digest 7 = .ok (.iconst 5, 1) := by decide +kernel
theorem dX10_digest_8 : decode cX10_digest 8 = .ok (.if_icmp .gt 22, 3) := by decide +kernel
theorem dX10_digest_11 : decode cX10_digest 11 = .ok (.ldc2_w 216, 3) := by decide +kernel
theorem dX10_digest_14 : decode cX10_digest 14 = .ok (.lload_n 1, 1) := by decide +kernel
theorem dX10_digest_15 : decode cX10_digest 15 = .ok (.lmul, 1) := by decide +kernel
theorem dX10_digest_16 : decode cX10_digest 16 = .ok (.aload_n 0, 1) := by decide +kernel
theorem dX10_digest_17 : decode cX10_digest 17 = .ok (.iload_n 3, 1) := by decide +kernel
theorem dX10_digest_18 : decode cX10_digest 18 = .ok (.invokevirtual 218, 3) := by decide +kernel
theorem dX10_digest_21 : decode cX10_digest 21 = .ok (.i2l, 1) := by decide +kernel
theorem dX10_digest_22 : decode cX10_digest 22 = .ok (.ladd, 1) := by decide +kernel
theorem dX10_digest_23 : decode cX10_digest 23 = .ok (.lstore_n 1, 1) := by decide +kernel
theorem dX10_digest_24 : decode cX10_digest 24 = .ok (.iinc 3 1, 3) := by decide +kernel
theorem dX10_digest_27 : decode cX10_digest 27 = .ok (.goto (-21), 3) := by decide +kernel
theorem dX10_digest_30 : decode cX10_digest 30 = .ok (.iconst 0, 1) := by decide +kernel
theorem dX10_digest_31 : decode cX10_digest 31 = .ok (.istore_n 3, 1) := by decide +kernel
theorem dX10_digest_32 : decode cX10_digest 32 = .ok (.iload_n 3, 1) := by decide +kernel
theorem dX10_digest_33 : decode cX10_digest 33 = .ok (.bipush 12, 2) := by decide +kernel
theorem dX10_digest_35 : decode cX10_digest 35 = .ok (.if_icmp .ge 35, 3) := by decide +kernel
theorem dX10_digest_38 : decode cX10_digest 38 = .ok (.aload_n 0, 1) := by decide +kernel
theorem dX10_digest_39 : decode cX10_digest 39 = .ok (.iload_n 3, 1) := by decide +kernel
theorem dX10_digest_40 : decode cX10_digest 40 = .ok (.invokevirtual 67, 3) := by decide +kernel
theorem dX10_digest_43 : decode cX10_digest 43 = .ok (.ifCond .ne 21, 3) := by decide +kernel
theorem dX10_digest_46 : decode cX10_digest 46 = .ok (.aload_n 0, 1) := by decide +kernel
theorem dX10_digest_47 : decode cX10_digest 47 = .ok (.getfield 11, 3) := by decide +kernel
theorem dX10_digest_50 : decode cX10_digest 50 = .ok (.iload_n 3, 1) := by decide +kernel
theorem dX10_digest_51 : decode cX10_digest 51 = .ok (.aaload, 1) := by decide +kernel
theorem dX10_digest_52 : decode cX10_digest 52 = .ok (.ldc2_w 216, 3) := by decide +kernel
theorem dX10_digest_55 : decode cX10_digest 55 = .ok (.lload_n 1, 1) := by decide +kernel
theorem dX10_digest_56 : decode cX10_digest 56 = .ok (.lmul, 1) := by decide +kernel
theorem dX10_digest_57 : decode cX10_digest 57 = .ok (.iload_n 3, 1) := by decide +kernel
theorem dX10_digest_58 : decode cX10_digest 58 = .ok (.i2l, 1) := by decide +kernel
theorem dX10_digest_59 : decode cX10_digest 59 = .ok (.ladd, 1) := by decide +kernel
theorem dX10_digest_60 : decode cX10_digest 60 = .ok (.invokevirtual 221, 3) := by decide +kernel
theorem dX10_digest_63 : decode cX10_digest 63 = .ok (.lstore_n 1, 1) := by decide +kernel
theorem dX10_digest_64 : decode cX10_digest 64 = .ok (.iinc 3 1, 3) := by decide +kernel
theorem dX10_digest_67 : decode cX10_digest 67 = .ok (.goto (-35), 3) := by decide +kernel
theorem dX10_digest_70 : decode cX10_digest 70 = .ok (.aload_n 0, 1) := by decide +kernel
theorem dX10_digest_71 : decode cX10_digest 71 = .ok (.getfield 25, 3) := by decide +kernel
theorem dX10_digest_74 : decode cX10_digest 74 = .ok (.lload_n 1, 1) := by decide +kernel
theorem dX10_digest_75 : decode cX10_digest 75 = .ok (.invokevirtual 225, 3) := by decide +kernel
theorem dX10_digest_78 : decode cX10_digest 78 = .ok (.lreturn, 1) := by decide +kernel
theorem dX10_isSheet_0 : decode cX10_isSheet 0 = .ok (.iload_n 0, 1) := by decide +kernel
theorem dX10_isSheet_1 : decode cX10_isSheet 1 = .ok (.ifCond .lt 13, 3) := by decide +kernel
theorem dX10_isSheet_4 : decode cX10_isSheet 4 = .ok (.iload_n 0, 1) := by decide +kernel
theorem dX10_isSheet_5 : decode cX10_isSheet 5 = .ok (.bipush 12, 2) := by decide +kernel
theorem dX10_isSheet_7 : decode cX10_isSheet 7 = .ok (.if_icmp .ge 7, 3) := by decide +kernel
theorem dX10_isSheet_10 : decode cX10_isSheet 10 = .ok (.iconst 1, 1) := by decide +kernel
theorem dX10_isSheet_11 : decode cX10_isSheet 11 = .ok (.goto 4, 3) := by decide +kernel
theorem dX10_isSheet_14 : decode cX10_isSheet 14 = .ok (.iconst 0, 1) := by decide +kernel
theorem dX10_isSheet_15 : decode cX10_isSheet 15 = .ok (.ireturn, 1) := by decide +kernel
theorem dX10_isLost_0 : decode cX10_isLost 0 = .ok (.iload_n 1, 1) := by decide +kernel
theorem dX10_isLost_1 : decode cX10_isLost 1 = .ok (.invokestatic 60, 3) := by decide +kernel
theorem dX10_isLost_4 : decode cX10_isLost 4 = .ok (.ifCond .eq 15, 3) := by decide +kernel
theorem dX10_isLost_7 : decode cX10_isLost 7 = .ok (.aload_n 0, 1) := by decide +kernel
theorem dX10_isLost_8 : decode cX10_isLost 8 = .ok (.getfield 11, 3) := by decide +kernel
theorem dX10_isLost_11 : decode cX10_isLost 11 = .ok (.iload_n 1, 1) := by decide +kernel
theorem dX10_isLost_12 : decode cX10_isLost 12 = .ok (.aaload, 1) := by decide +kernel
theorem dX10_isLost_13 : decode cX10_isLost 13 = .ok (.invokevirtual 226, 3) := by decide +kernel
theorem dX10_isLost_16 : decode cX10_isLost 16 = .ok (.ifCond .ne 7, 3) := by decide +kernel
theorem dX10_isLost_19 : decode cX10_isLost 19 = .ok (.iconst 1, 1) := by decide +kernel
theorem dX10_isLost_20 : decode cX10_isLost 20 = .ok (.goto 4, 3) := by decide +kernel
theorem dX10_isLost_23 : decode cX10_isLost 23 = .ok (.iconst 0, 1) := by decide +kernel
theorem dX10_isLost_24 : decode cX10_isLost 24 = .ok (.ireturn, 1) := by decide +kernel
theorem dX10_keptSheets_0 : decode cX10_keptSheets 0 = .ok (.iconst 0, 1) := by decide +kernel
theorem dX10_keptSheets_1 : decode cX10_keptSheets 1 = .ok (.istore_n 1, 1) := by decide +kernel
theorem dX10_keptSheets_2 : decode cX10_keptSheets 2 = .ok (.iconst 0, 1) := by decide +kernel
theorem dX10_keptSheets_3 : decode cX10_keptSheets 3 = .ok (.istore_n 2, 1) := by decide +kernel
theorem dX10_keptSheets_4 : decode cX10_keptSheets 4 = .ok (.iload_n 2, 1) := by decide +kernel
theorem dX10_keptSheets_5 : decode cX10_keptSheets 5 = .ok (.bipush 12, 2) := by decide +kernel
theorem dX10_keptSheets_7 : decode cX10_keptSheets 7 = .ok (.if_icmp .ge 20, 3) := by decide +kernel
theorem dX10_keptSheets_10 : decode cX10_keptSheets 10 = .ok (.aload_n 0, 1) := by decide +kernel
theorem dX10_keptSheets_11 : decode cX10_keptSheets 11 = .ok (.iload_n 2, 1) := by decide +kernel
theorem dX10_keptSheets_12 : decode cX10_keptSheets 12 = .ok (.invokevirtual 67, 3) := by decide +kernel
theorem dX10_keptSheets_15 : decode cX10_keptSheets 15 = .ok (.ifCond .ne 6, 3) := by decide +kernel
theorem dX10_keptSheets_18 : decode cX10_keptSheets 18 = .ok (.iinc 1 1, 3) := by decide +kernel
theorem dX10_keptSheets_21 : decode cX10_keptSheets 21 = .ok (.iinc 2 1, 3) := by decide +kernel
theorem dX10_keptSheets_24 : decode cX10_keptSheets 24 = .ok (.goto (-20), 3) := by decide +kernel
theorem dX10_keptSheets_27 : decode cX10_keptSheets 27 = .ok (.iload_n 1, 1) := by decide +kernel
theorem dX10_keptSheets_28 : decode cX10_keptSheets 28 = .ok (.ireturn, 1) := by decide +kernel
theorem dX10_isBeyond_0 : decode cX10_isBeyond 0 = .ok (.lload_n 0, 1) := by decide +kernel
theorem dX10_isBeyond_1 : decode cX10_isBeyond 1 = .ok (.ldc2_w 230, 3) := by decide +kernel
theorem dX10_isBeyond_4 : decode cX10_isBeyond 4 = .ok (.lcmp, 1) := by decide +kernel
theorem dX10_isBeyond_5 : decode cX10_isBeyond 5 = .ok (.ifCond .lt 11, 3) := by decide +kernel
theorem dX10_isBeyond_8 : decode cX10_isBeyond 8 = .ok (.lload_n 0, 1) := by decide +kernel
theorem dX10_isBeyond_9 : decode cX10_isBeyond 9 = .ok (.ldc2_w 232, 3) := by decide +kernel
theorem dX10_isBeyond_12 : decode cX10_isBeyond 12 = .ok (.lcmp, 1) := by decide +kernel
theorem dX10_isBeyond_13 : decode cX10_isBeyond 13 = .ok (.ifCond .le 7, 3) := by decide +kernel
theorem dX10_isBeyond_16 : decode cX10_isBeyond 16 = .ok (.iconst 1, 1) := by decide +kernel
theorem dX10_isBeyond_17 : decode cX10_isBeyond 17 = .ok (.goto 4, 3) := by decide +kernel
theorem dX10_isBeyond_20 : decode cX10_isBeyond 20 = .ok (.iconst 0, 1) := by decide +kernel
theorem dX10_isBeyond_21 : decode cX10_isBeyond 21 = .ok (.ireturn, 1) := by decide +kernel
theorem dX10_areExponents_0 : decode cX10_areExponents 0 = .ok (.iload_n 0, 1) := by decide +kernel
theorem dX10_areExponents_1 : decode cX10_areExponents 1 = .ok (.ifCond .lt 9, 3) := by decide +kernel
theorem dX10_areExponents_4 : decode cX10_areExponents 4 = .ok (.iload_n 0, 1) := by decide +kernel
theorem dX10_areExponents_5 : decode cX10_areExponents 5 = .ok (.ldc 234, 2) := by decide +kernel
theorem dX10_areExponents_7 : decode cX10_areExponents 7 = .ok (.if_icmp .le 5, 3) := by decide +kernel
theorem dX10_areExponents_10 : decode cX10_areExponents 10 = .ok (.iconst 0, 1) := by decide +kernel
theorem dX10_areExponents_11 : decode cX10_areExponents 11 = .ok (.ireturn, 1) := by decide +kernel
theorem dX10_areExponents_12 : decode cX10_areExponents 12 = .ok (.iconst 1, 1) := by decide +kernel
theorem dX10_areExponents_13 : decode cX10_areExponents 13 = .ok (.istore_n 1, 1) := by decide +kernel
theorem dX10_areExponents_14 : decode cX10_areExponents 14 = .ok (.iload_n 1, 1) := by decide +kernel
theorem dX10_areExponents_15 : decode cX10_areExponents 15 = .ok (.iconst 5, 1) := by decide +kernel
theorem dX10_areExponents_16 : decode cX10_areExponents 16 = .ok (.if_icmp .gt 23, 3) := by decide +kernel
theorem dX10_areExponents_19 : decode cX10_areExponents 19 = .ok (.iload_n 0, 1) := by decide +kernel
theorem dX10_areExponents_20 : decode cX10_areExponents 20 = .ok (.iconst 5, 1) := by decide +kernel
theorem dX10_areExponents_21 : decode cX10_areExponents 21 = .ok (.iload_n 1, 1) := by decide +kernel
theorem dX10_areExponents_22 : decode cX10_areExponents 22 = .ok (.isub, 1) := by decide +kernel
theorem dX10_areExponents_23 : decode cX10_areExponents 23 = .ok (.invokestatic 235, 3) := by decide +kernel
theorem dX10_areExponents_26 : decode cX10_areExponents 26 = .ok (.bipush 8, 2) := by decide +kernel
theorem dX10_areExponents_28 : decode cX10_areExponents 28 = .ok (.if_icmp .le 5, 3) := by decide +kernel
theorem dX10_areExponents_31 : decode cX10_areExponents 31 = .ok (.iconst 0, 1) := by decide +kernel
theorem dX10_areExponents_32 : decode cX10_areExponents 32 = .ok (.ireturn, 1) := by decide +kernel
theorem dX10_areExponents_33 : decode cX10_areExponents 33 = .ok (.iinc 1 1, 3) := by decide +kernel
theorem dX10_areExponents_36 : decode cX10_areExponents 36 = .ok (.goto (-22), 3) := by decide +kernel
theorem dX10_areExponents_39 : decode cX10_areExponents 39 = .ok (.iconst 1, 1) := by decide +kernel
theorem dX10_areExponents_40 : decode cX10_areExponents 40 = .ok (.ireturn, 1) := by decide +kernel
theorem dX10_refusal_0 : decode cX10_refusal 0 = .ok (.ldc2_w 240, 3) := by decide +kernel
theorem dX10_refusal_3 : decode cX10_refusal 3 = .ok (.iload_n 0, 1) := by decide +kernel
theorem dX10_refusal_4 : decode cX10_refusal 4 = .ok (.i2l, 1) := by decide +kernel
theorem dX10_refusal_5 : decode cX10_refusal 5 = .ok (.lsub, 1) := by decide +kernel
theorem dX10_refusal_6 : decode cX10_refusal 6 = .ok (.lreturn, 1) := by decide +kernel
theorem dJ9_floorMod_0 : decode cJ9_floorMod_7cf53 0 = .ok (.iload_n 0, 1) := by decide +kernel
theorem dJ9_floorMod_1 : decode cJ9_floorMod_7cf53 1 = .ok (.iload_n 1, 1) := by decide +kernel
theorem dJ9_floorMod_2 : decode cJ9_floorMod_7cf53 2 = .ok (.irem, 1) := by decide +kernel
theorem dJ9_floorMod_3 : decode cJ9_floorMod_7cf53 3 = .ok (.istore_n 2, 1) := by decide +kernel
theorem dJ9_floorMod_4 : decode cJ9_floorMod_7cf53 4 = .ok (.iload_n 0, 1) := by decide +kernel
theorem dJ9_floorMod_5 : decode cJ9_floorMod_7cf53 5 = .ok (.iload_n 1, 1) := by decide +kernel
theorem dJ9_floorMod_6 : decode cJ9_floorMod_7cf53 6 = .ok (.ixor, 1) := by decide +kernel
theorem dJ9_floorMod_7 : decode cJ9_floorMod_7cf53 7 = .ok (.ifCond .ge 11, 3) := by decide +kernel
theorem dJ9_floorMod_10 : decode cJ9_floorMod_7cf53 10 = .ok (.iload_n 2, 1) := by decide +kernel
theorem dJ9_floorMod_11 : decode cJ9_floorMod_7cf53 11 = .ok (.ifCond .eq 7, 3) := by decide +kernel
theorem dJ9_floorMod_14 : decode cJ9_floorMod_7cf53 14 = .ok (.iload_n 2, 1) := by decide +kernel
theorem dJ9_floorMod_15 : decode cJ9_floorMod_7cf53 15 = .ok (.iload_n 1, 1) := by decide +kernel
theorem dJ9_floorMod_16 : decode cJ9_floorMod_7cf53 16 = .ok (.iadd, 1) := by decide +kernel
theorem dJ9_floorMod_17 : decode cJ9_floorMod_7cf53 17 = .ok (.ireturn, 1) := by decide +kernel
theorem dJ9_floorMod_18 : decode cJ9_floorMod_7cf53 18 = .ok (.iload_n 2, 1) := by decide +kernel
theorem dJ9_floorMod_19 : decode cJ9_floorMod_7cf53 19 = .ok (.ireturn, 1) := by decide +kernel
theorem dJ9_max_0 : decode cJ9_max_7cf53 0 = .ok (.iload_n 0, 1) := by decide +kernel
theorem dJ9_max_1 : decode cJ9_max_7cf53 1 = .ok (.iload_n 1, 1) := by decide +kernel
theorem dJ9_max_2 : decode cJ9_max_7cf53 2 = .ok (.if_icmp .lt 7, 3) := by decide +kernel
theorem dJ9_max_5 : decode cJ9_max_7cf53 5 = .ok (.iload_n 0, 1) := by decide +kernel
theorem dJ9_max_6 : decode cJ9_max_7cf53 6 = .ok (.goto 4, 3) := by decide +kernel
theorem dJ9_max_9 : decode cJ9_max_7cf53 9 = .ok (.iload_n 1, 1) := by decide +kernel
theorem dJ9_max_10 : decode cJ9_max_7cf53 10 = .ok (.ireturn, 1) := by decide +kernel
theorem dJ9_min_0 : decode cJ9_min_7cf53 0 = .ok (.iload_n 0, 1) := by decide +kernel
theorem dJ9_min_1 : decode cJ9_min_7cf53 1 = .ok (.iload_n 1, 1) := by decide +kernel
theorem dJ9_min_2 : decode cJ9_min_7cf53 2 = .ok (.if_icmp .gt 7, 3) := by decide +kernel
theorem dJ9_min_5 : decode cJ9_min_7cf53 5 = .ok (.iload_n 0, 1) := by decide +kernel
theorem dJ9_min_6 : decode cJ9_min_7cf53 6 = .ok (.goto 4, 3) := by decide +kernel
theorem dJ9_min_9 : decode cJ9_min_7cf53 9 = .ok (.iload_n 1, 1) := by decide +kernel
theorem dJ9_min_10 : decode cJ9_min_7cf53 10 = .ok (.ireturn, 1) := by decide +kernel
