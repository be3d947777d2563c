theorem dAK_init_0 : decode cAK_init 0 = .ok (.aload_n 0, 1) := by decide +kernel
theorem dAK_init_1 : decode cAK_init 1 = .ok (.invokespecial 3, 3) := by decide +kernel
theorem dAK_init_4 : decode cAK_init 4 = .ok (.aload_n 0, 1) := by decide +kernel
theorem dAK_init_5 : decode cAK_init 5 = .ok (.bipush 8, 2) := by decide +kernel
theorem dAK_init_7 : decode cAK_init 7 = .ok (.newarray .int, 2) := by decide +kernel
theorem dAK_init_9 : decode cAK_init 9 = .ok (.putfield 9, 3) := by decide +kernel
theorem dAK_init_12 : decode cAK_init 12 = .ok (.aload_n 0, 1) := by decide +kernel
theorem dAK_init_13 : decode cAK_init 13 = .ok (.bipush 8, 2) := by decide +kernel
theorem dAK_init_15 : decode cAK_init 15 = .ok (.newarray .int, 2) := by decide +kernel
theorem dAK_init_17 : decode cAK_init 17 = .ok (.putfield 15, 3) := by decide +kernel
theorem dAK_init_20 : decode cAK_init 20 = .ok (.aload_n 0, 1) := by decide +kernel
theorem dAK_init_21 : decode cAK_init 21 = .ok (.bipush 8, 2) := by decide +kernel
theorem dAK_init_23 : decode cAK_init 23 = .ok (.newarray .boolean, 2) := by decide +kernel
theorem dAK_init_25 : decode cAK_init 25 = .ok (.putfield 18, 3) := by decide +kernel
theorem dAK_init_28 : decode cAK_init 28 = .ok (.aload_n 0, 1) := by decide +kernel
theorem dAK_init_29 : decode cAK_init 29 = .ok (.iconst 0, 1) := by decide +kernel
theorem dAK_init_30 : decode cAK_init 30 = .ok (.putfield 22, 3) := by decide +kernel
theorem dAK_init_33 : decode cAK_init 33 = .ok (.return_, 1) := by decide +kernel
theorem dAK_size_0 : decode cAK_size 0 = .ok (.aload_n 0, 1) := by decide +kernel
theorem dAK_size_1 : decode cAK_size 1 = .ok (.getfield 22, 3) := by decide +kernel
theorem dAK_size_4 : decode cAK_size 4 = .ok (.ireturn, 1) := by decide +kernel
theorem dAK_kindAt_0 : decode cAK_kindAt 0 = .ok (.aload_n 0, 1) := by decide +kernel
theorem dAK_kindAt_1 : decode cAK_kindAt 1 = .ok (.getfield 9, 3) := by decide +kernel
theorem dAK_kindAt_4 : decode cAK_kindAt 4 = .ok (.iload_n 1, 1) := by decide +kernel
theorem dAK_kindAt_5 : decode cAK_kindAt 5 = .ok (.iaload, 1) := by decide +kernel
theorem dAK_kindAt_6 : decode cAK_kindAt 6 = .ok (.ireturn, 1) := by decide +kernel
theorem dAK_leastVersion_0 : decode cAK_leastVersion 0 = .ok (.aload_n 0, 1) := by decide +kernel
theorem dAK_leastVersion_1 : decode cAK_leastVersion 1 = .ok (.getfield 15, 3) := by decide +kernel
theorem dAK_leastVersion_4 : decode cAK_leastVersion 4 = .ok (.iload_n 1, 1) := by decide +kernel
theorem dAK_leastVersion_5 : decode cAK_leastVersion 5 = .ok (.iaload, 1) := by decide +kernel
theorem dAK_leastVersion_6 : decode cAK_leastVersion 6 = .ok (.ireturn, 1) := by decide +kernel
theorem dAK_isNeeded_0 : decode cAK_isNeeded 0 = .ok (.aload_n 0, 1) := by decide +kernel
theorem dAK_isNeeded_1 : decode cAK_isNeeded 1 = .ok (.getfield 18, 3) := by decide +kernel
theorem dAK_isNeeded_4 : decode cAK_isNeeded 4 = .ok (.iload_n 1, 1) := by decide +kernel
theorem dAK_isNeeded_5 : decode cAK_isNeeded 5 = .ok (.baload, 1) := by decide +kernel
theorem dAK_isNeeded_6 : decode cAK_isNeeded 6 = .ok (.ireturn, 1) := by decide +kernel
theorem dAK_find_0 : decode cAK_find 0 = .ok (.iconst 0, 1) := by decide +kernel
theorem dAK_find_1 : decode cAK_find 1 = .ok (.istore_n 2, 1) := by decide +kernel
theorem dAK_find_2 : decode cAK_find 2 = .ok (.iload_n 2, 1) := by decide +kernel
theorem dAK_find_3 : decode cAK_find 3 = .ok (.aload_n 0, 1) := by decide +kernel
theorem dAK_find_4 : decode cAK_find 4 = .ok (.getfield 22, 3) := by decide +kernel
theorem dAK_find_7 : decode cAK_find 7 = .ok (.if_icmp .ge 21, 3) := by decide +kernel
theorem dAK_find_10 : decode cAK_find 10 = .ok (.aload_n 0, 1) := by decide +kernel
theorem dAK_find_11 : decode cAK_find 11 = .ok (.getfield 9, 3) := by decide +kernel
theorem dAK_find_14 : decode cAK_find 14 = .ok (.iload_n 2, 1) := by decide +kernel
theorem dAK_find_15 : decode cAK_find 15 = .ok (.iaload, 1) := by decide +kernel
theorem dAK_find_16 : decode cAK_find 16 = .ok (.iload_n 1, 1) := by decide +kernel
theorem dAK_find_17 : decode cAK_find 17 = .ok (.if_icmp .ne 5, 3) := by decide +kernel
theorem dAK_find_20 : decode cAK_find 20 = .ok (.iload_n 2, 1) := by decide +kernel
theorem dAK_find_21 : decode cAK_find 21 = .ok (.ireturn, 1) := by decide +kernel
theorem dAK_find_22 : decode cAK_find 22 = .ok (.iinc 2 1, 3) := by decide +kernel
theorem dAK_find_25 : decode cAK_find 25 = .ok (.goto (-23), 3) := by decide +kernel
theorem dAK_find_28 : decode cAK_find 28 = .ok (.iconst (-1), 1) := by decide +kernel
theorem dAK_find_29 : decode cAK_find 29 = .ok (.ireturn, 1) := by decide +kernel
theorem dAK_put_0 : decode cAK_put 0 = .ok (.aload_n 0, 1) := by decide +kernel
theorem dAK_put_1 : decode cAK_put 1 = .ok (.iload_n 1, 1) := by decide +kernel
theorem dAK_put_2 : decode cAK_put 2 = .ok (.invokevirtual 26, 3) := by decide +kernel
theorem dAK_put_5 : decode cAK_put 5 = .ok (.iconst (-1), 1) := by decide +kernel
theorem dAK_put_6 : decode cAK_put 6 = .ok (.if_icmp .ne 32, 3) := by decide +kernel
theorem dAK_put_9 : decode cAK_put 9 = .ok (.aload_n 0, 1) := by decide +kernel
theorem dAK_put_10 : decode cAK_put 10 = .ok (.getfield 22, 3) := by decide +kernel
theorem dAK_put_13 : decode cAK_put 13 = .ok (.bipush 8, 2) := by decide +kernel
theorem dAK_put_15 : decode cAK_put 15 = .ok (.if_icmp .ge 23, 3) := by decide +kernel
theorem dAK_put_18 : decode cAK_put 18 = .ok (.aload_n 0, 1) := by decide +kernel
theorem dAK_put_19 : decode cAK_put 19 = .ok (.getfield 9, 3) := by decide +kernel
theorem dAK_put_22 : decode cAK_put 22 = .ok (.aload_n 0, 1) := by decide +kernel
theorem dAK_put_23 : decode cAK_put 23 = .ok (.getfield 22, 3) := by decide +kernel
theorem dAK_put_26 : decode cAK_put 26 = .ok (.iload_n 1, 1) := by decide +kernel
theorem dAK_put_27 : decode cAK_put 27 = .ok (.iastore, 1) := by decide +kernel
theorem dAK_put_28 : decode cAK_put 28 = .ok (.aload_n 0, 1) := by decide +kernel
theorem dAK_put_29 : decode cAK_put 29 = .ok (.dup, 1) := by decide +kernel
theorem dAK_put_30 : decode cAK_put 30 = .ok (.getfield 22, 3) := by decide +kernel
theorem dAK_put_33 : decode cAK_put 33 = .ok (.iconst 1, 1) := by decide +kernel
theorem dAK_put_34 : decode cAK_put 34 = .ok (.iadd, 1) := by decide +kernel
theorem dAK_put_35 : decode cAK_put 35 = .ok (.putfield 22, 3) := by decide +kernel
theorem dAK_put_38 : decode cAK_put 38 = .ok (.aload_n 0, 1) := by decide +kernel
theorem dAK_put_39 : decode cAK_put 39 = .ok (.getfield 15, 3) := by decide +kernel
theorem dAK_put_42 : decode cAK_put 42 = .ok (.iload_n 1, 1) := by decide +kernel
theorem dAK_put_43 : decode cAK_put 43 = .ok (.iload_n 2, 1) := by decide +kernel
theorem dAK_put_44 : decode cAK_put 44 = .ok (.iastore, 1) := by decide +kernel
theorem dAK_put_45 : decode cAK_put 45 = .ok (.aload_n 0, 1) := by decide +kernel
theorem dAK_put_46 : decode cAK_put 46 = .ok (.getfield 18, 3) := by decide +kernel
theorem dAK_put_49 : decode cAK_put 49 = .ok (.iload_n 1, 1) := by decide +kernel
theorem dAK_put_50 : decode cAK_put 50 = .ok (.iload_n 3, 1) := by decide +kernel
theorem dAK_put_51 : decode cAK_put 51 = .ok (.bastore, 1) := by decide +kernel
theorem dAK_put_52 : decode cAK_put 52 = .ok (.return_, 1) := by decide +kernel
theorem dAK_remove_0 : decode cAK_remove 0 = .ok (.aload_n 0, 1) := by decide +kernel
theorem dAK_remove_1 : decode cAK_remove 1 = .ok (.iload_n 1, 1) := by decide +kernel
theorem dAK_remove_2 : decode cAK_remove 2 = .ok (.invokevirtual 26, 3) := by decide +kernel
theorem dAK_remove_5 : decode cAK_remove 5 = .ok (.istore_n 2, 1) := by decide +kernel
theorem dAK_remove_6 : decode cAK_remove 6 = .ok (.iload_n 2, 1) := by decide +kernel
theorem dAK_remove_7 : decode cAK_remove 7 = .ok (.iconst (-1), 1) := by decide +kernel
theorem dAK_remove_8 : decode cAK_remove 8 = .ok (.if_icmp .ne 5, 3) := by decide +kernel
theorem dAK_remove_11 : decode cAK_remove 11 = .ok (.iconst 0, 1) := by decide +kernel
theorem dAK_remove_12 : decode cAK_remove 12 = .ok (.ireturn, 1) := by decide +kernel
theorem dAK_remove_13 : decode cAK_remove 13 = .ok (.aload_n 0, 1) := by decide +kernel
theorem dAK_remove_14 : decode cAK_remove 14 = .ok (.dup, 1) := by decide +kernel
theorem dAK_remove_15 : decode cAK_remove 15 = .ok (.getfield 22, 3) := by decide +kernel
theorem dAK_remove_18 : decode cAK_remove 18 = .ok (.iconst 1, 1) := by decide +kernel
theorem dAK_remove_19 : decode cAK_remove 19 = .ok (.isub, 1) := by decide +kernel
theorem dAK_remove_20 : decode cAK_remove 20 = .ok (.putfield 22, 3) := by decide +kernel
theorem dAK_remove_23 : decode cAK_remove 23 = .ok (.iload_n 2, 1) := by decide +kernel
theorem dAK_remove_24 : decode cAK_remove 24 = .ok (.istore_n 3, 1) := by decide +kernel
theorem dAK_remove_25 : decode cAK_remove 25 = .ok (.iload_n 3, 1) := by decide +kernel
theorem dAK_remove_26 : decode cAK_remove 26 = .ok (.aload_n 0, 1) := by decide +kernel
theorem dAK_remove_27 : decode cAK_remove 27 = .ok (.getfield 22, 3) := by decide +kernel
theorem dAK_remove_30 : decode cAK_remove 30 = .ok (.if_icmp .ge 23, 3) := by decide +kernel
theorem dAK_remove_33 : decode cAK_remove 33 = .ok (.aload_n 0, 1) := by decide +kernel
theorem dAK_remove_34 : decode cAK_remove 34 = .ok (.getfield 9, 3) := by decide +kernel
theorem dAK_remove_37 : decode cAK_remove 37 = .ok (.iload_n 3, 1) := by decide +kernel
theorem dAK_remove_38 : decode cAK_remove 38 = .ok (.aload_n 0, 1) := by decide +kernel
theorem dAK_remove_39 : decode cAK_remove 39 = .ok (.getfield 9, 3) := by decide +kernel
theorem dAK_remove_42 : decode cAK_remove 42 = .ok (.iload_n 3, 1) := by decide +kernel
theorem dAK_remove_43 : decode cAK_remove 43 = .ok (.iconst 1, 1) := by decide +kernel
theorem dAK_remove_44 : decode cAK_remove 44 = .ok (.iadd, 1) := by decide +kernel
theorem dAK_remove_45 : decode cAK_remove 45 = .ok (.iaload, 1) := by decide +kernel
theorem dAK_remove_46 : decode cAK_remove 46 = .ok (.iastore, 1) := by decide +kernel
theorem dAK_remove_47 : decode cAK_remove 47 = .ok (.iinc 3 1, 3) := by decide +kernel
theorem dAK_remove_50 : decode cAK_remove 50 = .ok (.goto (-25), 3) := by decide +kernel
theorem dAK_remove_53 : decode cAK_remove 53 = .ok (.iconst 1, 1) := by decide +kernel
theorem dAK_remove_54 : decode cAK_remove 54 = .ok (.ireturn, 1) := by decide +kernel
theorem dRO_init_0 : decode cRO_init 0 = .ok (.aload_n 0, 1) := by decide +kernel
theorem dRO_init_1 : decode cRO_init 1 = .ok (.invokespecial 3, 3) := by decide +kernel
theorem dRO_init_4 : decode cRO_init 4 = .ok (.aload_n 0, 1) := by decide +kernel
theorem dRO_init_5 : decode cRO_init 5 = .ok (.sipush 576, 3) := by decide +kernel
theorem dRO_init_8 : decode cRO_init 8 = .ok (.newarray .int, 2) := by decide +kernel
theorem dRO_init_10 : decode cRO_init 10 = .ok (.putfield 11, 3) := by decide +kernel
theorem dRO_init_13 : decode cRO_init 13 = .ok (.aload_n 0, 1) := by decide +kernel
theorem dRO_init_14 : decode cRO_init 14 = .ok (.iconst 0, 1) := by decide +kernel
theorem dRO_init_15 : decode cRO_init 15 = .ok (.putfield 15, 3) := by decide +kernel
theorem dRO_init_18 : decode cRO_init 18 = .ok (.return_, 1) := by decide +kernel
theorem dRO_clear_0 : decode cRO_clear 0 = .ok (.aload_n 0, 1) := by decide +kernel
theorem dRO_clear_1 : decode cRO_clear 1 = .ok (.iconst 0, 1) := by decide +kernel
theorem dRO_clear_2 : decode cRO_clear 2 = .ok (.putfield 15, 3) := by decide +kernel
theorem dRO_clear_5 : decode cRO_clear 5 = .ok (.return_, 1) := by decide +kernel
theorem dRO_size_0 : decode cRO_size 0 = .ok (.aload_n 0, 1) := by decide +kernel
theorem dRO_size_1 : decode cRO_size 1 = .ok (.getfield 15, 3) := by decide +kernel
theorem dRO_size_4 : decode cRO_size 4 = .ok (.ireturn, 1) := by decide +kernel
theorem dRO_add_0 : decode cRO_add 0 = .ok (.aload_n 0, 1) := by decide +kernel
theorem dRO_add_1 : decode cRO_add 1 = .ok (.getfield 15, 3) := by decide +kernel
theorem dRO_add_4 : decode cRO_add 4 = .ok (.sipush 144, 3) := by decide +kernel
theorem dRO_add_7 : decode cRO_add 7 = .ok (.if_icmp .lt 4, 3) := by decide +kernel
theorem dRO_add_10 : decode cRO_add 10 = .ok (.return_, 1) := by decide +kernel
theorem dRO_add_11 : decode cRO_add 11 = .ok (.aload_n 0, 1) := by decide +kernel
theorem dRO_add_12 : decode cRO_add 12 = .ok (.getfield 15, 3) := by decide +kernel
theorem dRO_add_15 : decode cRO_add 15 = .ok (.iconst 4, 1) := by decide +kernel
theorem dRO_add_16 : decode cRO_add 16 = .ok (.imul, 1) := by decide +kernel
theorem dRO_add_17 : decode cRO_add 17 = .ok (.istore 5, 2) := by decide +kernel
theorem dRO_add_19 : decode cRO_add 19 = .ok (.aload_n 0, 1) := by decide +kernel
theorem dRO_add_20 : decode cRO_add 20 = .ok (.getfield 11, 3) := by decide +kernel
theorem dRO_add_23 : decode cRO_add 23 = .ok (.iload 5, 2) := by decide +kernel
theorem dRO_add_25 : decode cRO_add 25 = .ok (.iload_n 1, 1) := by decide +kernel
theorem dRO_add_26 : decode cRO_add 26 = .ok (.iastore, 1) := by decide +kernel
theorem dRO_add_27 : decode cRO_add 27 = .ok (.aload_n 0, 1) := by decide +kernel
theorem dRO_add_28 : decode cRO_add 28 = .ok (.getfield 11, 3) := by decide +kernel
theorem dRO_add_31 : decode cRO_add 31 = .ok (.iload 5, 2) := by decide +kernel
theorem dRO_add_33 : decode cRO_add 33 = .ok (.iconst 1, 1) := by decide +kernel
theorem dRO_add_34 : decode cRO_add 34 = .ok (.iadd, 1) := by decide +kernel
theorem dRO_add_35 : decode cRO_add 35 = .ok (.iload_n 2, 1) := by decide +kernel
theorem dRO_add_36 : decode cRO_add 36 = .ok (.iastore, 1) := by decide +kernel
theorem dRO_add_37 : decode cRO_add 37 = .ok (.aload_n 0, 1) := by decide +kernel
theorem dRO_add_38 : decode cRO_add 38 = .ok (.getfield 11, 3) := by decide +kernel
theorem dRO_add_41 : decode cRO_add 41 = .ok (.iload 5, 2) := by decide +kernel
theorem dRO_add_43 : decode cRO_add 43 = .ok (.iconst 2, 1) := by decide +kernel
theorem dRO_add_44 : decode cRO_add 44 = .ok (.iadd, 1) := by decide +kernel
theorem dRO_add_45 : decode cRO_add 45 = .ok (.iload_n 3, 1) := by decide +kernel
theorem dRO_add_46 : decode cRO_add 46 = .ok (.iastore, 1) := by decide +kernel
theorem dRO_add_47 : decode cRO_add 47 = .ok (.aload_n 0, 1) := by decide +kernel
theorem dRO_add_48 : decode cRO_add 48 = .ok (.getfield 11, 3) := by decide +kernel
theorem dRO_add_51 : decode cRO_add 51 = .ok (.iload 5, 2) := by decide +kernel
theorem dRO_add_53 : decode cRO_add 53 = .ok (.iconst 3, 1) := by decide +kernel
theorem dRO_add_54 : decode cRO_add 54 = .ok (.iadd, 1) := by decide +kernel
theorem dRO_add_55 : decode cRO_add 55 = .ok (.iload 4, 2) := by decide +kernel
theorem dRO_add_57 : decode cRO_add 57 = .ok (.iastore, 1) := by decide +kernel
theorem dRO_add_58 : decode cRO_add 58 = .ok (.aload_n 0, 1) := by decide +kernel
theorem dRO_add_59 : decode cRO_add 59 = .ok (.dup, 1) := by decide +kernel
theorem dRO_add_60 : decode cRO_add 60 = .ok (.getfield 15, 3) := by decide +kernel
theorem dRO_add_63 : decode cRO_add 63 = .ok (.iconst 1, 1) := by decide +kernel
theorem dRO_add_64 : decode cRO_add 64 = .ok (.iadd, 1) := by decide +kernel
theorem dRO_add_65 : decode cRO_add 65 = .ok (.putfield 15, 3) := by decide +kernel
theorem dRO_add_68 : decode cRO_add 68 = .ok (.return_, 1) := by decide +kernel
theorem dRO_cell_0 : decode cRO_cell 0 = .ok (.iload_n 1, 1) := by decide +kernel
theorem dRO_cell_1 : decode cRO_cell 1 = .ok (.ifCond .lt 20, 3) := by decide +kernel
theorem dRO_cell_4 : decode cRO_cell 4 = .ok (.iload_n 1, 1) := by decide +kernel
theorem dRO_cell_5 : decode cRO_cell 5 = .ok (.aload_n 0, 1) := by decide +kernel
theorem dRO_cell_6 : decode cRO_cell 6 = .ok (.getfield 15, 3) := by decide +kernel
theorem dRO_cell_9 : decode cRO_cell 9 = .ok (.if_icmp .ge 12, 3) := by decide +kernel
theorem dRO_cell_12 : decode cRO_cell 12 = .ok (.iload_n 2, 1) := by decide +kernel
theorem dRO_cell_13 : decode cRO_cell 13 = .ok (.ifCond .lt 8, 3) := by decide +kernel
theorem dRO_cell_16 : decode cRO_cell 16 = .ok (.iload_n 2, 1) := by decide +kernel
theorem dRO_cell_17 : decode cRO_cell 17 = .ok (.iconst 4, 1) := by decide +kernel
theorem dRO_cell_18 : decode cRO_cell 18 = .ok (.if_icmp .lt 5, 3) := by decide +kernel
theorem dRO_cell_21 : decode cRO_cell 21 = .ok (.iconst (-1), 1) := by decide +kernel
theorem dRO_cell_22 : decode cRO_cell 22 = .ok (.ireturn, 1) := by decide +kernel
theorem dRO_cell_23 : decode cRO_cell 23 = .ok (.aload_n 0, 1) := by decide +kernel
theorem dRO_cell_24 : decode cRO_cell 24 = .ok (.getfield 11, 3) := by decide +kernel
theorem dRO_cell_27 : decode cRO_cell 27 = .ok (.iload_n 1, 1) := by decide +kernel
theorem dRO_cell_28 : decode cRO_cell 28 = .ok (.iconst 4, 1) := by decide +kernel
theorem dRO_cell_29 : decode cRO_cell 29 = .ok (.imul, 1) := by decide +kernel
theorem dRO_cell_30 : decode cRO_cell 30 = .ok (.iload_n 2, 1) := by decide +kernel
theorem dRO_cell_31 : decode cRO_cell 31 = .ok (.iadd, 1) := by decide +kernel
theorem dRO_cell_32 : decode cRO_cell 32 = .ok (.iaload, 1) := by decide +kernel
theorem dRO_cell_33 : decode cRO_cell 33 = .ok (.ireturn, 1) := by decide +kernel
theorem dAR_fill_0 : decode cAR_fill 0 = .ok (.iconst 0, 1) := by decide +kernel
theorem dAR_fill_1 : decode cAR_fill 1 = .ok (.istore_n 2, 1) := by decide +kernel
theorem dAR_fill_2 : decode cAR_fill 2 = .ok (.aload_n 0, 1) := by decide +kernel
theorem dAR_fill_3 : decode cAR_fill 3 = .ok (.arraylength, 1) := by decide +kernel
theorem dAR_fill_4 : decode cAR_fill 4 = .ok (.istore_n 3, 1) := by decide +kernel
theorem dAR_fill_5 : decode cAR_fill 5 = .ok (.iload_n 2, 1) := by decide +kernel
theorem dAR_fill_6 : decode cAR_fill 6 = .ok (.iload_n 3, 1) := by decide +kernel
theorem dAR_fill_7 : decode cAR_fill 7 = .ok (.if_icmp .ge 13, 3) := by decide +kernel
theorem dAR_fill_10 : decode cAR_fill 10 = .ok (.aload_n 0, 1) := by decide +kernel
theorem dAR_fill_11 : decode cAR_fill 11 = .ok (.iload_n 2, 1) := by decide +kernel
theorem dAR_fill_12 : decode cAR_fill 12 = .ok (.iload_n 1, 1) := by decide +kernel
theorem dAR_fill_13 : decode cAR_fill 13 = .ok (.iastore, 1) := by decide +kernel
theorem dAR_fill_14 : decode cAR_fill 14 = .ok (.iinc 2 1, 3) := by decide +kernel
theorem dAR_fill_17 : decode cAR_fill 17 = .ok (.goto (-12), 3) := by decide +kernel
theorem dAR_fill_20 : decode cAR_fill 20 = .ok (.return_, 1) := by decide +kernel
theorem dTC_init_0 : decode cTC_init 0 = .ok (.aload_n 0, 1) := by decide +kernel
theorem dTC_init_1 : decode cTC_init 1 = .ok (.invokespecial 3, 3) := by decide +kernel
theorem dTC_init_4 : decode cTC_init 4 = .ok (.aload_n 0, 1) := by decide +kernel
theorem dTC_init_5 : decode cTC_init 5 = .ok (.bipush 6, 2) := by decide +kernel
theorem dTC_init_7 : decode cTC_init 7 = .ok (.newarray .int, 2) := by decide +kernel
theorem dTC_init_9 : decode cTC_init 9 = .ok (.putfield 9, 3) := by decide +kernel
theorem dTC_init_12 : decode cTC_init 12 = .ok (.aload_n 0, 1) := by decide +kernel
theorem dTC_init_13 : decode cTC_init 13 = .ok (.iconst 0, 1) := by decide +kernel
theorem dTC_init_14 : decode cTC_init 14 = .ok (.putfield 13, 3) := by decide +kernel
theorem dTC_init_17 : decode cTC_init 17 = .ok (.aload_n 0, 1) := by decide +kernel
theorem dTC_init_18 : decode cTC_init 18 = .ok (.bipush 24, 2) := by decide +kernel
theorem dTC_init_20 : decode cTC_init 20 = .ok (.newarray .int, 2) := by decide +kernel
theorem dTC_init_22 : decode cTC_init 22 = .ok (.putfield 17, 3) := by decide +kernel
theorem dTC_init_25 : decode cTC_init 25 = .ok (.aload_n 0, 1) := by decide +kernel
theorem dTC_init_26 : decode cTC_init 26 = .ok (.bipush 24, 2) := by decide +kernel
theorem dTC_init_28 : decode cTC_init 28 = .ok (.newarray .int, 2) := by decide +kernel
theorem dTC_init_30 : decode cTC_init 30 = .ok (.putfield 20, 3) := by decide +kernel
theorem dTC_init_33 : decode cTC_init 33 = .ok (.aload_n 0, 1) := by decide +kernel
theorem dTC_init_34 : decode cTC_init 34 = .ok (.bipush 24, 2) := by decide +kernel
theorem dTC_init_36 : decode cTC_init 36 = .ok (.newarray .int, 2) := by decide +kernel
theorem dTC_init_38 : decode cTC_init 38 = .ok (.putfield 23, 3) := by decide +kernel
theorem dTC_init_41 : decode cTC_init 41 = .ok (.aload_n 0, 1) := by decide +kernel
theorem dTC_init_42 : decode cTC_init 42 = .ok (.bipush 24, 2) := by decide +kernel
theorem dTC_init_44 : decode cTC_init 44 = .ok (.newarray .int, 2) := by decide +kernel
theorem dTC_init_46 : decode cTC_init 46 = .ok (.putfield 26, 3) := by decide +kernel
theorem dTC_init_49 : decode cTC_init 49 = .ok (.aload_n 0, 1) := by decide +kernel
theorem dTC_init_50 : decode cTC_init 50 = .ok (.bipush 24, 2) := by decide +kernel
theorem dTC_init_52 : decode cTC_init 52 = .ok (.newarray .int, 2) := by decide +kernel
theorem dTC_init_54 : decode cTC_init 54 = .ok (.putfield 29, 3) := by decide +kernel
theorem dTC_init_57 : decode cTC_init 57 = .ok (.aload_n 0, 1) := by decide +kernel
theorem dTC_init_58 : decode cTC_init 58 = .ok (.bipush 24, 2) := by decide +kernel
theorem dTC_init_60 : decode cTC_init 60 = .ok (.newarray .int, 2) := by decide +kernel
theorem dTC_init_62 : decode cTC_init 62 = .ok (.putfield 32, 3) := by decide +kernel
theorem dTC_init_65 : decode cTC_init 65 = .ok (.aload_n 0, 1) := by decide +kernel
theorem dTC_init_66 : decode cTC_init 66 = .ok (.iconst 0, 1) := by decide +kernel
theorem dTC_init_67 : decode cTC_init 67 = .ok (.putfield 35, 3) := by decide +kernel
theorem dTC_init_70 : decode cTC_init 70 = .ok (.aload_n 0, 1) := by decide +kernel
theorem dTC_init_71 : decode cTC_init 71 = .ok (.iconst 0, 1) := by decide +kernel
theorem dTC_init_72 : decode cTC_init 72 = .ok (.putfield 38, 3) := by decide +kernel
theorem dTC_init_75 : decode cTC_init 75 = .ok (.aload_n 0, 1) := by decide +kernel
theorem dTC_init_76 : decode cTC_init 76 = .ok (.new 41, 3) := by decide +kernel
theorem dTC_init_79 : decode cTC_init 79 = .ok (.dup, 1) := by decide +kernel
theorem dTC_init_80 : decode cTC_init 80 = .ok (.invokespecial 43, 3) := by decide +kernel
theorem dTC_init_83 : decode cTC_init 83 = .ok (.putfield 44, 3) := by decide +kernel
theorem dTC_init_86 : decode cTC_init 86 = .ok (.aload_n 0, 1) := by decide +kernel
theorem dTC_init_87 : decode cTC_init 87 = .ok (.bipush 8, 2) := by decide +kernel
theorem dTC_init_89 : decode cTC_init 89 = .ok (.newarray .int, 2) := by decide +kernel
theorem dTC_init_91 : decode cTC_init 91 = .ok (.putfield 48, 3) := by decide +kernel
theorem dTC_init_94 : decode cTC_init 94 = .ok (.aload_n 0, 1) := by decide +kernel
theorem dTC_init_95 : decode cTC_init 95 = .ok (.bipush 8, 2) := by decide +kernel
theorem dTC_init_97 : decode cTC_init 97 = .ok (.newarray .int, 2) := by decide +kernel
theorem dTC_init_99 : decode cTC_init 99 = .ok (.putfield 51, 3) := by decide +kernel
theorem dTC_init_102 : decode cTC_init 102 = .ok (.aload_n 0, 1) := by decide +kernel
theorem dTC_init_103 : decode cTC_init 103 = .ok (.new 54, 3) := by decide +kernel
theorem dTC_init_106 : decode cTC_init 106 = .ok (.dup, 1) := by decide +kernel
theorem dTC_init_107 : decode cTC_init 107 = .ok (.invokespecial 56, 3) := by decide +kernel
theorem dTC_init_110 : decode cTC_init 110 = .ok (.putfield 57, 3) := by decide +kernel
theorem dTC_init_113 : decode cTC_init 113 = .ok (.aload_n 0, 1) := by decide +kernel
theorem dTC_init_114 : decode cTC_init 114 = .ok (.bipush 24, 2) := by decide +kernel
theorem dTC_init_116 : decode cTC_init 116 = .ok (.newarray .int, 2) := by decide +kernel
theorem dTC_init_118 : decode cTC_init 118 = .ok (.putfield 61, 3) := by decide +kernel
theorem dTC_init_121 : decode cTC_init 121 = .ok (.aload_n 0, 1) := by decide +kernel
theorem dTC_init_122 : decode cTC_init 122 = .ok (.bipush 24, 2) := by decide +kernel
theorem dTC_init_124 : decode cTC_init 124 = .ok (.newarray .int, 2) := by decide +kernel
theorem dTC_init_126 : decode cTC_init 126 = .ok (.putfield 64, 3) := by decide +kernel
theorem dTC_init_129 : decode cTC_init 129 = .ok (.aload_n 0, 1) := by decide +kernel
theorem dTC_init_130 : decode cTC_init 130 = .ok (.bipush 24, 2) := by decide +kernel
theorem dTC_init_132 : decode cTC_init 132 = .ok (.newarray .int, 2) := by decide +kernel
theorem dTC_init_134 : decode cTC_init 134 = .ok (.putfield 67, 3) := by decide +kernel
theorem dTC_init_137 : decode cTC_init 137 = .ok (.aload_n 0, 1) := by decide +kernel
theorem dTC_init_138 : decode cTC_init 138 = .ok (.bipush 8, 2) := by decide +kernel
theorem dTC_init_140 : decode cTC_init 140 = .ok (.newarray .int, 2) := by decide +kernel
theorem dTC_init_142 : decode cTC_init 142 = .ok (.putfield 70, 3) := by decide +kernel
theorem dTC_init_145 : decode cTC_init 145 = .ok (.aload_n 0, 1) := by decide +kernel
theorem dTC_init_146 : decode cTC_init 146 = .ok (.bipush 24, 2) := by decide +kernel
theorem dTC_init_148 : decode cTC_init 148 = .ok (.newarray .int, 2) := by decide +kernel
theorem dTC_init_150 : decode cTC_init 150 = .ok (.putfield 73, 3) := by decide +kernel
theorem dTC_init_153 : decode cTC_init 153 = .ok (.aload_n 0, 1) := by decide +kernel
theorem dTC_init_154 : decode cTC_init 154 = .ok (.getfield 48, 3) := by decide +kernel
theorem dTC_init_157 : decode cTC_init 157 = .ok (.iconst (-1), 1) := by decide +kernel
theorem dTC_init_158 : decode cTC_init 158 = .ok (.invokestatic 76, 3) := by decide +kernel
theorem dTC_init_161 : decode cTC_init 161 = .ok (.aload_n 0, 1) := by decide +kernel
theorem dTC_init_162 : decode cTC_init 162 = .ok (.getfield 51, 3) := by decide +kernel
theorem dTC_init_165 : decode cTC_init 165 = .ok (.iconst (-1), 1) := by decide +kernel
theorem dTC_init_166 : decode cTC_init 166 = .ok (.invokestatic 76, 3) := by decide +kernel
theorem dTC_init_169 : decode cTC_init 169 = .ok (.return_, 1) := by decide +kernel
theorem dTC_platform_0 : decode cTC_platform 0 = .ok (.aload_n 0, 1) := by decide +kernel
theorem dTC_platform_1 : decode cTC_platform 1 = .ok (.getfield 13, 3) := by decide +kernel
theorem dTC_platform_4 : decode cTC_platform 4 = .ok (.bipush 6, 2) := by decide +kernel
theorem dTC_platform_6 : decode cTC_platform 6 = .ok (.if_icmp .lt 5, 3) := by decide +kernel
theorem dTC_platform_9 : decode cTC_platform 9 = .ok (.iconst (-1), 1) := by decide +kernel
theorem dTC_platform_10 : decode cTC_platform 10 = .ok (.ireturn, 1) := by decide +kernel
theorem dTC_platform_11 : decode cTC_platform 11 = .ok (.aload_n 0, 1) := by decide +kernel
theorem dTC_platform_12 : decode cTC_platform 12 = .ok (.getfield 9, 3) := by decide +kernel
theorem dTC_platform_15 : decode cTC_platform 15 = .ok (.aload_n 0, 1) := by decide +kernel
theorem dTC_platform_16 : decode cTC_platform 16 = .ok (.getfield 13, 3) := by decide +kernel
theorem dTC_platform_19 : decode cTC_platform 19 = .ok (.iload_n 1, 1) := by decide +kernel
theorem dTC_platform_20 : decode cTC_platform 20 = .ok (.iastore, 1) := by decide +kernel
theorem dTC_platform_21 : decode cTC_platform 21 = .ok (.aload_n 0, 1) := by decide +kernel
theorem dTC_platform_22 : decode cTC_platform 22 = .ok (.dup, 1) := by decide +kernel
theorem dTC_platform_23 : decode cTC_platform 23 = .ok (.getfield 13, 3) := by decide +kernel
theorem dTC_platform_26 : decode cTC_platform 26 = .ok (.iconst 1, 1) := by decide +kernel
theorem dTC_platform_27 : decode cTC_platform 27 = .ok (.iadd, 1) := by decide +kernel
theorem dTC_platform_28 : decode cTC_platform 28 = .ok (.putfield 13, 3) := by decide +kernel
theorem dTC_platform_31 : decode cTC_platform 31 = .ok (.aload_n 0, 1) := by decide +kernel
theorem dTC_platform_32 : decode cTC_platform 32 = .ok (.getfield 13, 3) := by decide +kernel
theorem dTC_platform_35 : decode cTC_platform 35 = .ok (.iconst 1, 1) := by decide +kernel
theorem dTC_platform_36 : decode cTC_platform 36 = .ok (.isub, 1) := by decide +kernel
theorem dTC_platform_37 : decode cTC_platform 37 = .ok (.ireturn, 1) := by decide +kernel
theorem dTC_tool_0 : decode cTC_tool 0 = .ok (.aload_n 0, 1) := by decide +kernel
theorem dTC_tool_1 : decode cTC_tool 1 = .ok (.getfield 35, 3) := by decide +kernel
theorem dTC_tool_4 : decode cTC_tool 4 = .ok (.bipush 24, 2) := by decide +kernel
theorem dTC_tool_6 : decode cTC_tool 6 = .ok (.if_icmp .ge 10, 3) := by decide +kernel
theorem dTC_tool_9 : decode cTC_tool 9 = .ok (.iload_n 1, 1) := by decide +kernel
theorem dTC_tool_10 : decode cTC_tool 10 = .ok (.invokestatic 82, 3) := by decide +kernel
theorem dTC_tool_13 : decode cTC_tool 13 = .ok (.ifCond .ne 5, 3) := by decide +kernel
theorem dTC_tool_16 : decode cTC_tool 16 = .ok (.iconst (-1), 1) := by decide +kernel
theorem dTC_tool_17 : decode cTC_tool 17 = .ok (.ireturn, 1) := by decide +kernel
theorem dTC_tool_18 : decode cTC_tool 18 = .ok (.aload_n 0, 1) := by decide +kernel
theorem dTC_tool_19 : decode cTC_tool 19 = .ok (.getfield 35, 3) := by decide +kernel
theorem dTC_tool_22 : decode cTC_tool 22 = .ok (.istore 5, 2) := by decide +kernel
theorem dTC_tool_24 : decode cTC_tool 24 = .ok (.aload_n 0, 1) := by decide +kernel
theorem dTC_tool_25 : decode cTC_tool 25 = .ok (.getfield 17, 3) := by decide +kernel
theorem dTC_tool_28 : decode cTC_tool 28 = .ok (.iload 5, 2) := by decide +kernel
theorem dTC_tool_30 : decode cTC_tool 30 = .ok (.iload_n 1, 1) := by decide +kernel
theorem dTC_tool_31 : decode cTC_tool 31 = .ok (.iastore, 1) := by decide +kernel
theorem dTC_tool_32 : decode cTC_tool 32 = .ok (.aload_n 0, 1) := by decide +kernel
theorem dTC_tool_33 : decode cTC_tool 33 = .ok (.getfield 20, 3) := by decide +kernel
theorem dTC_tool_36 : decode cTC_tool 36 = .ok (.iload 5, 2) := by decide +kernel
theorem dTC_tool_38 : decode cTC_tool 38 = .ok (.iload_n 2, 1) := by decide +kernel
theorem dTC_tool_39 : decode cTC_tool 39 = .ok (.iastore, 1) := by decide +kernel
theorem dTC_tool_40 : decode cTC_tool 40 = .ok (.aload_n 0, 1) := by decide +kernel
theorem dTC_tool_41 : decode cTC_tool 41 = .ok (.getfield 23, 3) := by decide +kernel
theorem dTC_tool_44 : decode cTC_tool 44 = .ok (.iload 5, 2) := by decide +kernel
theorem dTC_tool_46 : decode cTC_tool 46 = .ok (.iload_n 3, 1) := by decide +kernel
theorem dTC_tool_47 : decode cTC_tool 47 = .ok (.iastore, 1) := by decide +kernel
theorem dTC_tool_48 : decode cTC_tool 48 = .ok (.aload_n 0, 1) := by decide +kernel
theorem dTC_tool_49 : decode cTC_tool 49 = .ok (.getfield 26, 3) := by decide +kernel
theorem dTC_tool_52 : decode cTC_tool 52 = .ok (.iload 5, 2) := by decide +kernel
theorem dTC_tool_54 : decode cTC_tool 54 = .ok (.iload 4, 2) := by decide +kernel
theorem dTC_tool_56 : decode cTC_tool 56 = .ok (.iastore, 1) := by decide +kernel
theorem dTC_tool_57 : decode cTC_tool 57 = .ok (.aload_n 0, 1) := by decide +kernel
theorem dTC_tool_58 : decode cTC_tool 58 = .ok (.getfield 32, 3) := by decide +kernel
theorem dTC_tool_61 : decode cTC_tool 61 = .ok (.iload 5, 2) := by decide +kernel
theorem dTC_tool_63 : decode cTC_tool 63 = .ok (.iload 5, 2) := by decide +kernel
theorem dTC_tool_65 : decode cTC_tool 65 = .ok (.iastore, 1) := by decide +kernel
theorem dTC_tool_66 : decode cTC_tool 66 = .ok (.aload_n 0, 1) := by decide +kernel
theorem dTC_tool_67 : decode cTC_tool 67 = .ok (.dup, 1) := by decide +kernel
theorem dTC_tool_68 : decode cTC_tool 68 = .ok (.getfield 35, 3) := by decide +kernel
theorem dTC_tool_71 : decode cTC_tool 71 = .ok (.iconst 1, 1) := by decide +kernel
theorem dTC_tool_72 : decode cTC_tool 72 = .ok (.iadd, 1) := by decide +kernel
theorem dTC_tool_73 : decode cTC_tool 73 = .ok (.putfield 35, 3) := by decide +kernel
theorem dTC_tool_76 : decode cTC_tool 76 = .ok (.iload 5, 2) := by decide +kernel
theorem dTC_tool_78 : decode cTC_tool 78 = .ok (.ireturn, 1) := by decide +kernel
theorem dTC_order_0 : decode cTC_order 0 = .ok (.aload_n 0, 1) := by decide +kernel
theorem dTC_order_1 : decode cTC_order 1 = .ok (.iload_n 1, 1) := by decide +kernel
theorem dTC_order_2 : decode cTC_order 2 = .ok (.invokevirtual 86, 3) := by decide +kernel
theorem dTC_order_5 : decode cTC_order 5 = .ok (.ifCond .eq 15, 3) := by decide +kernel
theorem dTC_order_8 : decode cTC_order 8 = .ok (.iload_n 2, 1) := by decide +kernel
theorem dTC_order_9 : decode cTC_order 9 = .ok (.ifCond .lt 11, 3) := by decide +kernel
theorem dTC_order_12 : decode cTC_order 12 = .ok (.iload_n 2, 1) := by decide +kernel
theorem dTC_order_13 : decode cTC_order 13 = .ok (.aload_n 0, 1) := by decide +kernel
theorem dTC_order_14 : decode cTC_order 14 = .ok (.getfield 35, 3) := by decide +kernel
theorem dTC_order_17 : decode cTC_order 17 = .ok (.if_icmp .lt 5, 3) := by decide +kernel
theorem dTC_order_20 : decode cTC_order 20 = .ok (.iconst 0, 1) := by decide +kernel
theorem dTC_order_21 : decode cTC_order 21 = .ok (.ireturn, 1) := by decide +kernel
theorem dTC_order_22 : decode cTC_order 22 = .ok (.aload_n 0, 1) := by decide +kernel
theorem dTC_order_23 : decode cTC_order 23 = .ok (.iload_n 1, 1) := by decide +kernel
theorem dTC_order_24 : decode cTC_order 24 = .ok (.invokevirtual 89, 3) := by decide +kernel
theorem dTC_order_27 : decode cTC_order 27 = .ok (.istore_n 3, 1) := by decide +kernel
theorem dTC_order_28 : decode cTC_order 28 = .ok (.iload_n 3, 1) := by decide +kernel
theorem dTC_order_29 : decode cTC_order 29 = .ok (.istore 4, 2) := by decide +kernel
theorem dTC_order_31 : decode cTC_order 31 = .ok (.iload 4, 2) := by decide +kernel
theorem dTC_order_33 : decode cTC_order 33 = .ok (.iload_n 2, 1) := by decide +kernel
theorem dTC_order_34 : decode cTC_order 34 = .ok (.if_icmp .ge 25, 3) := by decide +kernel
theorem dTC_order_37 : decode cTC_order 37 = .ok (.aload_n 0, 1) := by decide +kernel
theorem dTC_order_38 : decode cTC_order 38 = .ok (.getfield 32, 3) := by decide +kernel
theorem dTC_order_41 : decode cTC_order 41 = .ok (.iload 4, 2) := by decide +kernel
theorem dTC_order_43 : decode cTC_order 43 = .ok (.aload_n 0, 1) := by decide +kernel
theorem dTC_order_44 : decode cTC_order 44 = .ok (.getfield 32, 3) := by decide +kernel
theorem dTC_order_47 : decode cTC_order 47 = .ok (.iload 4, 2) := by decide +kernel
theorem dTC_order_49 : decode cTC_order 49 = .ok (.iconst 1, 1) := by decide +kernel
theorem dTC_order_50 : decode cTC_order 50 = .ok (.iadd, 1) := by decide +kernel
theorem dTC_order_51 : decode cTC_order 51 = .ok (.iaload, 1) := by decide +kernel
theorem dTC_order_52 : decode cTC_order 52 = .ok (.iastore, 1) := by decide +kernel
theorem dTC_order_53 : decode cTC_order 53 = .ok (.iinc 4 1, 3) := by decide +kernel
theorem dTC_order_56 : decode cTC_order 56 = .ok (.goto (-25), 3) := by decide +kernel
theorem dTC_order_59 : decode cTC_order 59 = .ok (.iload_n 3, 1) := by decide +kernel
theorem dTC_order_60 : decode cTC_order 60 = .ok (.istore 4, 2) := by decide +kernel
theorem dTC_order_62 : decode cTC_order 62 = .ok (.iload 4, 2) := by decide +kernel
theorem dTC_order_64 : decode cTC_order 64 = .ok (.iload_n 2, 1) := by decide +kernel
theorem dTC_order_65 : decode cTC_order 65 = .ok (.if_icmp .le 25, 3) := by decide +kernel
theorem dTC_order_68 : decode cTC_order 68 = .ok (.aload_n 0, 1) := by decide +kernel
theorem dTC_order_69 : decode cTC_order 69 = .ok (.getfield 32, 3) := by decide +kernel
theorem dTC_order_72 : decode cTC_order 72 = .ok (.iload 4, 2) := by decide +kernel
theorem dTC_order_74 : decode cTC_order 74 = .ok (.aload_n 0, 1) := by decide +kernel
theorem dTC_order_75 : decode cTC_order 75 = .ok (.getfield 32, 3) := by decide +kernel
theorem dTC_order_78 : decode cTC_order 78 = .ok (.iload 4, 2) := by decide +kernel
theorem dTC_order_80 : decode cTC_order 80 = .ok (.iconst 1, 1) := by decide +kernel
theorem dTC_order_81 : decode cTC_order 81 = .ok (.isub, 1) := by decide +kernel
theorem dTC_order_82 : decode cTC_order 82 = .ok (.iaload, 1) := by decide +kernel
theorem dTC_order_83 : decode cTC_order 83 = .ok (.iastore, 1) := by decide +kernel
theorem dTC_order_84 : decode cTC_order 84 = .ok (.iinc 4 (-1), 3) := by decide +kernel
theorem dTC_order_87 : decode cTC_order 87 = .ok (.goto (-25), 3) := by decide +kernel
theorem dTC_order_90 : decode cTC_order 90 = .ok (.aload_n 0, 1) := by decide +kernel
theorem dTC_order_91 : decode cTC_order 91 = .ok (.getfield 32, 3) := by decide +kernel
theorem dTC_order_94 : decode cTC_order 94 = .ok (.iload_n 2, 1) := by decide +kernel
theorem dTC_order_95 : decode cTC_order 95 = .ok (.iload_n 1, 1) := by decide +kernel
theorem dTC_order_96 : decode cTC_order 96 = .ok (.iastore, 1) := by decide +kernel
theorem dTC_order_97 : decode cTC_order 97 = .ok (.iconst 1, 1) := by decide +kernel
theorem dTC_order_98 : decode cTC_order 98 = .ok (.ireturn, 1) := by decide +kernel
theorem dTC_needs_0 : decode cTC_needs 0 = .ok (.aload_n 0, 1) := by decide +kernel
theorem dTC_needs_1 : decode cTC_needs 1 = .ok (.iload_n 1, 1) := by decide +kernel
theorem dTC_needs_2 : decode cTC_needs 2 = .ok (.invokevirtual 86, 3) := by decide +kernel
theorem dTC_needs_5 : decode cTC_needs 5 = .ok (.ifCond .eq 10, 3) := by decide +kernel
theorem dTC_needs_8 : decode cTC_needs 8 = .ok (.iload_n 2, 1) := by decide +kernel
theorem dTC_needs_9 : decode cTC_needs 9 = .ok (.invokestatic 82, 3) := by decide +kernel
theorem dTC_needs_12 : decode cTC_needs 12 = .ok (.ifCond .ne 5, 3) := by decide +kernel
theorem dTC_needs_15 : decode cTC_needs 15 = .ok (.iconst 0, 1) := by decide +kernel
theorem dTC_needs_16 : decode cTC_needs 16 = .ok (.ireturn, 1) := by decide +kernel
theorem dTC_needs_17 : decode cTC_needs 17 = .ok (.aload_n 0, 1) := by decide +kernel
theorem dTC_needs_18 : decode cTC_needs 18 = .ok (.getfield 29, 3) := by decide +kernel
theorem dTC_needs_21 : decode cTC_needs 21 = .ok (.iload_n 1, 1) := by decide +kernel
theorem dTC_needs_22 : decode cTC_needs 22 = .ok (.iaload, 1) := by decide +kernel
theorem dTC_needs_23 : decode cTC_needs 23 = .ok (.iload_n 2, 1) := by decide +kernel
theorem dTC_needs_24 : decode cTC_needs 24 = .ok (.invokestatic 93, 3) := by decide +kernel
theorem dTC_needs_27 : decode cTC_needs 27 = .ok (.ifCond .ne 12, 3) := by decide +kernel
theorem dTC_needs_30 : decode cTC_needs 30 = .ok (.aload_n 0, 1) := by decide +kernel
theorem dTC_needs_31 : decode cTC_needs 31 = .ok (.getfield 38, 3) := by decide +kernel
theorem dTC_needs_34 : decode cTC_needs 34 = .ok (.bipush 40, 2) := by decide +kernel
theorem dTC_needs_36 : decode cTC_needs 36 = .ok (.if_icmp .lt 5, 3) := by decide +kernel
theorem dTC_needs_39 : decode cTC_needs 39 = .ok (.iconst 0, 1) := by decide +kernel
theorem dTC_needs_40 : decode cTC_needs 40 = .ok (.ireturn, 1) := by decide +kernel
theorem dTC_needs_41 : decode cTC_needs 41 = .ok (.aload_n 0, 1) := by decide +kernel
theorem dTC_needs_42 : decode cTC_needs 42 = .ok (.getfield 29, 3) := by decide +kernel
theorem dTC_needs_45 : decode cTC_needs 45 = .ok (.iload_n 1, 1) := by decide +kernel
theorem dTC_needs_46 : decode cTC_needs 46 = .ok (.dup2, 1) := by decide +kernel
theorem dTC_needs_47 : decode cTC_needs 47 = .ok (.iaload, 1) := by decide +kernel
theorem dTC_needs_48 : decode cTC_needs 48 = .ok (.iconst 1, 1) := by decide +kernel
theorem dTC_needs_49 : decode cTC_needs 49 = .ok (.iload_n 2, 1) := by decide +kernel
theorem dTC_needs_50 : decode cTC_needs 50 = .ok (.ishl, 1) := by decide +kernel
theorem dTC_needs_51 : decode cTC_needs 51 = .ok (.ior, 1) := by decide +kernel
theorem dTC_needs_52 : decode cTC_needs 52 = .ok (.iastore, 1) := by decide +kernel
theorem dTC_needs_53 : decode cTC_needs 53 = .ok (.aload_n 0, 1) := by decide +kernel
theorem dTC_needs_54 : decode cTC_needs 54 = .ok (.dup, 1) := by decide +kernel
theorem dTC_needs_55 : decode cTC_needs 55 = .ok (.getfield 38, 3) := by decide +kernel
theorem dTC_needs_58 : decode cTC_needs 58 = .ok (.iconst 1, 1) := by decide +kernel
theorem dTC_needs_59 : decode cTC_needs 59 = .ok (.iadd, 1) := by decide +kernel
theorem dTC_needs_60 : decode cTC_needs 60 = .ok (.putfield 38, 3) := by decide +kernel
theorem dTC_needs_63 : decode cTC_needs 63 = .ok (.iconst 1, 1) := by decide +kernel
theorem dTC_needs_64 : decode cTC_needs 64 = .ok (.ireturn, 1) := by decide +kernel
theorem dTC_ask_0 : decode cTC_ask 0 = .ok (.iload_n 1, 1) := by decide +kernel
theorem dTC_ask_1 : decode cTC_ask 1 = .ok (.invokestatic 82, 3) := by decide +kernel
theorem dTC_ask_4 : decode cTC_ask 4 = .ok (.ifCond .ne 5, 3) := by decide +kernel
theorem dTC_ask_7 : decode cTC_ask 7 = .ok (.iconst 0, 1) := by decide +kernel
theorem dTC_ask_8 : decode cTC_ask 8 = .ok (.ireturn, 1) := by decide +kernel
theorem dTC_ask_9 : decode cTC_ask 9 = .ok (.aload_n 0, 1) := by decide +kernel
theorem dTC_ask_10 : decode cTC_ask 10 = .ok (.getfield 44, 3) := by decide +kernel
theorem dTC_ask_13 : decode cTC_ask 13 = .ok (.iload_n 1, 1) := by decide +kernel
theorem dTC_ask_14 : decode cTC_ask 14 = .ok (.iload_n 2, 1) := by decide +kernel
theorem dTC_ask_15 : decode cTC_ask 15 = .ok (.iload_n 3, 1) := by decide +kernel
theorem dTC_ask_16 : decode cTC_ask 16 = .ok (.invokevirtual 97, 3) := by decide +kernel
theorem dTC_ask_19 : decode cTC_ask 19 = .ok (.iconst 1, 1) := by decide +kernel
theorem dTC_ask_20 : decode cTC_ask 20 = .ok (.ireturn, 1) := by decide +kernel
theorem dTC_drop_0 : decode cTC_drop 0 = .ok (.iload_n 1, 1) := by decide +kernel
theorem dTC_drop_1 : decode cTC_drop 1 = .ok (.invokestatic 82, 3) := by decide +kernel
theorem dTC_drop_4 : decode cTC_drop 4 = .ok (.ifCond .eq 18, 3) := by decide +kernel
theorem dTC_drop_7 : decode cTC_drop 7 = .ok (.aload_n 0, 1) := by decide +kernel
theorem dTC_drop_8 : decode cTC_drop 8 = .ok (.getfield 44, 3) := by decide +kernel
theorem dTC_drop_11 : decode cTC_drop 11 = .ok (.iload_n 1, 1) := by decide +kernel
theorem dTC_drop_12 : decode cTC_drop 12 = .ok (.invokevirtual 101, 3) := by decide +kernel
theorem dTC_drop_15 : decode cTC_drop 15 = .ok (.ifCond .eq 7, 3) := by decide +kernel
theorem dTC_drop_18 : decode cTC_drop 18 = .ok (.iconst 1, 1) := by decide +kernel
theorem dTC_drop_19 : decode cTC_drop 19 = .ok (.goto 4, 3) := by decide +kernel
theorem dTC_drop_22 : decode cTC_drop 22 = .ok (.iconst 0, 1) := by decide +kernel
theorem dTC_drop_23 : decode cTC_drop 23 = .ok (.ireturn, 1) := by decide +kernel
theorem dTC_force_0 : decode cTC_force 0 = .ok (.iload_n 1, 1) := by decide +kernel
theorem dTC_force_1 : decode cTC_force 1 = .ok (.iconst (-1), 1) := by decide +kernel
theorem dTC_force_2 : decode cTC_force 2 = .ok (.if_icmp .ne 19, 3) := by decide +kernel
theorem dTC_force_5 : decode cTC_force 5 = .ok (.iload_n 2, 1) := by decide +kernel
theorem dTC_force_6 : decode cTC_force 6 = .ok (.invokestatic 82, 3) := by decide +kernel
theorem dTC_force_9 : decode cTC_force 9 = .ok (.ifCond .eq 12, 3) := by decide +kernel
theorem dTC_force_12 : decode cTC_force 12 = .ok (.aload_n 0, 1) := by decide +kernel
theorem dTC_force_13 : decode cTC_force 13 = .ok (.getfield 48, 3) := by decide +kernel
theorem dTC_force_16 : decode cTC_force 16 = .ok (.iload_n 2, 1) := by decide +kernel
theorem dTC_force_17 : decode cTC_force 17 = .ok (.iconst (-1), 1) := by decide +kernel
theorem dTC_force_18 : decode cTC_force 18 = .ok (.iastore, 1) := by decide +kernel
theorem dTC_force_19 : decode cTC_force 19 = .ok (.iconst 1, 1) := by decide +kernel
theorem dTC_force_20 : decode cTC_force 20 = .ok (.ireturn, 1) := by decide +kernel
theorem dTC_force_21 : decode cTC_force 21 = .ok (.aload_n 0, 1) := by decide +kernel
theorem dTC_force_22 : decode cTC_force 22 = .ok (.iload_n 1, 1) := by decide +kernel
theorem dTC_force_23 : decode cTC_force 23 = .ok (.invokevirtual 86, 3) := by decide +kernel
theorem dTC_force_26 : decode cTC_force 26 = .ok (.ifCond .ne 5, 3) := by decide +kernel
theorem dTC_force_29 : decode cTC_force 29 = .ok (.iconst 0, 1) := by decide +kernel
theorem dTC_force_30 : decode cTC_force 30 = .ok (.ireturn, 1) := by decide +kernel
theorem dTC_force_31 : decode cTC_force 31 = .ok (.aload_n 0, 1) := by decide +kernel
theorem dTC_force_32 : decode cTC_force 32 = .ok (.getfield 48, 3) := by decide +kernel
theorem dTC_force_35 : decode cTC_force 35 = .ok (.aload_n 0, 1) := by decide +kernel
theorem dTC_force_36 : decode cTC_force 36 = .ok (.getfield 17, 3) := by decide +kernel
theorem dTC_force_39 : decode cTC_force 39 = .ok (.iload_n 1, 1) := by decide +kernel
theorem dTC_force_40 : decode cTC_force 40 = .ok (.iaload, 1) := by decide +kernel
theorem dTC_force_41 : decode cTC_force 41 = .ok (.iload_n 1, 1) := by decide +kernel
theorem dTC_force_42 : decode cTC_force 42 = .ok (.iastore, 1) := by decide +kernel
theorem dTC_force_43 : decode cTC_force 43 = .ok (.iconst 1, 1) := by decide +kernel
theorem dTC_force_44 : decode cTC_force 44 = .ok (.ireturn, 1) := by decide +kernel
theorem dTC_choose_0 : decode cTC_choose 0 = .ok (.aload_n 0, 1) := by decide +kernel
theorem dTC_choose_1 : decode cTC_choose 1 = .ok (.iload_n 1, 1) := by decide +kernel
theorem dTC_choose_2 : decode cTC_choose 2 = .ok (.invokevirtual 104, 3) := by decide +kernel
theorem dTC_choose_5 : decode cTC_choose 5 = .ok (.ifCond .ne 5, 3) := by decide +kernel
theorem dTC_choose_8 : decode cTC_choose 8 = .ok (.iconst (-1), 1) := by decide +kernel
theorem dTC_choose_9 : decode cTC_choose 9 = .ok (.ireturn, 1) := by decide +kernel
theorem dTC_choose_10 : decode cTC_choose 10 = .ok (.aload_n 0, 1) := by decide +kernel
theorem dTC_choose_11 : decode cTC_choose 11 = .ok (.invokevirtual 107, 3) := by decide +kernel
theorem dTC_choose_14 : decode cTC_choose 14 = .ok (.aload_n 0, 1) := by decide +kernel
theorem dTC_choose_15 : decode cTC_choose 15 = .ok (.getfield 57, 3) := by decide +kernel
theorem dTC_choose_18 : decode cTC_choose 18 = .ok (.invokevirtual 110, 3) := by decide +kernel
theorem dTC_choose_21 : decode cTC_choose 21 = .ok (.iconst 0, 1) := by decide +kernel
theorem dTC_choose_22 : decode cTC_choose 22 = .ok (.istore_n 2, 1) := by decide +kernel
theorem dTC_choose_23 : decode cTC_choose 23 = .ok (.iload_n 2, 1) := by decide +kernel
theorem dTC_choose_24 : decode cTC_choose 24 = .ok (.aload_n 0, 1) := by decide +kernel
theorem dTC_choose_25 : decode cTC_choose 25 = .ok (.getfield 13, 3) := by decide +kernel
theorem dTC_choose_28 : decode cTC_choose 28 = .ok (.if_icmp .ge 20, 3) := by decide +kernel
theorem dTC_choose_31 : decode cTC_choose 31 = .ok (.aload_n 0, 1) := by decide +kernel
theorem dTC_choose_32 : decode cTC_choose 32 = .ok (.iload_n 2, 1) := by decide +kernel
theorem dTC_choose_33 : decode cTC_choose 33 = .ok (.iload_n 1, 1) := by decide +kernel
theorem dTC_choose_34 : decode cTC_choose 34 = .ok (.invokevirtual 113, 3) := by decide +kernel
theorem dTC_choose_37 : decode cTC_choose 37 = .ok (.ifCond .eq 5, 3) := by decide +kernel
theorem dTC_choose_40 : decode cTC_choose 40 = .ok (.iload_n 2, 1) := by decide +kernel
theorem dTC_choose_41 : decode cTC_choose 41 = .ok (.ireturn, 1) := by decide +kernel
theorem dTC_choose_42 : decode cTC_choose 42 = .ok (.iinc 2 1, 3) := by decide +kernel
theorem dTC_choose_45 : decode cTC_choose 45 = .ok (.goto (-22), 3) := by decide +kernel
theorem dTC_choose_48 : decode cTC_choose 48 = .ok (.aload_n 0, 1) := by decide +kernel
theorem dTC_choose_49 : decode cTC_choose 49 = .ok (.getfield 51, 3) := by decide +kernel
theorem dTC_choose_52 : decode cTC_choose 52 = .ok (.iconst (-1), 1) := by decide +kernel
theorem dTC_choose_53 : decode cTC_choose 53 = .ok (.invokestatic 76, 3) := by decide +kernel
theorem dTC_choose_56 : decode cTC_choose 56 = .ok (.iconst (-1), 1) := by decide +kernel
theorem dTC_choose_57 : decode cTC_choose 57 = .ok (.ireturn, 1) := by decide +kernel
theorem dTC_chosen_0 : decode cTC_chosen 0 = .ok (.iload_n 1, 1) := by decide +kernel
theorem dTC_chosen_1 : decode cTC_chosen 1 = .ok (.invokestatic 82, 3) := by decide +kernel
theorem dTC_chosen_4 : decode cTC_chosen 4 = .ok (.ifCond .eq 12, 3) := by decide +kernel
theorem dTC_chosen_7 : decode cTC_chosen 7 = .ok (.aload_n 0, 1) := by decide +kernel
theorem dTC_chosen_8 : decode cTC_chosen 8 = .ok (.getfield 51, 3) := by decide +kernel
theorem dTC_chosen_11 : decode cTC_chosen 11 = .ok (.iload_n 1, 1) := by decide +kernel
theorem dTC_chosen_12 : decode cTC_chosen 12 = .ok (.iaload, 1) := by decide +kernel
theorem dTC_chosen_13 : decode cTC_chosen 13 = .ok (.goto 4, 3) := by decide +kernel
theorem dTC_chosen_16 : decode cTC_chosen 16 = .ok (.iconst (-1), 1) := by decide +kernel
theorem dTC_chosen_17 : decode cTC_chosen 17 = .ok (.ireturn, 1) := by decide +kernel
theorem dTC_rows_0 : decode cTC_rows 0 = .ok (.aload_n 0, 1) := by decide +kernel
theorem dTC_rows_1 : decode cTC_rows 1 = .ok (.getfield 57, 3) := by decide +kernel
theorem dTC_rows_4 : decode cTC_rows 4 = .ok (.invokevirtual 116, 3) := by decide +kernel
theorem dTC_rows_7 : decode cTC_rows 7 = .ok (.ireturn, 1) := by decide +kernel
theorem dTC_row_0 : decode cTC_row 0 = .ok (.aload_n 0, 1) := by decide +kernel
theorem dTC_row_1 : decode cTC_row 1 = .ok (.getfield 57, 3) := by decide +kernel
theorem dTC_row_4 : decode cTC_row 4 = .ok (.iload_n 1, 1) := by decide +kernel
theorem dTC_row_5 : decode cTC_row 5 = .ok (.iload_n 2, 1) := by decide +kernel
theorem dTC_row_6 : decode cTC_row 6 = .ok (.invokevirtual 120, 3) := by decide +kernel
theorem dTC_row_9 : decode cTC_row 9 = .ok (.ireturn, 1) := by decide +kernel
theorem dTC_built_0 : decode cTC_built 0 = .ok (.aload_n 0, 1) := by decide +kernel
theorem dTC_built_1 : decode cTC_built 1 = .ok (.iload_n 1, 1) := by decide +kernel
theorem dTC_built_2 : decode cTC_built 2 = .ok (.invokevirtual 86, 3) := by decide +kernel
theorem dTC_built_5 : decode cTC_built 5 = .ok (.ifCond .eq 11, 3) := by decide +kernel
theorem dTC_built_8 : decode cTC_built 8 = .ok (.aload_n 0, 1) := by decide +kernel
theorem dTC_built_9 : decode cTC_built 9 = .ok (.iload_n 2, 1) := by decide +kernel
theorem dTC_built_10 : decode cTC_built 10 = .ok (.invokevirtual 104, 3) := by decide +kernel
theorem dTC_built_13 : decode cTC_built 13 = .ok (.ifCond .ne 5, 3) := by decide +kernel
theorem dTC_built_16 : decode cTC_built 16 = .ok (.iconst 0, 1) := by decide +kernel
theorem dTC_built_17 : decode cTC_built 17 = .ok (.ireturn, 1) := by decide +kernel
theorem dTC_built_18 : decode cTC_built 18 = .ok (.aload_n 0, 1) := by decide +kernel
theorem dTC_built_19 : decode cTC_built 19 = .ok (.invokevirtual 107, 3) := by decide +kernel
theorem dTC_built_22 : decode cTC_built 22 = .ok (.aload_n 0, 1) := by decide +kernel
theorem dTC_built_23 : decode cTC_built 23 = .ok (.getfield 67, 3) := by decide +kernel
theorem dTC_built_26 : decode cTC_built 26 = .ok (.iload_n 1, 1) := by decide +kernel
theorem dTC_built_27 : decode cTC_built 27 = .ok (.iaload, 1) := by decide +kernel
theorem dTC_built_28 : decode cTC_built 28 = .ok (.iload_n 2, 1) := by decide +kernel
theorem dTC_built_29 : decode cTC_built 29 = .ok (.invokestatic 93, 3) := by decide +kernel
theorem dTC_built_32 : decode cTC_built 32 = .ok (.ireturn, 1) := by decide +kernel
theorem dTC_ring_0 : decode cTC_ring 0 = .ok (.aload_n 0, 1) := by decide +kernel
theorem dTC_ring_1 : decode cTC_ring 1 = .ok (.invokevirtual 107, 3) := by decide +kernel
theorem dTC_ring_4 : decode cTC_ring 4 = .ok (.aload_n 0, 1) := by decide +kernel
theorem dTC_ring_5 : decode cTC_ring 5 = .ok (.invokevirtual 124, 3) := by decide +kernel
theorem dTC_ring_8 : decode cTC_ring 8 = .ok (.iconst 0, 1) := by decide +kernel
theorem dTC_ring_9 : decode cTC_ring 9 = .ok (.istore_n 2, 1) := by decide +kernel
theorem dTC_ring_10 : decode cTC_ring 10 = .ok (.iconst 0, 1) := by decide +kernel
theorem dTC_ring_11 : decode cTC_ring 11 = .ok (.istore_n 3, 1) := by decide +kernel
theorem dTC_ring_12 : decode cTC_ring 12 = .ok (.iload_n 3, 1) := by decide +kernel
theorem dTC_ring_13 : decode cTC_ring 13 = .ok (.aload_n 0, 1) := by decide +kernel
theorem dTC_ring_14 : decode cTC_ring 14 = .ok (.getfield 35, 3) := by decide +kernel
theorem dTC_ring_17 : decode cTC_ring 17 = .ok (.if_icmp .ge 32, 3) := by decide +kernel
theorem dTC_ring_20 : decode cTC_ring 20 = .ok (.aload_n 0, 1) := by decide +kernel
theorem dTC_ring_21 : decode cTC_ring 21 = .ok (.getfield 73, 3) := by decide +kernel
theorem dTC_ring_24 : decode cTC_ring 24 = .ok (.iload_n 3, 1) := by decide +kernel
theorem dTC_ring_25 : decode cTC_ring 25 = .ok (.iaload, 1) := by decide +kernel
theorem dTC_ring_26 : decode cTC_ring 26 = .ok (.iload_n 3, 1) := by decide +kernel
theorem dTC_ring_27 : decode cTC_ring 27 = .ok (.invokestatic 93, 3) := by decide +kernel
theorem dTC_ring_30 : decode cTC_ring 30 = .ok (.ifCond .eq 13, 3) := by decide +kernel
theorem dTC_ring_33 : decode cTC_ring 33 = .ok (.iload_n 2, 1) := by decide +kernel
theorem dTC_ring_34 : decode cTC_ring 34 = .ok (.iload_n 1, 1) := by decide +kernel
theorem dTC_ring_35 : decode cTC_ring 35 = .ok (.if_icmp .ne 5, 3) := by decide +kernel
theorem dTC_ring_38 : decode cTC_ring 38 = .ok (.iload_n 3, 1) := by decide +kernel
theorem dTC_ring_39 : decode cTC_ring 39 = .ok (.ireturn, 1) := by decide +kernel
theorem dTC_ring_40 : decode cTC_ring 40 = .ok (.iinc 2 1, 3) := by decide +kernel
theorem dTC_ring_43 : decode cTC_ring 43 = .ok (.iinc 3 1, 3) := by decide +kernel
theorem dTC_ring_46 : decode cTC_ring 46 = .ok (.goto (-34), 3) := by decide +kernel
theorem dTC_ring_49 : decode cTC_ring 49 = .ok (.iconst (-1), 1) := by decide +kernel
theorem dTC_ring_50 : decode cTC_ring 50 = .ok (.ireturn, 1) := by decide +kernel
theorem dTC_isPlatform_0 : decode cTC_isPlatform 0 = .ok (.iload_n 1, 1) := by decide +kernel
theorem dTC_isPlatform_1 : decode cTC_isPlatform 1 = .ok (.ifCond .lt 15, 3) := by decide +kernel
theorem dTC_isPlatform_4 : decode cTC_isPlatform 4 = .ok (.iload_n 1, 1) := by decide +kernel
theorem dTC_isPlatform_5 : decode cTC_isPlatform 5 = .ok (.aload_n 0, 1) := by decide +kernel
theorem dTC_isPlatform_6 : decode cTC_isPlatform 6 = .ok (.getfield 13, 3) := by decide +kernel
theorem dTC_isPlatform_9 : decode cTC_isPlatform 9 = .ok (.if_icmp .ge 7, 3) := by decide +kernel
theorem dTC_isPlatform_12 : decode cTC_isPlatform 12 = .ok (.iconst 1, 1) := by decide +kernel
theorem dTC_isPlatform_13 : decode cTC_isPlatform 13 = .ok (.goto 4, 3) := by decide +kernel
theorem dTC_isPlatform_16 : decode cTC_isPlatform 16 = .ok (.iconst 0, 1) := by decide +kernel
theorem dTC_isPlatform_17 : decode cTC_isPlatform 17 = .ok (.ireturn, 1) := by decide +kernel
theorem dTC_isTool_0 : decode cTC_isTool 0 = .ok (.iload_n 1, 1) := by decide +kernel
theorem dTC_isTool_1 : decode cTC_isTool 1 = .ok (.ifCond .lt 15, 3) := by decide +kernel
theorem dTC_isTool_4 : decode cTC_isTool 4 = .ok (.iload_n 1, 1) := by decide +kernel
theorem dTC_isTool_5 : decode cTC_isTool 5 = .ok (.aload_n 0, 1) := by decide +kernel
theorem dTC_isTool_6 : decode cTC_isTool 6 = .ok (.getfield 35, 3) := by decide +kernel
theorem dTC_isTool_9 : decode cTC_isTool 9 = .ok (.if_icmp .ge 7, 3) := by decide +kernel
theorem dTC_isTool_12 : decode cTC_isTool 12 = .ok (.iconst 1, 1) := by decide +kernel
theorem dTC_isTool_13 : decode cTC_isTool 13 = .ok (.goto 4, 3) := by decide +kernel
theorem dTC_isTool_16 : decode cTC_isTool 16 = .ok (.iconst 0, 1) := by decide +kernel
theorem dTC_isTool_17 : decode cTC_isTool 17 = .ok (.ireturn, 1) := by decide +kernel
theorem dTC_isKind_0 : decode cTC_isKind 0 = .ok (.iload_n 0, 1) := by decide +kernel
theorem dTC_isKind_1 : decode cTC_isKind 1 = .ok (.ifCond .lt 13, 3) := by decide +kernel
theorem dTC_isKind_4 : decode cTC_isKind 4 = .ok (.iload_n 0, 1) := by decide +kernel
theorem dTC_isKind_5 : decode cTC_isKind 5 = .ok (.bipush 8, 2) := by decide +kernel
theorem dTC_isKind_7 : decode cTC_isKind 7 = .ok (.if_icmp .ge 7, 3) := by decide +kernel
theorem dTC_isKind_10 : decode cTC_isKind 10 = .ok (.iconst 1, 1) := by decide +kernel
theorem dTC_isKind_11 : decode cTC_isKind 11 = .ok (.goto 4, 3) := by decide +kernel
theorem dTC_isKind_14 : decode cTC_isKind 14 = .ok (.iconst 0, 1) := by decide +kernel
theorem dTC_isKind_15 : decode cTC_isKind 15 = .ok (.ireturn, 1) := by decide +kernel
theorem dTC_hasBit_0 : decode cTC_hasBit 0 = .ok (.iload_n 0, 1) := by decide +kernel
theorem dTC_hasBit_1 : decode cTC_hasBit 1 = .ok (.iload_n 1, 1) := by decide +kernel
theorem dTC_hasBit_2 : decode cTC_hasBit 2 = .ok (.iushr, 1) := by decide +kernel
theorem dTC_hasBit_3 : decode cTC_hasBit 3 = .ok (.iconst 1, 1) := by decide +kernel
theorem dTC_hasBit_4 : decode cTC_hasBit 4 = .ok (.iand, 1) := by decide +kernel
theorem dTC_hasBit_5 : decode cTC_hasBit 5 = .ok (.ifCond .eq 7, 3) := by decide +kernel
theorem dTC_hasBit_8 : decode cTC_hasBit 8 = .ok (.iconst 1, 1) := by decide +kernel
theorem dTC_hasBit_9 : decode cTC_hasBit 9 = .ok (.goto 4, 3) := by decide +kernel
theorem dTC_hasBit_12 : decode cTC_hasBit 12 = .ok (.iconst 0, 1) := by decide +kernel
theorem dTC_hasBit_13 : decode cTC_hasBit 13 = .ok (.ireturn, 1) := by decide +kernel
theorem dTC_lowestBit_0 : decode cTC_lowestBit 0 = .ok (.iconst 0, 1) := by decide +kernel
theorem dTC_lowestBit_1 : decode cTC_lowestBit 1 = .ok (.istore_n 1, 1) := by decide +kernel
theorem dTC_lowestBit_2 : decode cTC_lowestBit 2 = .ok (.iload_n 1, 1) := by decide +kernel
theorem dTC_lowestBit_3 : decode cTC_lowestBit 3 = .ok (.bipush 32, 2) := by decide +kernel
theorem dTC_lowestBit_5 : decode cTC_lowestBit 5 = .ok (.if_icmp .ge 19, 3) := by decide +kernel
theorem dTC_lowestBit_8 : decode cTC_lowestBit 8 = .ok (.iload_n 0, 1) := by decide +kernel
theorem dTC_lowestBit_9 : decode cTC_lowestBit 9 = .ok (.iload_n 1, 1) := by decide +kernel
theorem dTC_lowestBit_10 : decode cTC_lowestBit 10 = .ok (.invokestatic 93, 3) := by decide +kernel
theorem dTC_lowestBit_13 : decode cTC_lowestBit 13 = .ok (.ifCond .eq 5, 3) := by decide +kernel
theorem dTC_lowestBit_16 : decode cTC_lowestBit 16 = .ok (.iload_n 1, 1) := by decide +kernel
theorem dTC_lowestBit_17 : decode cTC_lowestBit 17 = .ok (.ireturn, 1) := by decide +kernel
theorem dTC_lowestBit_18 : decode cTC_lowestBit 18 = .ok (.iinc 1 1, 3) := by decide +kernel
theorem dTC_lowestBit_21 : decode cTC_lowestBit 21 = .ok (.goto (-19), 3) := by decide +kernel
theorem dTC_lowestBit_24 : decode cTC_lowestBit 24 = .ok (.iconst (-1), 1) := by decide +kernel
theorem dTC_lowestBit_25 : decode cTC_lowestBit 25 = .ok (.ireturn, 1) := by decide +kernel
theorem dTC_placeOf_0 : decode cTC_placeOf 0 = .ok (.iconst 0, 1) := by decide +kernel
theorem dTC_placeOf_1 : decode cTC_placeOf 1 = .ok (.istore_n 2, 1) := by decide +kernel
theorem dTC_placeOf_2 : decode cTC_placeOf 2 = .ok (.iload_n 2, 1) := by decide +kernel
theorem dTC_placeOf_3 : decode cTC_placeOf 3 = .ok (.aload_n 0, 1) := by decide +kernel
theorem dTC_placeOf_4 : decode cTC_placeOf 4 = .ok (.getfield 35, 3) := by decide +kernel
theorem dTC_placeOf_7 : decode cTC_placeOf 7 = .ok (.iconst 1, 1) := by decide +kernel
theorem dTC_placeOf_8 : decode cTC_placeOf 8 = .ok (.isub, 1) := by decide +kernel
theorem dTC_placeOf_9 : decode cTC_placeOf 9 = .ok (.if_icmp .ge 19, 3) := by decide +kernel
theorem dTC_placeOf_12 : decode cTC_placeOf 12 = .ok (.aload_n 0, 1) := by decide +kernel
theorem dTC_placeOf_13 : decode cTC_placeOf 13 = .ok (.getfield 32, 3) := by decide +kernel
theorem dTC_placeOf_16 : decode cTC_placeOf 16 = .ok (.iload_n 2, 1) := by decide +kernel
theorem dTC_placeOf_17 : decode cTC_placeOf 17 = .ok (.iaload, 1) := by decide +kernel
theorem dTC_placeOf_18 : decode cTC_placeOf 18 = .ok (.iload_n 1, 1) := by decide +kernel
theorem dTC_placeOf_19 : decode cTC_placeOf 19 = .ok (.if_icmp .eq 9, 3) := by decide +kernel
theorem dTC_placeOf_22 : decode cTC_placeOf 22 = .ok (.iinc 2 1, 3) := by decide +kernel
theorem dTC_placeOf_25 : decode cTC_placeOf 25 = .ok (.goto (-23), 3) := by decide +kernel
theorem dTC_placeOf_28 : decode cTC_placeOf 28 = .ok (.iload_n 2, 1) := by decide +kernel
theorem dTC_placeOf_29 : decode cTC_placeOf 29 = .ok (.ireturn, 1) := by decide +kernel
theorem dTC_takeTools_0 : decode cTC_takeTools 0 = .ok (.aload_n 0, 1) := by decide +kernel
theorem dTC_takeTools_1 : decode cTC_takeTools 1 = .ok (.getfield 51, 3) := by decide +kernel
theorem dTC_takeTools_4 : decode cTC_takeTools 4 = .ok (.iconst (-1), 1) := by decide +kernel
theorem dTC_takeTools_5 : decode cTC_takeTools 5 = .ok (.invokestatic 76, 3) := by decide +kernel
theorem dTC_takeTools_8 : decode cTC_takeTools 8 = .ok (.iconst 0, 1) := by decide +kernel
theorem dTC_takeTools_9 : decode cTC_takeTools 9 = .ok (.istore_n 3, 1) := by decide +kernel
theorem dTC_takeTools_10 : decode cTC_takeTools 10 = .ok (.iload_n 3, 1) := by decide +kernel
theorem dTC_takeTools_11 : decode cTC_takeTools 11 = .ok (.aload_n 0, 1) := by decide +kernel
theorem dTC_takeTools_12 : decode cTC_takeTools 12 = .ok (.getfield 44, 3) := by decide +kernel
theorem dTC_takeTools_15 : decode cTC_takeTools 15 = .ok (.invokevirtual 127, 3) := by decide +kernel
theorem dTC_takeTools_18 : decode cTC_takeTools 18 = .ok (.if_icmp .ge 59, 3) := by decide +kernel
theorem dTC_takeTools_21 : decode cTC_takeTools 21 = .ok (.aload_n 0, 1) := by decide +kernel
theorem dTC_takeTools_22 : decode cTC_takeTools 22 = .ok (.getfield 44, 3) := by decide +kernel
theorem dTC_takeTools_25 : decode cTC_takeTools 25 = .ok (.iload_n 3, 1) := by decide +kernel
theorem dTC_takeTools_26 : decode cTC_takeTools 26 = .ok (.invokevirtual 128, 3) := by decide +kernel
theorem dTC_takeTools_29 : decode cTC_takeTools 29 = .ok (.istore 4, 2) := by decide +kernel
theorem dTC_takeTools_31 : decode cTC_takeTools 31 = .ok (.aload_n 0, 1) := by decide +kernel
theorem dTC_takeTools_32 : decode cTC_takeTools 32 = .ok (.getfield 51, 3) := by decide +kernel
theorem dTC_takeTools_35 : decode cTC_takeTools 35 = .ok (.iload 4, 2) := by decide +kernel
theorem dTC_takeTools_37 : decode cTC_takeTools 37 = .ok (.aload_n 0, 1) := by decide +kernel
theorem dTC_takeTools_38 : decode cTC_takeTools 38 = .ok (.iload 4, 2) := by decide +kernel
theorem dTC_takeTools_40 : decode cTC_takeTools 40 = .ok (.iload_n 1, 1) := by decide +kernel
theorem dTC_takeTools_41 : decode cTC_takeTools 41 = .ok (.iload_n 2, 1) := by decide +kernel
theorem dTC_takeTools_42 : decode cTC_takeTools 42 = .ok (.invokevirtual 131, 3) := by decide +kernel
theorem dTC_takeTools_45 : decode cTC_takeTools 45 = .ok (.iastore, 1) := by decide +kernel
theorem dTC_takeTools_46 : decode cTC_takeTools 46 = .ok (.aload_n 0, 1) := by decide +kernel
theorem dTC_takeTools_47 : decode cTC_takeTools 47 = .ok (.getfield 51, 3) := by decide +kernel
theorem dTC_takeTools_50 : decode cTC_takeTools 50 = .ok (.iload 4, 2) := by decide +kernel
theorem dTC_takeTools_52 : decode cTC_takeTools 52 = .ok (.iaload, 1) := by decide +kernel
theorem dTC_takeTools_53 : decode cTC_takeTools 53 = .ok (.iconst (-1), 1) := by decide +kernel
theorem dTC_takeTools_54 : decode cTC_takeTools 54 = .ok (.if_icmp .ne 17, 3) := by decide +kernel
theorem dTC_takeTools_57 : decode cTC_takeTools 57 = .ok (.aload_n 0, 1) := by decide +kernel
theorem dTC_takeTools_58 : decode cTC_takeTools 58 = .ok (.getfield 44, 3) := by decide +kernel
theorem dTC_takeTools_61 : decode cTC_takeTools 61 = .ok (.iload 4, 2) := by decide +kernel
theorem dTC_takeTools_63 : decode cTC_takeTools 63 = .ok (.invokevirtual 135, 3) := by decide +kernel
theorem dTC_takeTools_66 : decode cTC_takeTools 66 = .ok (.ifCond .eq 5, 3) := by decide +kernel
theorem dTC_takeTools_69 : decode cTC_takeTools 69 = .ok (.iconst 0, 1) := by decide +kernel
theorem dTC_takeTools_70 : decode cTC_takeTools 70 = .ok (.ireturn, 1) := by decide +kernel
theorem dTC_takeTools_71 : decode cTC_takeTools 71 = .ok (.iinc 3 1, 3) := by decide +kernel
theorem dTC_takeTools_74 : decode cTC_takeTools 74 = .ok (.goto (-64), 3) := by decide +kernel
theorem dTC_takeTools_77 : decode cTC_takeTools 77 = .ok (.iconst 1, 1) := by decide +kernel
theorem dTC_takeTools_78 : decode cTC_takeTools 78 = .ok (.ireturn, 1) := by decide +kernel
theorem dTC_firstGood_0 : decode cTC_firstGood 0 = .ok (.iconst 0, 1) := by decide +kernel
theorem dTC_firstGood_1 : decode cTC_firstGood 1 = .ok (.istore 4, 2) := by decide +kernel
theorem dTC_firstGood_3 : decode cTC_firstGood 3 = .ok (.iload 4, 2) := by decide +kernel
theorem dTC_firstGood_5 : decode cTC_firstGood 5 = .ok (.aload_n 0, 1) := by decide +kernel
theorem dTC_firstGood_6 : decode cTC_firstGood 6 = .ok (.getfield 35, 3) := by decide +kernel
theorem dTC_firstGood_9 : decode cTC_firstGood 9 = .ok (.if_icmp .ge 69, 3) := by decide +kernel
theorem dTC_firstGood_12 : decode cTC_firstGood 12 = .ok (.aload_n 0, 1) := by decide +kernel
theorem dTC_firstGood_13 : decode cTC_firstGood 13 = .ok (.getfield 32, 3) := by decide +kernel
theorem dTC_firstGood_16 : decode cTC_firstGood 16 = .ok (.iload 4, 2) := by decide +kernel
theorem dTC_firstGood_18 : decode cTC_firstGood 18 = .ok (.iaload, 1) := by decide +kernel
theorem dTC_firstGood_19 : decode cTC_firstGood 19 = .ok (.istore 5, 2) := by decide +kernel
theorem dTC_firstGood_21 : decode cTC_firstGood 21 = .ok (.aload_n 0, 1) := by decide +kernel
theorem dTC_firstGood_22 : decode cTC_firstGood 22 = .ok (.getfield 17, 3) := by decide +kernel
theorem dTC_firstGood_25 : decode cTC_firstGood 25 = .ok (.iload 5, 2) := by decide +kernel
theorem dTC_firstGood_27 : decode cTC_firstGood 27 = .ok (.iaload, 1) := by decide +kernel
theorem dTC_firstGood_28 : decode cTC_firstGood 28 = .ok (.iload_n 1, 1) := by decide +kernel
theorem dTC_firstGood_29 : decode cTC_firstGood 29 = .ok (.if_icmp .ne 43, 3) := by decide +kernel
theorem dTC_firstGood_32 : decode cTC_firstGood 32 = .ok (.aload_n 0, 1) := by decide +kernel
theorem dTC_firstGood_33 : decode cTC_firstGood 33 = .ok (.iload 5, 2) := by decide +kernel
theorem dTC_firstGood_35 : decode cTC_firstGood 35 = .ok (.iload_n 2, 1) := by decide +kernel
theorem dTC_firstGood_36 : decode cTC_firstGood 36 = .ok (.iload_n 3, 1) := by decide +kernel
theorem dTC_firstGood_37 : decode cTC_firstGood 37 = .ok (.invokevirtual 138, 3) := by decide +kernel
theorem dTC_firstGood_40 : decode cTC_firstGood 40 = .ok (.istore 6, 2) := by decide +kernel
theorem dTC_firstGood_42 : decode cTC_firstGood 42 = .ok (.aload_n 0, 1) := by decide +kernel
theorem dTC_firstGood_43 : decode cTC_firstGood 43 = .ok (.getfield 57, 3) := by decide +kernel
theorem dTC_firstGood_46 : decode cTC_firstGood 46 = .ok (.iload_n 2, 1) := by decide +kernel
theorem dTC_firstGood_47 : decode cTC_firstGood 47 = .ok (.iload 5, 2) := by decide +kernel
theorem dTC_firstGood_49 : decode cTC_firstGood 49 = .ok (.iload 6, 2) := by decide +kernel
theorem dTC_firstGood_51 : decode cTC_firstGood 51 = .ok (.aload_n 0, 1) := by decide +kernel
theorem dTC_firstGood_52 : decode cTC_firstGood 52 = .ok (.iload 6, 2) := by decide +kernel
theorem dTC_firstGood_54 : decode cTC_firstGood 54 = .ok (.iload 5, 2) := by decide +kernel
theorem dTC_firstGood_56 : decode cTC_firstGood 56 = .ok (.iload_n 2, 1) := by decide +kernel
theorem dTC_firstGood_57 : decode cTC_firstGood 57 = .ok (.iload_n 3, 1) := by decide +kernel
theorem dTC_firstGood_58 : decode cTC_firstGood 58 = .ok (.invokevirtual 141, 3) := by decide +kernel
theorem dTC_firstGood_61 : decode cTC_firstGood 61 = .ok (.invokevirtual 145, 3) := by decide +kernel
theorem dTC_firstGood_64 : decode cTC_firstGood 64 = .ok (.iload 6, 2) := by decide +kernel
theorem dTC_firstGood_66 : decode cTC_firstGood 66 = .ok (.ifCond .ne 6, 3) := by decide +kernel
theorem dTC_firstGood_69 : decode cTC_firstGood 69 = .ok (.iload 5, 2) := by decide +kernel
theorem dTC_firstGood_71 : decode cTC_firstGood 71 = .ok (.ireturn, 1) := by decide +kernel
theorem dTC_firstGood_72 : decode cTC_firstGood 72 = .ok (.iinc 4 1, 3) := by decide +kernel
theorem dTC_firstGood_75 : decode cTC_firstGood 75 = .ok (.goto (-72), 3) := by decide +kernel
theorem dTC_firstGood_78 : decode cTC_firstGood 78 = .ok (.iconst (-1), 1) := by decide +kernel
theorem dTC_firstGood_79 : decode cTC_firstGood 79 = .ok (.ireturn, 1) := by decide +kernel
theorem dTC_whyNot_0 : decode cTC_whyNot 0 = .ok (.aload_n 0, 1) := by decide +kernel
theorem dTC_whyNot_1 : decode cTC_whyNot 1 = .ok (.getfield 17, 3) := by decide +kernel
theorem dTC_whyNot_4 : decode cTC_whyNot 4 = .ok (.iload_n 1, 1) := by decide +kernel
theorem dTC_whyNot_5 : decode cTC_whyNot 5 = .ok (.iaload, 1) := by decide +kernel
theorem dTC_whyNot_6 : decode cTC_whyNot 6 = .ok (.istore 4, 2) := by decide +kernel
theorem dTC_whyNot_8 : decode cTC_whyNot 8 = .ok (.aload_n 0, 1) := by decide +kernel
theorem dTC_whyNot_9 : decode cTC_whyNot 9 = .ok (.getfield 48, 3) := by decide +kernel
theorem dTC_whyNot_12 : decode cTC_whyNot 12 = .ok (.iload 4, 2) := by decide +kernel
theorem dTC_whyNot_14 : decode cTC_whyNot 14 = .ok (.iaload, 1) := by decide +kernel
theorem dTC_whyNot_15 : decode cTC_whyNot 15 = .ok (.iconst (-1), 1) := by decide +kernel
theorem dTC_whyNot_16 : decode cTC_whyNot 16 = .ok (.if_icmp .eq 16, 3) := by decide +kernel
theorem dTC_whyNot_19 : decode cTC_whyNot 19 = .ok (.aload_n 0, 1) := by decide +kernel
theorem dTC_whyNot_20 : decode cTC_whyNot 20 = .ok (.getfield 48, 3) := by decide +kernel
theorem dTC_whyNot_23 : decode cTC_whyNot 23 = .ok (.iload 4, 2) := by decide +kernel
theorem dTC_whyNot_25 : decode cTC_whyNot 25 = .ok (.iaload, 1) := by decide +kernel
theorem dTC_whyNot_26 : decode cTC_whyNot 26 = .ok (.iload_n 1, 1) := by decide +kernel
theorem dTC_whyNot_27 : decode cTC_whyNot 27 = .ok (.if_icmp .eq 5, 3) := by decide +kernel
theorem dTC_whyNot_30 : decode cTC_whyNot 30 = .ok (.iconst 1, 1) := by decide +kernel
theorem dTC_whyNot_31 : decode cTC_whyNot 31 = .ok (.ireturn, 1) := by decide +kernel
theorem dTC_whyNot_32 : decode cTC_whyNot 32 = .ok (.aload_n 0, 1) := by decide +kernel
theorem dTC_whyNot_33 : decode cTC_whyNot 33 = .ok (.getfield 26, 3) := by decide +kernel
theorem dTC_whyNot_36 : decode cTC_whyNot 36 = .ok (.iload_n 1, 1) := by decide +kernel
theorem dTC_whyNot_37 : decode cTC_whyNot 37 = .ok (.iaload, 1) := by decide +kernel
theorem dTC_whyNot_38 : decode cTC_whyNot 38 = .ok (.aload_n 0, 1) := by decide +kernel
theorem dTC_whyNot_39 : decode cTC_whyNot 39 = .ok (.getfield 44, 3) := by decide +kernel
theorem dTC_whyNot_42 : decode cTC_whyNot 42 = .ok (.iload 4, 2) := by decide +kernel
theorem dTC_whyNot_44 : decode cTC_whyNot 44 = .ok (.invokevirtual 149, 3) := by decide +kernel
theorem dTC_whyNot_47 : decode cTC_whyNot 47 = .ok (.if_icmp .ge 5, 3) := by decide +kernel
theorem dTC_whyNot_50 : decode cTC_whyNot 50 = .ok (.iconst 2, 1) := by decide +kernel
theorem dTC_whyNot_51 : decode cTC_whyNot 51 = .ok (.ireturn, 1) := by decide +kernel
theorem dTC_whyNot_52 : decode cTC_whyNot 52 = .ok (.aload_n 0, 1) := by decide +kernel
theorem dTC_whyNot_53 : decode cTC_whyNot 53 = .ok (.getfield 61, 3) := by decide +kernel
theorem dTC_whyNot_56 : decode cTC_whyNot 56 = .ok (.iload_n 1, 1) := by decide +kernel
theorem dTC_whyNot_57 : decode cTC_whyNot 57 = .ok (.iaload, 1) := by decide +kernel
theorem dTC_whyNot_58 : decode cTC_whyNot 58 = .ok (.iload_n 2, 1) := by decide +kernel
theorem dTC_whyNot_59 : decode cTC_whyNot 59 = .ok (.invokestatic 93, 3) := by decide +kernel
theorem dTC_whyNot_62 : decode cTC_whyNot 62 = .ok (.ifCond .ne 5, 3) := by decide +kernel
theorem dTC_whyNot_65 : decode cTC_whyNot 65 = .ok (.iconst 3, 1) := by decide +kernel
theorem dTC_whyNot_66 : decode cTC_whyNot 66 = .ok (.ireturn, 1) := by decide +kernel
theorem dTC_whyNot_67 : decode cTC_whyNot 67 = .ok (.aload_n 0, 1) := by decide +kernel
theorem dTC_whyNot_68 : decode cTC_whyNot 68 = .ok (.getfield 64, 3) := by decide +kernel
theorem dTC_whyNot_71 : decode cTC_whyNot 71 = .ok (.iload_n 1, 1) := by decide +kernel
theorem dTC_whyNot_72 : decode cTC_whyNot 72 = .ok (.iaload, 1) := by decide +kernel
theorem dTC_whyNot_73 : decode cTC_whyNot 73 = .ok (.iload_n 3, 1) := by decide +kernel
theorem dTC_whyNot_74 : decode cTC_whyNot 74 = .ok (.invokestatic 93, 3) := by decide +kernel
theorem dTC_whyNot_77 : decode cTC_whyNot 77 = .ok (.ifCond .ne 5, 3) := by decide +kernel
theorem dTC_whyNot_80 : decode cTC_whyNot 80 = .ok (.iconst 4, 1) := by decide +kernel
theorem dTC_whyNot_81 : decode cTC_whyNot 81 = .ok (.ireturn, 1) := by decide +kernel
theorem dTC_whyNot_82 : decode cTC_whyNot 82 = .ok (.aload_n 0, 1) := by decide +kernel
theorem dTC_whyNot_83 : decode cTC_whyNot 83 = .ok (.getfield 67, 3) := by decide +kernel
theorem dTC_whyNot_86 : decode cTC_whyNot 86 = .ok (.iload_n 1, 1) := by decide +kernel
theorem dTC_whyNot_87 : decode cTC_whyNot 87 = .ok (.iaload, 1) := by decide +kernel
theorem dTC_whyNot_88 : decode cTC_whyNot 88 = .ok (.iload_n 2, 1) := by decide +kernel
theorem dTC_whyNot_89 : decode cTC_whyNot 89 = .ok (.invokestatic 93, 3) := by decide +kernel
theorem dTC_whyNot_92 : decode cTC_whyNot 92 = .ok (.ifCond .eq 7, 3) := by decide +kernel
theorem dTC_whyNot_95 : decode cTC_whyNot 95 = .ok (.iconst 0, 1) := by decide +kernel
theorem dTC_whyNot_96 : decode cTC_whyNot 96 = .ok (.goto 4, 3) := by decide +kernel
theorem dTC_whyNot_99 : decode cTC_whyNot 99 = .ok (.iconst 5, 1) := by decide +kernel
theorem dTC_whyNot_100 : decode cTC_whyNot 100 = .ok (.ireturn, 1) := by decide +kernel
theorem dTC_lackOf_0 : decode cTC_lackOf 0 = .ok (.iload_n 1, 1) := by decide +kernel
theorem dTC_lackOf_1 : decode cTC_lackOf 1 = .ok (.tableswitch 73 3 5 #[27, 46, 66], 27) := by decide +kernel
theorem dTC_lackOf_28 : decode cTC_lackOf 28 = .ok (.aload_n 0, 1) := by decide +kernel
theorem dTC_lackOf_29 : decode cTC_lackOf 29 = .ok (.getfield 20, 3) := by decide +kernel
theorem dTC_lackOf_32 : decode cTC_lackOf 32 = .ok (.iload_n 2, 1) := by decide +kernel
theorem dTC_lackOf_33 : decode cTC_lackOf 33 = .ok (.iaload, 1) := by decide +kernel
theorem dTC_lackOf_34 : decode cTC_lackOf 34 = .ok (.aload_n 0, 1) := by decide +kernel
theorem dTC_lackOf_35 : decode cTC_lackOf 35 = .ok (.getfield 9, 3) := by decide +kernel
theorem dTC_lackOf_38 : decode cTC_lackOf 38 = .ok (.iload_n 3, 1) := by decide +kernel
theorem dTC_lackOf_39 : decode cTC_lackOf 39 = .ok (.iaload, 1) := by decide +kernel
theorem dTC_lackOf_40 : decode cTC_lackOf 40 = .ok (.iconst (-1), 1) := by decide +kernel
theorem dTC_lackOf_41 : decode cTC_lackOf 41 = .ok (.ixor, 1) := by decide +kernel
theorem dTC_lackOf_42 : decode cTC_lackOf 42 = .ok (.iand, 1) := by decide +kernel
theorem dTC_lackOf_43 : decode cTC_lackOf 43 = .ok (.invokestatic 152, 3) := by decide +kernel
theorem dTC_lackOf_46 : decode cTC_lackOf 46 = .ok (.ireturn, 1) := by decide +kernel
theorem dTC_lackOf_47 : decode cTC_lackOf 47 = .ok (.aload_n 0, 1) := by decide +kernel
theorem dTC_lackOf_48 : decode cTC_lackOf 48 = .ok (.getfield 23, 3) := by decide +kernel
theorem dTC_lackOf_51 : decode cTC_lackOf 51 = .ok (.iload_n 2, 1) := by decide +kernel
theorem dTC_lackOf_52 : decode cTC_lackOf 52 = .ok (.iaload, 1) := by decide +kernel
theorem dTC_lackOf_53 : decode cTC_lackOf 53 = .ok (.aload_n 0, 1) := by decide +kernel
theorem dTC_lackOf_54 : decode cTC_lackOf 54 = .ok (.getfield 9, 3) := by decide +kernel
theorem dTC_lackOf_57 : decode cTC_lackOf 57 = .ok (.iload 4, 2) := by decide +kernel
theorem dTC_lackOf_59 : decode cTC_lackOf 59 = .ok (.iaload, 1) := by decide +kernel
theorem dTC_lackOf_60 : decode cTC_lackOf 60 = .ok (.iconst (-1), 1) := by decide +kernel
theorem dTC_lackOf_61 : decode cTC_lackOf 61 = .ok (.ixor, 1) := by decide +kernel
theorem dTC_lackOf_62 : decode cTC_lackOf 62 = .ok (.iand, 1) := by decide +kernel
theorem dTC_lackOf_63 : decode cTC_lackOf 63 = .ok (.invokestatic 152, 3) := by decide +kernel
theorem dTC_lackOf_66 : decode cTC_lackOf 66 = .ok (.ireturn, 1) := by decide +kernel
theorem dTC_lackOf_67 : decode cTC_lackOf 67 = .ok (.aload_n 0, 1) := by decide +kernel
theorem dTC_lackOf_68 : decode cTC_lackOf 68 = .ok (.iload_n 2, 1) := by decide +kernel
theorem dTC_lackOf_69 : decode cTC_lackOf 69 = .ok (.iload_n 3, 1) := by decide +kernel
theorem dTC_lackOf_70 : decode cTC_lackOf 70 = .ok (.invokevirtual 155, 3) := by decide +kernel
theorem dTC_lackOf_73 : decode cTC_lackOf 73 = .ok (.ireturn, 1) := by decide +kernel
theorem dTC_lackOf_74 : decode cTC_lackOf 74 = .ok (.iconst (-1), 1) := by decide +kernel
theorem dTC_lackOf_75 : decode cTC_lackOf 75 = .ok (.ireturn, 1) := by decide +kernel
theorem dTC_lowestUnsupplied_0 : decode cTC_lowestUnsupplied 0 = .ok (.iconst 0, 1) := by decide +kernel
theorem dTC_lowestUnsupplied_1 : decode cTC_lowestUnsupplied 1 = .ok (.istore_n 3, 1) := by decide +kernel
theorem dTC_lowestUnsupplied_2 : decode cTC_lowestUnsupplied 2 = .ok (.iload_n 3, 1) := by decide +kernel
theorem dTC_lowestUnsupplied_3 : decode cTC_lowestUnsupplied 3 = .ok (.bipush 8, 2) := by decide +kernel
theorem dTC_lowestUnsupplied_5 : decode cTC_lowestUnsupplied 5 = .ok (.if_icmp .ge 37, 3) := by decide +kernel
theorem dTC_lowestUnsupplied_8 : decode cTC_lowestUnsupplied 8 = .ok (.aload_n 0, 1) := by decide +kernel
theorem dTC_lowestUnsupplied_9 : decode cTC_lowestUnsupplied 9 = .ok (.getfield 29, 3) := by decide +kernel
theorem dTC_lowestUnsupplied_12 : decode cTC_lowestUnsupplied 12 = .ok (.iload_n 1, 1) := by decide +kernel
theorem dTC_lowestUnsupplied_13 : decode cTC_lowestUnsupplied 13 = .ok (.iaload, 1) := by decide +kernel
theorem dTC_lowestUnsupplied_14 : decode cTC_lowestUnsupplied 14 = .ok (.iload_n 3, 1) := by decide +kernel
theorem dTC_lowestUnsupplied_15 : decode cTC_lowestUnsupplied 15 = .ok (.invokestatic 93, 3) := by decide +kernel
theorem dTC_lowestUnsupplied_18 : decode cTC_lowestUnsupplied 18 = .ok (.ifCond .eq 18, 3) := by decide +kernel
theorem dTC_lowestUnsupplied_21 : decode cTC_lowestUnsupplied 21 = .ok (.aload_n 0, 1) := by decide +kernel
theorem dTC_lowestUnsupplied_22 : decode cTC_lowestUnsupplied 22 = .ok (.getfield 70, 3) := by decide +kernel
theorem dTC_lowestUnsupplied_25 : decode cTC_lowestUnsupplied 25 = .ok (.iload_n 3, 1) := by decide +kernel
theorem dTC_lowestUnsupplied_26 : decode cTC_lowestUnsupplied 26 = .ok (.iaload, 1) := by decide +kernel
theorem dTC_lowestUnsupplied_27 : decode cTC_lowestUnsupplied 27 = .ok (.iload_n 2, 1) := by decide +kernel
theorem dTC_lowestUnsupplied_28 : decode cTC_lowestUnsupplied 28 = .ok (.invokestatic 93, 3) := by decide +kernel
theorem dTC_lowestUnsupplied_31 : decode cTC_lowestUnsupplied 31 = .ok (.ifCond .ne 5, 3) := by decide +kernel
theorem dTC_lowestUnsupplied_34 : decode cTC_lowestUnsupplied 34 = .ok (.iload_n 3, 1) := by decide +kernel
theorem dTC_lowestUnsupplied_35 : decode cTC_lowestUnsupplied 35 = .ok (.ireturn, 1) := by decide +kernel
theorem dTC_lowestUnsupplied_36 : decode cTC_lowestUnsupplied 36 = .ok (.iinc 3 1, 3) := by decide +kernel
theorem dTC_lowestUnsupplied_39 : decode cTC_lowestUnsupplied 39 = .ok (.goto (-37), 3) := by decide +kernel
theorem dTC_lowestUnsupplied_42 : decode cTC_lowestUnsupplied 42 = .ok (.iconst (-1), 1) := by decide +kernel
theorem dTC_lowestUnsupplied_43 : decode cTC_lowestUnsupplied 43 = .ok (.ireturn, 1) := by decide +kernel
theorem dTC_platformsHaving_0 : decode cTC_platformsHaving 0 = .ok (.iconst 0, 1) := by decide +kernel
theorem dTC_platformsHaving_1 : decode cTC_platformsHaving 1 = .ok (.istore_n 2, 1) := by decide +kernel
theorem dTC_platformsHaving_2 : decode cTC_platformsHaving 2 = .ok (.iconst 0, 1) := by decide +kernel
theorem dTC_platformsHaving_3 : decode cTC_platformsHaving 3 = .ok (.istore_n 3, 1) := by decide +kernel
theorem dTC_platformsHaving_4 : decode cTC_platformsHaving 4 = .ok (.iload_n 3, 1) := by decide +kernel
theorem dTC_platformsHaving_5 : decode cTC_platformsHaving 5 = .ok (.aload_n 0, 1) := by decide +kernel
theorem dTC_platformsHaving_6 : decode cTC_platformsHaving 6 = .ok (.getfield 13, 3) := by decide +kernel
theorem dTC_platformsHaving_9 : decode cTC_platformsHaving 9 = .ok (.if_icmp .ge 28, 3) := by decide +kernel
theorem dTC_platformsHaving_12 : decode cTC_platformsHaving 12 = .ok (.iload_n 1, 1) := by decide +kernel
theorem dTC_platformsHaving_13 : decode cTC_platformsHaving 13 = .ok (.aload_n 0, 1) := by decide +kernel
theorem dTC_platformsHaving_14 : decode cTC_platformsHaving 14 = .ok (.getfield 9, 3) := by decide +kernel
theorem dTC_platformsHaving_17 : decode cTC_platformsHaving 17 = .ok (.iload_n 3, 1) := by decide +kernel
theorem dTC_platformsHaving_18 : decode cTC_platformsHaving 18 = .ok (.iaload, 1) := by decide +kernel
theorem dTC_platformsHaving_19 : decode cTC_platformsHaving 19 = .ok (.iconst (-1), 1) := by decide +kernel
theorem dTC_platformsHaving_20 : decode cTC_platformsHaving 20 = .ok (.ixor, 1) := by decide +kernel
theorem dTC_platformsHaving_21 : decode cTC_platformsHaving 21 = .ok (.iand, 1) := by decide +kernel
theorem dTC_platformsHaving_22 : decode cTC_platformsHaving 22 = .ok (.ifCond .ne 9, 3) := by decide +kernel
theorem dTC_platformsHaving_25 : decode cTC_platformsHaving 25 = .ok (.iload_n 2, 1) := by decide +kernel
theorem dTC_platformsHaving_26 : decode cTC_platformsHaving 26 = .ok (.iconst 1, 1) := by decide +kernel
theorem dTC_platformsHaving_27 : decode cTC_platformsHaving 27 = .ok (.iload_n 3, 1) := by decide +kernel
theorem dTC_platformsHaving_28 : decode cTC_platformsHaving 28 = .ok (.ishl, 1) := by decide +kernel
theorem dTC_platformsHaving_29 : decode cTC_platformsHaving 29 = .ok (.ior, 1) := by decide +kernel
theorem dTC_platformsHaving_30 : decode cTC_platformsHaving 30 = .ok (.istore_n 2, 1) := by decide +kernel
theorem dTC_platformsHaving_31 : decode cTC_platformsHaving 31 = .ok (.iinc 3 1, 3) := by decide +kernel
theorem dTC_platformsHaving_34 : decode cTC_platformsHaving 34 = .ok (.goto (-30), 3) := by decide +kernel
theorem dTC_platformsHaving_37 : decode cTC_platformsHaving 37 = .ok (.iload_n 2, 1) := by decide +kernel
theorem dTC_platformsHaving_38 : decode cTC_platformsHaving 38 = .ok (.ireturn, 1) := by decide +kernel
theorem dTC_settleBuilt_0 : decode cTC_settleBuilt 0 = .ok (.iconst 0, 1) := by decide +kernel
theorem dTC_settleBuilt_1 : decode cTC_settleBuilt 1 = .ok (.istore_n 1, 1) := by decide +kernel
theorem dTC_settleBuilt_2 : decode cTC_settleBuilt 2 = .ok (.iload_n 1, 1) := by decide +kernel
theorem dTC_settleBuilt_3 : decode cTC_settleBuilt 3 = .ok (.aload_n 0, 1) := by decide +kernel
theorem dTC_settleBuilt_4 : decode cTC_settleBuilt 4 = .ok (.getfield 35, 3) := by decide +kernel
theorem dTC_settleBuilt_7 : decode cTC_settleBuilt 7 = .ok (.if_icmp .ge 48, 3) := by decide +kernel
theorem dTC_settleBuilt_10 : decode cTC_settleBuilt 10 = .ok (.aload_n 0, 1) := by decide +kernel
theorem dTC_settleBuilt_11 : decode cTC_settleBuilt 11 = .ok (.getfield 61, 3) := by decide +kernel
theorem dTC_settleBuilt_14 : decode cTC_settleBuilt 14 = .ok (.iload_n 1, 1) := by decide +kernel
theorem dTC_settleBuilt_15 : decode cTC_settleBuilt 15 = .ok (.aload_n 0, 1) := by decide +kernel
theorem dTC_settleBuilt_16 : decode cTC_settleBuilt 16 = .ok (.aload_n 0, 1) := by decide +kernel
theorem dTC_settleBuilt_17 : decode cTC_settleBuilt 17 = .ok (.getfield 20, 3) := by decide +kernel
theorem dTC_settleBuilt_20 : decode cTC_settleBuilt 20 = .ok (.iload_n 1, 1) := by decide +kernel
theorem dTC_settleBuilt_21 : decode cTC_settleBuilt 21 = .ok (.iaload, 1) := by decide +kernel
theorem dTC_settleBuilt_22 : decode cTC_settleBuilt 22 = .ok (.invokevirtual 158, 3) := by decide +kernel
theorem dTC_settleBuilt_25 : decode cTC_settleBuilt 25 = .ok (.iastore, 1) := by decide +kernel
theorem dTC_settleBuilt_26 : decode cTC_settleBuilt 26 = .ok (.aload_n 0, 1) := by decide +kernel
theorem dTC_settleBuilt_27 : decode cTC_settleBuilt 27 = .ok (.getfield 64, 3) := by decide +kernel
theorem dTC_settleBuilt_30 : decode cTC_settleBuilt 30 = .ok (.iload_n 1, 1) := by decide +kernel
theorem dTC_settleBuilt_31 : decode cTC_settleBuilt 31 = .ok (.aload_n 0, 1) := by decide +kernel
theorem dTC_settleBuilt_32 : decode cTC_settleBuilt 32 = .ok (.aload_n 0, 1) := by decide +kernel
theorem dTC_settleBuilt_33 : decode cTC_settleBuilt 33 = .ok (.getfield 23, 3) := by decide +kernel
theorem dTC_settleBuilt_36 : decode cTC_settleBuilt 36 = .ok (.iload_n 1, 1) := by decide +kernel
theorem dTC_settleBuilt_37 : decode cTC_settleBuilt 37 = .ok (.iaload, 1) := by decide +kernel
theorem dTC_settleBuilt_38 : decode cTC_settleBuilt 38 = .ok (.invokevirtual 158, 3) := by decide +kernel
theorem dTC_settleBuilt_41 : decode cTC_settleBuilt 41 = .ok (.iastore, 1) := by decide +kernel
theorem dTC_settleBuilt_42 : decode cTC_settleBuilt 42 = .ok (.aload_n 0, 1) := by decide +kernel
theorem dTC_settleBuilt_43 : decode cTC_settleBuilt 43 = .ok (.getfield 67, 3) := by decide +kernel
theorem dTC_settleBuilt_46 : decode cTC_settleBuilt 46 = .ok (.iload_n 1, 1) := by decide +kernel
theorem dTC_settleBuilt_47 : decode cTC_settleBuilt 47 = .ok (.iconst 0, 1) := by decide +kernel
theorem dTC_settleBuilt_48 : decode cTC_settleBuilt 48 = .ok (.iastore, 1) := by decide +kernel
theorem dTC_settleBuilt_49 : decode cTC_settleBuilt 49 = .ok (.iinc 1 1, 3) := by decide +kernel
theorem dTC_settleBuilt_52 : decode cTC_settleBuilt 52 = .ok (.goto (-50), 3) := by decide +kernel
theorem dTC_settleBuilt_55 : decode cTC_settleBuilt 55 = .ok (.aload_n 0, 1) := by decide +kernel
theorem dTC_settleBuilt_56 : decode cTC_settleBuilt 56 = .ok (.getfield 70, 3) := by decide +kernel
theorem dTC_settleBuilt_59 : decode cTC_settleBuilt 59 = .ok (.iconst 0, 1) := by decide +kernel
theorem dTC_settleBuilt_60 : decode cTC_settleBuilt 60 = .ok (.invokestatic 76, 3) := by decide +kernel
theorem dTC_settleBuilt_63 : decode cTC_settleBuilt 63 = .ok (.iconst 1, 1) := by decide +kernel
theorem dTC_settleBuilt_64 : decode cTC_settleBuilt 64 = .ok (.istore_n 1, 1) := by decide +kernel
theorem dTC_settleBuilt_65 : decode cTC_settleBuilt 65 = .ok (.iconst 0, 1) := by decide +kernel
theorem dTC_settleBuilt_66 : decode cTC_settleBuilt 66 = .ok (.istore_n 2, 1) := by decide +kernel
theorem dTC_settleBuilt_67 : decode cTC_settleBuilt 67 = .ok (.iload_n 2, 1) := by decide +kernel
theorem dTC_settleBuilt_68 : decode cTC_settleBuilt 68 = .ok (.aload_n 0, 1) := by decide +kernel
theorem dTC_settleBuilt_69 : decode cTC_settleBuilt 69 = .ok (.getfield 35, 3) := by decide +kernel
theorem dTC_settleBuilt_72 : decode cTC_settleBuilt 72 = .ok (.if_icmp .gt 18, 3) := by decide +kernel
theorem dTC_settleBuilt_75 : decode cTC_settleBuilt 75 = .ok (.iload_n 1, 1) := by decide +kernel
theorem dTC_settleBuilt_76 : decode cTC_settleBuilt 76 = .ok (.ifCond .eq 14, 3) := by decide +kernel
theorem dTC_settleBuilt_79 : decode cTC_settleBuilt 79 = .ok (.aload_n 0, 1) := by decide +kernel
theorem dTC_settleBuilt_80 : decode cTC_settleBuilt 80 = .ok (.invokevirtual 161, 3) := by decide +kernel
theorem dTC_settleBuilt_83 : decode cTC_settleBuilt 83 = .ok (.istore_n 1, 1) := by decide +kernel
theorem dTC_settleBuilt_84 : decode cTC_settleBuilt 84 = .ok (.iinc 2 1, 3) := by decide +kernel
theorem dTC_settleBuilt_87 : decode cTC_settleBuilt 87 = .ok (.goto (-20), 3) := by decide +kernel
theorem dTC_settleBuilt_90 : decode cTC_settleBuilt 90 = .ok (.return_, 1) := by decide +kernel
theorem dTC_growBuilt_0 : decode cTC_growBuilt 0 = .ok (.iconst 0, 1) := by decide +kernel
theorem dTC_growBuilt_1 : decode cTC_growBuilt 1 = .ok (.istore_n 1, 1) := by decide +kernel
theorem dTC_growBuilt_2 : decode cTC_growBuilt 2 = .ok (.iconst 0, 1) := by decide +kernel
theorem dTC_growBuilt_3 : decode cTC_growBuilt 3 = .ok (.istore_n 2, 1) := by decide +kernel
theorem dTC_growBuilt_4 : decode cTC_growBuilt 4 = .ok (.iload_n 2, 1) := by decide +kernel
theorem dTC_growBuilt_5 : decode cTC_growBuilt 5 = .ok (.aload_n 0, 1) := by decide +kernel
theorem dTC_growBuilt_6 : decode cTC_growBuilt 6 = .ok (.getfield 35, 3) := by decide +kernel
theorem dTC_growBuilt_9 : decode cTC_growBuilt 9 = .ok (.if_icmp .ge 54, 3) := by decide +kernel
theorem dTC_growBuilt_12 : decode cTC_growBuilt 12 = .ok (.aload_n 0, 1) := by decide +kernel
theorem dTC_growBuilt_13 : decode cTC_growBuilt 13 = .ok (.iload_n 2, 1) := by decide +kernel
theorem dTC_growBuilt_14 : decode cTC_growBuilt 14 = .ok (.invokevirtual 165, 3) := by decide +kernel
theorem dTC_growBuilt_17 : decode cTC_growBuilt 17 = .ok (.istore_n 3, 1) := by decide +kernel
theorem dTC_growBuilt_18 : decode cTC_growBuilt 18 = .ok (.iload_n 3, 1) := by decide +kernel
theorem dTC_growBuilt_19 : decode cTC_growBuilt 19 = .ok (.aload_n 0, 1) := by decide +kernel
theorem dTC_growBuilt_20 : decode cTC_growBuilt 20 = .ok (.getfield 67, 3) := by decide +kernel
theorem dTC_growBuilt_23 : decode cTC_growBuilt 23 = .ok (.iload_n 2, 1) := by decide +kernel
theorem dTC_growBuilt_24 : decode cTC_growBuilt 24 = .ok (.iaload, 1) := by decide +kernel
theorem dTC_growBuilt_25 : decode cTC_growBuilt 25 = .ok (.if_icmp .eq 32, 3) := by decide +kernel
theorem dTC_growBuilt_28 : decode cTC_growBuilt 28 = .ok (.aload_n 0, 1) := by decide +kernel
theorem dTC_growBuilt_29 : decode cTC_growBuilt 29 = .ok (.getfield 67, 3) := by decide +kernel
theorem dTC_growBuilt_32 : decode cTC_growBuilt 32 = .ok (.iload_n 2, 1) := by decide +kernel
theorem dTC_growBuilt_33 : decode cTC_growBuilt 33 = .ok (.iload_n 3, 1) := by decide +kernel
theorem dTC_growBuilt_34 : decode cTC_growBuilt 34 = .ok (.iastore, 1) := by decide +kernel
theorem dTC_growBuilt_35 : decode cTC_growBuilt 35 = .ok (.aload_n 0, 1) := by decide +kernel
theorem dTC_growBuilt_36 : decode cTC_growBuilt 36 = .ok (.getfield 70, 3) := by decide +kernel
theorem dTC_growBuilt_39 : decode cTC_growBuilt 39 = .ok (.aload_n 0, 1) := by decide +kernel
theorem dTC_growBuilt_40 : decode cTC_growBuilt 40 = .ok (.getfield 17, 3) := by decide +kernel
theorem dTC_growBuilt_43 : decode cTC_growBuilt 43 = .ok (.iload_n 2, 1) := by decide +kernel
theorem dTC_growBuilt_44 : decode cTC_growBuilt 44 = .ok (.iaload, 1) := by decide +kernel
theorem dTC_growBuilt_45 : decode cTC_growBuilt 45 = .ok (.dup2, 1) := by decide +kernel
theorem dTC_growBuilt_46 : decode cTC_growBuilt 46 = .ok (.iaload, 1) := by decide +kernel
theorem dTC_growBuilt_47 : decode cTC_growBuilt 47 = .ok (.aload_n 0, 1) := by decide +kernel
theorem dTC_growBuilt_48 : decode cTC_growBuilt 48 = .ok (.getfield 64, 3) := by decide +kernel
theorem dTC_growBuilt_51 : decode cTC_growBuilt 51 = .ok (.iload_n 2, 1) := by decide +kernel
theorem dTC_growBuilt_52 : decode cTC_growBuilt 52 = .ok (.iaload, 1) := by decide +kernel
theorem dTC_growBuilt_53 : decode cTC_growBuilt 53 = .ok (.ior, 1) := by decide +kernel
theorem dTC_growBuilt_54 : decode cTC_growBuilt 54 = .ok (.iastore, 1) := by decide +kernel
theorem dTC_growBuilt_55 : decode cTC_growBuilt 55 = .ok (.iconst 1, 1) := by decide +kernel
theorem dTC_growBuilt_56 : decode cTC_growBuilt 56 = .ok (.istore_n 1, 1) := by decide +kernel
theorem dTC_growBuilt_57 : decode cTC_growBuilt 57 = .ok (.iinc 2 1, 3) := by decide +kernel
theorem dTC_growBuilt_60 : decode cTC_growBuilt 60 = .ok (.goto (-56), 3) := by decide +kernel
theorem dTC_growBuilt_63 : decode cTC_growBuilt 63 = .ok (.iload_n 1, 1) := by decide +kernel
theorem dTC_growBuilt_64 : decode cTC_growBuilt 64 = .ok (.ireturn, 1) := by decide +kernel
theorem dTC_platformsWithSupplies_0 : decode cTC_platformsWithSupplies 0 = .ok (.aload_n 0, 1) := by decide +kernel
theorem dTC_platformsWithSupplies_1 : decode cTC_platformsWithSupplies 1 = .ok (.getfield 61, 3) := by decide +kernel
theorem dTC_platformsWithSupplies_4 : decode cTC_platformsWithSupplies 4 = .ok (.iload_n 1, 1) := by decide +kernel
theorem dTC_platformsWithSupplies_5 : decode cTC_platformsWithSupplies 5 = .ok (.iaload, 1) := by decide +kernel
theorem dTC_platformsWithSupplies_6 : decode cTC_platformsWithSupplies 6 = .ok (.istore_n 2, 1) := by decide +kernel
theorem dTC_platformsWithSupplies_7 : decode cTC_platformsWithSupplies 7 = .ok (.iconst 0, 1) := by decide +kernel
theorem dTC_platformsWithSupplies_8 : decode cTC_platformsWithSupplies 8 = .ok (.istore_n 3, 1) := by decide +kernel
theorem dTC_platformsWithSupplies_9 : decode cTC_platformsWithSupplies 9 = .ok (.iload_n 3, 1) := by decide +kernel
theorem dTC_platformsWithSupplies_10 : decode cTC_platformsWithSupplies 10 = .ok (.bipush 8, 2) := by decide +kernel
theorem dTC_platformsWithSupplies_12 : decode cTC_platformsWithSupplies 12 = .ok (.if_icmp .ge 31, 3) := by decide +kernel
theorem dTC_platformsWithSupplies_15 : decode cTC_platformsWithSupplies 15 = .ok (.aload_n 0, 1) := by decide +kernel
theorem dTC_platformsWithSupplies_16 : decode cTC_platformsWithSupplies 16 = .ok (.getfield 29, 3) := by decide +kernel
theorem dTC_platformsWithSupplies_19 : decode cTC_platformsWithSupplies 19 = .ok (.iload_n 1, 1) := by decide +kernel
theorem dTC_platformsWithSupplies_20 : decode cTC_platformsWithSupplies 20 = .ok (.iaload, 1) := by decide +kernel
theorem dTC_platformsWithSupplies_21 : decode cTC_platformsWithSupplies 21 = .ok (.iload_n 3, 1) := by decide +kernel
theorem dTC_platformsWithSupplies_22 : decode cTC_platformsWithSupplies 22 = .ok (.invokestatic 93, 3) := by decide +kernel
theorem dTC_platformsWithSupplies_25 : decode cTC_platformsWithSupplies 25 = .ok (.ifCond .eq 12, 3) := by decide +kernel
theorem dTC_platformsWithSupplies_28 : decode cTC_platformsWithSupplies 28 = .ok (.iload_n 2, 1) := by decide +kernel
theorem dTC_platformsWithSupplies_29 : decode cTC_platformsWithSupplies 29 = .ok (.aload_n 0, 1) := by decide +kernel
theorem dTC_platformsWithSupplies_30 : decode cTC_platformsWithSupplies 30 = .ok (.getfield 70, 3) := by decide +kernel
theorem dTC_platformsWithSupplies_33 : decode cTC_platformsWithSupplies 33 = .ok (.iload_n 3, 1) := by decide +kernel
theorem dTC_platformsWithSupplies_34 : decode cTC_platformsWithSupplies 34 = .ok (.iaload, 1) := by decide +kernel
theorem dTC_platformsWithSupplies_35 : decode cTC_platformsWithSupplies 35 = .ok (.iand, 1) := by decide +kernel
theorem dTC_platformsWithSupplies_36 : decode cTC_platformsWithSupplies 36 = .ok (.istore_n 2, 1) := by decide +kernel
theorem dTC_platformsWithSupplies_37 : decode cTC_platformsWithSupplies 37 = .ok (.iinc 3 1, 3) := by decide +kernel
theorem dTC_platformsWithSupplies_40 : decode cTC_platformsWithSupplies 40 = .ok (.goto (-31), 3) := by decide +kernel
theorem dTC_platformsWithSupplies_43 : decode cTC_platformsWithSupplies 43 = .ok (.iload_n 2, 1) := by decide +kernel
theorem dTC_platformsWithSupplies_44 : decode cTC_platformsWithSupplies 44 = .ok (.ireturn, 1) := by decide +kernel
theorem dTC_settleLeads_0 : decode cTC_settleLeads 0 = .ok (.iconst 0, 1) := by decide +kernel
theorem dTC_settleLeads_1 : decode cTC_settleLeads 1 = .ok (.istore_n 1, 1) := by decide +kernel
theorem dTC_settleLeads_2 : decode cTC_settleLeads 2 = .ok (.iload_n 1, 1) := by decide +kernel
theorem dTC_settleLeads_3 : decode cTC_settleLeads 3 = .ok (.aload_n 0, 1) := by decide +kernel
theorem dTC_settleLeads_4 : decode cTC_settleLeads 4 = .ok (.getfield 35, 3) := by decide +kernel
theorem dTC_settleLeads_7 : decode cTC_settleLeads 7 = .ok (.if_icmp .ge 20, 3) := by decide +kernel
theorem dTC_settleLeads_10 : decode cTC_settleLeads 10 = .ok (.aload_n 0, 1) := by decide +kernel
theorem dTC_settleLeads_11 : decode cTC_settleLeads 11 = .ok (.getfield 73, 3) := by decide +kernel
theorem dTC_settleLeads_14 : decode cTC_settleLeads 14 = .ok (.iload_n 1, 1) := by decide +kernel
theorem dTC_settleLeads_15 : decode cTC_settleLeads 15 = .ok (.aload_n 0, 1) := by decide +kernel
theorem dTC_settleLeads_16 : decode cTC_settleLeads 16 = .ok (.iload_n 1, 1) := by decide +kernel
theorem dTC_settleLeads_17 : decode cTC_settleLeads 17 = .ok (.invokevirtual 168, 3) := by decide +kernel
theorem dTC_settleLeads_20 : decode cTC_settleLeads 20 = .ok (.iastore, 1) := by decide +kernel
theorem dTC_settleLeads_21 : decode cTC_settleLeads 21 = .ok (.iinc 1 1, 3) := by decide +kernel
theorem dTC_settleLeads_24 : decode cTC_settleLeads 24 = .ok (.goto (-22), 3) := by decide +kernel
theorem dTC_settleLeads_27 : decode cTC_settleLeads 27 = .ok (.iconst 0, 1) := by decide +kernel
theorem dTC_settleLeads_28 : decode cTC_settleLeads 28 = .ok (.istore_n 1, 1) := by decide +kernel
theorem dTC_settleLeads_29 : decode cTC_settleLeads 29 = .ok (.iload_n 1, 1) := by decide +kernel
theorem dTC_settleLeads_30 : decode cTC_settleLeads 30 = .ok (.aload_n 0, 1) := by decide +kernel
theorem dTC_settleLeads_31 : decode cTC_settleLeads 31 = .ok (.getfield 35, 3) := by decide +kernel
theorem dTC_settleLeads_34 : decode cTC_settleLeads 34 = .ok (.if_icmp .ge 53, 3) := by decide +kernel
theorem dTC_settleLeads_37 : decode cTC_settleLeads 37 = .ok (.iconst 0, 1) := by decide +kernel
theorem dTC_settleLeads_38 : decode cTC_settleLeads 38 = .ok (.istore_n 2, 1) := by decide +kernel
theorem dTC_settleLeads_39 : decode cTC_settleLeads 39 = .ok (.iload_n 2, 1) := by decide +kernel
theorem dTC_settleLeads_40 : decode cTC_settleLeads 40 = .ok (.aload_n 0, 1) := by decide +kernel
theorem dTC_settleLeads_41 : decode cTC_settleLeads 41 = .ok (.getfield 35, 3) := by decide +kernel
theorem dTC_settleLeads_44 : decode cTC_settleLeads 44 = .ok (.if_icmp .ge 37, 3) := by decide +kernel
theorem dTC_settleLeads_47 : decode cTC_settleLeads 47 = .ok (.aload_n 0, 1) := by decide +kernel
theorem dTC_settleLeads_48 : decode cTC_settleLeads 48 = .ok (.getfield 73, 3) := by decide +kernel
theorem dTC_settleLeads_51 : decode cTC_settleLeads 51 = .ok (.iload_n 2, 1) := by decide +kernel
theorem dTC_settleLeads_52 : decode cTC_settleLeads 52 = .ok (.iaload, 1) := by decide +kernel
theorem dTC_settleLeads_53 : decode cTC_settleLeads 53 = .ok (.iload_n 1, 1) := by decide +kernel
theorem dTC_settleLeads_54 : decode cTC_settleLeads 54 = .ok (.invokestatic 93, 3) := by decide +kernel
theorem dTC_settleLeads_57 : decode cTC_settleLeads 57 = .ok (.ifCond .eq 18, 3) := by decide +kernel
theorem dTC_settleLeads_60 : decode cTC_settleLeads 60 = .ok (.aload_n 0, 1) := by decide +kernel
theorem dTC_settleLeads_61 : decode cTC_settleLeads 61 = .ok (.getfield 73, 3) := by decide +kernel
theorem dTC_settleLeads_64 : decode cTC_settleLeads 64 = .ok (.iload_n 2, 1) := by decide +kernel
theorem dTC_settleLeads_65 : decode cTC_settleLeads 65 = .ok (.dup2, 1) := by decide +kernel
theorem dTC_settleLeads_66 : decode cTC_settleLeads 66 = .ok (.iaload, 1) := by decide +kernel
theorem dTC_settleLeads_67 : decode cTC_settleLeads 67 = .ok (.aload_n 0, 1) := by decide +kernel
theorem dTC_settleLeads_68 : decode cTC_settleLeads 68 = .ok (.getfield 73, 3) := by decide +kernel
theorem dTC_settleLeads_71 : decode cTC_settleLeads 71 = .ok (.iload_n 1, 1) := by decide +kernel
theorem dTC_settleLeads_72 : decode cTC_settleLeads 72 = .ok (.iaload, 1) := by decide +kernel
theorem dTC_settleLeads_73 : decode cTC_settleLeads 73 = .ok (.ior, 1) := by decide +kernel
theorem dTC_settleLeads_74 : decode cTC_settleLeads 74 = .ok (.iastore, 1) := by decide +kernel
theorem dTC_settleLeads_75 : decode cTC_settleLeads 75 = .ok (.iinc 2 1, 3) := by decide +kernel
theorem dTC_settleLeads_78 : decode cTC_settleLeads 78 = .ok (.goto (-39), 3) := by decide +kernel
theorem dTC_settleLeads_81 : decode cTC_settleLeads 81 = .ok (.iinc 1 1, 3) := by decide +kernel
theorem dTC_settleLeads_84 : decode cTC_settleLeads 84 = .ok (.goto (-55), 3) := by decide +kernel
theorem dTC_settleLeads_87 : decode cTC_settleLeads 87 = .ok (.return_, 1) := by decide +kernel
theorem dTC_stepsFrom_0 : decode cTC_stepsFrom 0 = .ok (.iconst 0, 1) := by decide +kernel
theorem dTC_stepsFrom_1 : decode cTC_stepsFrom 1 = .ok (.istore_n 2, 1) := by decide +kernel
theorem dTC_stepsFrom_2 : decode cTC_stepsFrom 2 = .ok (.iconst 0, 1) := by decide +kernel
theorem dTC_stepsFrom_3 : decode cTC_stepsFrom 3 = .ok (.istore_n 3, 1) := by decide +kernel
theorem dTC_stepsFrom_4 : decode cTC_stepsFrom 4 = .ok (.iload_n 3, 1) := by decide +kernel
theorem dTC_stepsFrom_5 : decode cTC_stepsFrom 5 = .ok (.aload_n 0, 1) := by decide +kernel
theorem dTC_stepsFrom_6 : decode cTC_stepsFrom 6 = .ok (.getfield 35, 3) := by decide +kernel
theorem dTC_stepsFrom_9 : decode cTC_stepsFrom 9 = .ok (.if_icmp .ge 72, 3) := by decide +kernel
theorem dTC_stepsFrom_12 : decode cTC_stepsFrom 12 = .ok (.aload_n 0, 1) := by decide +kernel
theorem dTC_stepsFrom_13 : decode cTC_stepsFrom 13 = .ok (.getfield 29, 3) := by decide +kernel
theorem dTC_stepsFrom_16 : decode cTC_stepsFrom 16 = .ok (.iload_n 1, 1) := by decide +kernel
theorem dTC_stepsFrom_17 : decode cTC_stepsFrom 17 = .ok (.iaload, 1) := by decide +kernel
theorem dTC_stepsFrom_18 : decode cTC_stepsFrom 18 = .ok (.aload_n 0, 1) := by decide +kernel
theorem dTC_stepsFrom_19 : decode cTC_stepsFrom 19 = .ok (.getfield 17, 3) := by decide +kernel
theorem dTC_stepsFrom_22 : decode cTC_stepsFrom 22 = .ok (.iload_n 3, 1) := by decide +kernel
theorem dTC_stepsFrom_23 : decode cTC_stepsFrom 23 = .ok (.iaload, 1) := by decide +kernel
theorem dTC_stepsFrom_24 : decode cTC_stepsFrom 24 = .ok (.invokestatic 93, 3) := by decide +kernel
theorem dTC_stepsFrom_27 : decode cTC_stepsFrom 27 = .ok (.istore 4, 2) := by decide +kernel
theorem dTC_stepsFrom_29 : decode cTC_stepsFrom 29 = .ok (.aload_n 0, 1) := by decide +kernel
theorem dTC_stepsFrom_30 : decode cTC_stepsFrom 30 = .ok (.getfield 64, 3) := by decide +kernel
theorem dTC_stepsFrom_33 : decode cTC_stepsFrom 33 = .ok (.iload_n 3, 1) := by decide +kernel
theorem dTC_stepsFrom_34 : decode cTC_stepsFrom 34 = .ok (.iaload, 1) := by decide +kernel
theorem dTC_stepsFrom_35 : decode cTC_stepsFrom 35 = .ok (.aload_n 0, 1) := by decide +kernel
theorem dTC_stepsFrom_36 : decode cTC_stepsFrom 36 = .ok (.iload_n 1, 1) := by decide +kernel
theorem dTC_stepsFrom_37 : decode cTC_stepsFrom 37 = .ok (.invokevirtual 171, 3) := by decide +kernel
theorem dTC_stepsFrom_40 : decode cTC_stepsFrom 40 = .ok (.iand, 1) := by decide +kernel
theorem dTC_stepsFrom_41 : decode cTC_stepsFrom 41 = .ok (.ifCond .eq 7, 3) := by decide +kernel
theorem dTC_stepsFrom_44 : decode cTC_stepsFrom 44 = .ok (.iconst 1, 1) := by decide +kernel
theorem dTC_stepsFrom_45 : decode cTC_stepsFrom 45 = .ok (.goto 4, 3) := by decide +kernel
theorem dTC_stepsFrom_48 : decode cTC_stepsFrom 48 = .ok (.iconst 0, 1) := by decide +kernel
theorem dTC_stepsFrom_49 : decode cTC_stepsFrom 49 = .ok (.istore 5, 2) := by decide +kernel
theorem dTC_stepsFrom_51 : decode cTC_stepsFrom 51 = .ok (.iload 4, 2) := by decide +kernel
theorem dTC_stepsFrom_53 : decode cTC_stepsFrom 53 = .ok (.ifCond .eq 22, 3) := by decide +kernel
theorem dTC_stepsFrom_56 : decode cTC_stepsFrom 56 = .ok (.iload 5, 2) := by decide +kernel
theorem dTC_stepsFrom_58 : decode cTC_stepsFrom 58 = .ok (.ifCond .eq 17, 3) := by decide +kernel
theorem dTC_stepsFrom_61 : decode cTC_stepsFrom 61 = .ok (.aload_n 0, 1) := by decide +kernel
theorem dTC_stepsFrom_62 : decode cTC_stepsFrom 62 = .ok (.iload_n 3, 1) := by decide +kernel
theorem dTC_stepsFrom_63 : decode cTC_stepsFrom 63 = .ok (.invokevirtual 171, 3) := by decide +kernel
theorem dTC_stepsFrom_66 : decode cTC_stepsFrom 66 = .ok (.ifCond .eq 9, 3) := by decide +kernel
theorem dTC_stepsFrom_69 : decode cTC_stepsFrom 69 = .ok (.iload_n 2, 1) := by decide +kernel
theorem dTC_stepsFrom_70 : decode cTC_stepsFrom 70 = .ok (.iconst 1, 1) := by decide +kernel
theorem dTC_stepsFrom_71 : decode cTC_stepsFrom 71 = .ok (.iload_n 3, 1) := by decide +kernel
theorem dTC_stepsFrom_72 : decode cTC_stepsFrom 72 = .ok (.ishl, 1) := by decide +kernel
theorem dTC_stepsFrom_73 : decode cTC_stepsFrom 73 = .ok (.ior, 1) := by decide +kernel
theorem dTC_stepsFrom_74 : decode cTC_stepsFrom 74 = .ok (.istore_n 2, 1) := by decide +kernel
theorem dTC_stepsFrom_75 : decode cTC_stepsFrom 75 = .ok (.iinc 3 1, 3) := by decide +kernel
theorem dTC_stepsFrom_78 : decode cTC_stepsFrom 78 = .ok (.goto (-74), 3) := by decide +kernel
theorem dTC_stepsFrom_81 : decode cTC_stepsFrom 81 = .ok (.iload_n 2, 1) := by decide +kernel
theorem dTC_stepsFrom_82 : decode cTC_stepsFrom 82 = .ok (.ireturn, 1) := by decide +kernel
theorem dTC_unbuiltOn_0 : decode cTC_unbuiltOn 0 = .ok (.aload_n 0, 1) := by decide +kernel
theorem dTC_unbuiltOn_1 : decode cTC_unbuiltOn 1 = .ok (.getfield 61, 3) := by decide +kernel
theorem dTC_unbuiltOn_4 : decode cTC_unbuiltOn 4 = .ok (.iload_n 1, 1) := by decide +kernel
theorem dTC_unbuiltOn_5 : decode cTC_unbuiltOn 5 = .ok (.iaload, 1) := by decide +kernel
theorem dTC_unbuiltOn_6 : decode cTC_unbuiltOn 6 = .ok (.aload_n 0, 1) := by decide +kernel
theorem dTC_unbuiltOn_7 : decode cTC_unbuiltOn 7 = .ok (.getfield 67, 3) := by decide +kernel
theorem dTC_unbuiltOn_10 : decode cTC_unbuiltOn 10 = .ok (.iload_n 1, 1) := by decide +kernel
theorem dTC_unbuiltOn_11 : decode cTC_unbuiltOn 11 = .ok (.iaload, 1) := by decide +kernel
theorem dTC_unbuiltOn_12 : decode cTC_unbuiltOn 12 = .ok (.iconst (-1), 1) := by decide +kernel
theorem dTC_unbuiltOn_13 : decode cTC_unbuiltOn 13 = .ok (.ixor, 1) := by decide +kernel
theorem dTC_unbuiltOn_14 : decode cTC_unbuiltOn 14 = .ok (.iand, 1) := by decide +kernel
theorem dTC_unbuiltOn_15 : decode cTC_unbuiltOn 15 = .ok (.ireturn, 1) := by decide +kernel
