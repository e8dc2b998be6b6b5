theorem dX0_init_0 : decode cX0_init 0 = .ok (.aload_n 0, 1) := by decide +kernel
theorem dX0_init_1 : decode cX0_init 1 = .ok (.invokespecial 3, 3) := by decide +kernel
theorem dX0_init_4 : decode cX0_init 4 = .ok (.aload_n 0, 1) := by decide +kernel
theorem dX0_init_5 : decode cX0_init 5 = .ok (.new 9, 3) := by decide +kernel
theorem dX0_init_8 : decode cX0_init 8 = .ok (.dup, 1) := by decide +kernel
theorem dX0_init_9 : decode cX0_init 9 = .ok (.invokespecial 11, 3) := by decide +kernel
theorem dX0_init_12 : decode cX0_init 12 = .ok (.putfield 12, 3) := by decide +kernel
theorem dX0_init_15 : decode cX0_init 15 = .ok (.aload_n 0, 1) := by decide +kernel
theorem dX0_init_16 : decode cX0_init 16 = .ok (.iconst (-1), 1) := by decide +kernel
theorem dX0_init_17 : decode cX0_init 17 = .ok (.putfield 18, 3) := by decide +kernel
theorem dX0_init_20 : decode cX0_init 20 = .ok (.aload_n 0, 1) := by decide +kernel
theorem dX0_init_21 : decode cX0_init 21 = .ok (.aload_n 1, 1) := by decide +kernel
theorem dX0_init_22 : decode cX0_init 22 = .ok (.getfield 22, 3) := by decide +kernel
theorem dX0_init_25 : decode cX0_init 25 = .ok (.putfield 27, 3) := by decide +kernel
theorem dX0_init_28 : decode cX0_init 28 = .ok (.aload_n 0, 1) := by decide +kernel
theorem dX0_init_29 : decode cX0_init 29 = .ok (.aload_n 1, 1) := by decide +kernel
theorem dX0_init_30 : decode cX0_init 30 = .ok (.getfield 30, 3) := by decide +kernel
theorem dX0_init_33 : decode cX0_init 33 = .ok (.putfield 33, 3) := by decide +kernel
theorem dX0_init_36 : decode cX0_init 36 = .ok (.aload_n 0, 1) := by decide +kernel
theorem dX0_init_37 : decode cX0_init 37 = .ok (.aload_n 1, 1) := by decide +kernel
theorem dX0_init_38 : decode cX0_init 38 = .ok (.getfield 34, 3) := by decide +kernel
theorem dX0_init_41 : decode cX0_init 41 = .ok (.putfield 37, 3) := by decide +kernel
theorem dX0_init_44 : decode cX0_init 44 = .ok (.aload_n 0, 1) := by decide +kernel
theorem dX0_init_45 : decode cX0_init 45 = .ok (.aload_n 1, 1) := by decide +kernel
theorem dX0_init_46 : decode cX0_init 46 = .ok (.getfield 40, 3) := by decide +kernel
theorem dX0_init_49 : decode cX0_init 49 = .ok (.putfield 43, 3) := by decide +kernel
theorem dX0_init_52 : decode cX0_init 52 = .ok (.aload_n 0, 1) := by decide +kernel
theorem dX0_init_53 : decode cX0_init 53 = .ok (.iload_n 2, 1) := by decide +kernel
theorem dX0_init_54 : decode cX0_init 54 = .ok (.putfield 44, 3) := by decide +kernel
theorem dX0_init_57 : decode cX0_init 57 = .ok (.aload_n 0, 1) := by decide +kernel
theorem dX0_init_58 : decode cX0_init 58 = .ok (.iload_n 3, 1) := by decide +kernel
theorem dX0_init_59 : decode cX0_init 59 = .ok (.putfield 47, 3) := by decide +kernel
theorem dX0_init_62 : decode cX0_init 62 = .ok (.aload_n 0, 1) := by decide +kernel
theorem dX0_init_63 : decode cX0_init 63 = .ok (.iload_n 3, 1) := by decide +kernel
theorem dX0_init_64 : decode cX0_init 64 = .ok (.aload_n 1, 1) := by decide +kernel
theorem dX0_init_65 : decode cX0_init 65 = .ok (.getfield 50, 3) := by decide +kernel
theorem dX0_init_68 : decode cX0_init 68 = .ok (.imul, 1) := by decide +kernel
theorem dX0_init_69 : decode cX0_init 69 = .ok (.bipush 12, 2) := by decide +kernel
theorem dX0_init_71 : decode cX0_init 71 = .ok (.idiv, 1) := by decide +kernel
theorem dX0_init_72 : decode cX0_init 72 = .ok (.bipush 60, 2) := by decide +kernel
theorem dX0_init_74 : decode cX0_init 74 = .ok (.imul, 1) := by decide +kernel
theorem dX0_init_75 : decode cX0_init 75 = .ok (.bipush 100, 2) := by decide +kernel
theorem dX0_init_77 : decode cX0_init 77 = .ok (.idiv, 1) := by decide +kernel
theorem dX0_init_78 : decode cX0_init 78 = .ok (.putfield 53, 3) := by decide +kernel
theorem dX0_init_81 : decode cX0_init 81 = .ok (.return_, 1) := by decide +kernel
theorem dX0_grade_0 : decode cX0_grade 0 = .ok (.aload_n 0, 1) := by decide +kernel
theorem dX0_grade_1 : decode cX0_grade 1 = .ok (.getfield 12, 3) := by decide +kernel
theorem dX0_grade_4 : decode cX0_grade 4 = .ok (.getfield 54, 3) := by decide +kernel
theorem dX0_grade_7 : decode cX0_grade 7 = .ok (.iconst 2, 1) := by decide +kernel
theorem dX0_grade_8 : decode cX0_grade 8 = .ok (.if_icmp .lt 28, 3) := by decide +kernel
theorem dX0_grade_11 : decode cX0_grade 11 = .ok (.aload_n 0, 1) := by decide +kernel
theorem dX0_grade_12 : decode cX0_grade 12 = .ok (.getfield 12, 3) := by decide +kernel
theorem dX0_grade_15 : decode cX0_grade 15 = .ok (.getfield 57, 3) := by decide +kernel
theorem dX0_grade_18 : decode cX0_grade 18 = .ok (.aload_n 0, 1) := by decide +kernel
theorem dX0_grade_19 : decode cX0_grade 19 = .ok (.getfield 12, 3) := by decide +kernel
theorem dX0_grade_22 : decode cX0_grade 22 = .ok (.getfield 60, 3) := by decide +kernel
theorem dX0_grade_25 : decode cX0_grade 25 = .ok (.if_icmp .ne 11, 3) := by decide +kernel
theorem dX0_grade_28 : decode cX0_grade 28 = .ok (.aload_n 0, 1) := by decide +kernel
theorem dX0_grade_29 : decode cX0_grade 29 = .ok (.getfield 12, 3) := by decide +kernel
theorem dX0_grade_32 : decode cX0_grade 32 = .ok (.getfield 57, 3) := by decide +kernel
theorem dX0_grade_35 : decode cX0_grade 35 = .ok (.ireturn, 1) := by decide +kernel
theorem dX0_grade_36 : decode cX0_grade 36 = .ok (.aload_n 0, 1) := by decide +kernel
theorem dX0_grade_37 : decode cX0_grade 37 = .ok (.getfield 12, 3) := by decide +kernel
theorem dX0_grade_40 : decode cX0_grade 40 = .ok (.invokevirtual 63, 3) := by decide +kernel
theorem dX0_grade_43 : decode cX0_grade 43 = .ok (.ifCond .eq 13, 3) := by decide +kernel
theorem dX0_grade_46 : decode cX0_grade 46 = .ok (.aload_n 0, 1) := by decide +kernel
theorem dX0_grade_47 : decode cX0_grade 47 = .ok (.getfield 12, 3) := by decide +kernel
theorem dX0_grade_50 : decode cX0_grade 50 = .ok (.invokevirtual 67, 3) := by decide +kernel
theorem dX0_grade_53 : decode cX0_grade 53 = .ok (.goto 4, 3) := by decide +kernel
theorem dX0_grade_56 : decode cX0_grade 56 = .ok (.iconst (-1), 1) := by decide +kernel
theorem dX0_grade_57 : decode cX0_grade 57 = .ok (.ireturn, 1) := by decide +kernel
theorem dX0_gradedPrice_0 : decode cX0_gradedPrice 0 = .ok (.aload_n 0, 1) := by decide +kernel
theorem dX0_gradedPrice_1 : decode cX0_gradedPrice 1 = .ok (.invokevirtual 71, 3) := by decide +kernel
theorem dX0_gradedPrice_4 : decode cX0_gradedPrice 4 = .ok (.istore_n 1, 1) := by decide +kernel
theorem dX0_gradedPrice_5 : decode cX0_gradedPrice 5 = .ok (.iload_n 1, 1) := by decide +kernel
theorem dX0_gradedPrice_6 : decode cX0_gradedPrice 6 = .ok (.iconst (-1), 1) := by decide +kernel
theorem dX0_gradedPrice_7 : decode cX0_gradedPrice 7 = .ok (.if_icmp .ne 5, 3) := by decide +kernel
theorem dX0_gradedPrice_10 : decode cX0_gradedPrice 10 = .ok (.iconst (-1), 1) := by decide +kernel
theorem dX0_gradedPrice_11 : decode cX0_gradedPrice 11 = .ok (.ireturn, 1) := by decide +kernel
theorem dX0_gradedPrice_12 : decode cX0_gradedPrice 12 = .ok (.aload_n 0, 1) := by decide +kernel
theorem dX0_gradedPrice_13 : decode cX0_gradedPrice 13 = .ok (.getfield 53, 3) := by decide +kernel
theorem dX0_gradedPrice_16 : decode cX0_gradedPrice 16 = .ok (.bipush 20, 2) := by decide +kernel
theorem dX0_gradedPrice_18 : decode cX0_gradedPrice 18 = .ok (.iload_n 1, 1) := by decide +kernel
theorem dX0_gradedPrice_19 : decode cX0_gradedPrice 19 = .ok (.isub, 1) := by decide +kernel
theorem dX0_gradedPrice_20 : decode cX0_gradedPrice 20 = .ok (.imul, 1) := by decide +kernel
theorem dX0_gradedPrice_21 : decode cX0_gradedPrice 21 = .ok (.istore_n 2, 1) := by decide +kernel
theorem dX0_gradedPrice_22 : decode cX0_gradedPrice 22 = .ok (.aload_n 0, 1) := by decide +kernel
theorem dX0_gradedPrice_23 : decode cX0_gradedPrice 23 = .ok (.getfield 53, 3) := by decide +kernel
theorem dX0_gradedPrice_26 : decode cX0_gradedPrice 26 = .ok (.bipush 100, 2) := by decide +kernel
theorem dX0_gradedPrice_28 : decode cX0_gradedPrice 28 = .ok (.if_icmp .lt 9, 3) := by decide +kernel
theorem dX0_gradedPrice_31 : decode cX0_gradedPrice 31 = .ok (.iconst 2, 1) := by decide +kernel
theorem dX0_gradedPrice_32 : decode cX0_gradedPrice 32 = .ok (.iload_n 2, 1) := by decide +kernel
theorem dX0_gradedPrice_33 : decode cX0_gradedPrice 33 = .ok (.imul, 1) := by decide +kernel
theorem dX0_gradedPrice_34 : decode cX0_gradedPrice 34 = .ok (.goto 4, 3) := by decide +kernel
theorem dX0_gradedPrice_37 : decode cX0_gradedPrice 37 = .ok (.iload_n 2, 1) := by decide +kernel
theorem dX0_gradedPrice_38 : decode cX0_gradedPrice 38 = .ok (.ireturn, 1) := by decide +kernel
theorem dX1_init_0 : decode cX1_init 0 = .ok (.aload_n 0, 1) := by decide +kernel
theorem dX1_init_1 : decode cX1_init 1 = .ok (.invokespecial 1, 3) := by decide +kernel
theorem dX1_init_4 : decode cX1_init 4 = .ok (.return_, 1) := by decide +kernel
theorem dX1_isBy_0 : decode cX1_isBy 0 = .ok (.aload_n 0, 1) := by decide +kernel
theorem dX1_isBy_1 : decode cX1_isBy 1 = .ok (.getfield 7, 3) := by decide +kernel
theorem dX1_isBy_4 : decode cX1_isBy 4 = .ok (.iload_n 1, 1) := by decide +kernel
theorem dX1_isBy_5 : decode cX1_isBy 5 = .ok (.ishr, 1) := by decide +kernel
theorem dX1_isBy_6 : decode cX1_isBy 6 = .ok (.iconst 1, 1) := by decide +kernel
theorem dX1_isBy_7 : decode cX1_isBy 7 = .ok (.iand, 1) := by decide +kernel
theorem dX1_isBy_8 : decode cX1_isBy 8 = .ok (.ifCond .eq 7, 3) := by decide +kernel
theorem dX1_isBy_11 : decode cX1_isBy 11 = .ok (.iconst 1, 1) := by decide +kernel
theorem dX1_isBy_12 : decode cX1_isBy 12 = .ok (.goto 4, 3) := by decide +kernel
theorem dX1_isBy_15 : decode cX1_isBy 15 = .ok (.iconst 0, 1) := by decide +kernel
theorem dX1_isBy_16 : decode cX1_isBy 16 = .ok (.ireturn, 1) := by decide +kernel
theorem dX1_isFull_0 : decode cX1_isFull 0 = .ok (.aload_n 0, 1) := by decide +kernel
theorem dX1_isFull_1 : decode cX1_isFull 1 = .ok (.getfield 13, 3) := by decide +kernel
theorem dX1_isFull_4 : decode cX1_isFull 4 = .ok (.iconst 3, 1) := by decide +kernel
theorem dX1_isFull_5 : decode cX1_isFull 5 = .ok (.if_icmp .lt 7, 3) := by decide +kernel
theorem dX1_isFull_8 : decode cX1_isFull 8 = .ok (.iconst 1, 1) := by decide +kernel
theorem dX1_isFull_9 : decode cX1_isFull 9 = .ok (.goto 4, 3) := by decide +kernel
theorem dX1_isFull_12 : decode cX1_isFull 12 = .ok (.iconst 0, 1) := by decide +kernel
theorem dX1_isFull_13 : decode cX1_isFull 13 = .ok (.ireturn, 1) := by decide +kernel
theorem dX1_add_0 : decode cX1_add 0 = .ok (.aload_n 0, 1) := by decide +kernel
theorem dX1_add_1 : decode cX1_add 1 = .ok (.dup, 1) := by decide +kernel
theorem dX1_add_2 : decode cX1_add 2 = .ok (.getfield 7, 3) := by decide +kernel
theorem dX1_add_5 : decode cX1_add 5 = .ok (.iconst 1, 1) := by decide +kernel
theorem dX1_add_6 : decode cX1_add 6 = .ok (.iload_n 1, 1) := by decide +kernel
theorem dX1_add_7 : decode cX1_add 7 = .ok (.ishl, 1) := by decide +kernel
theorem dX1_add_8 : decode cX1_add 8 = .ok (.ior, 1) := by decide +kernel
theorem dX1_add_9 : decode cX1_add 9 = .ok (.putfield 7, 3) := by decide +kernel
theorem dX1_add_12 : decode cX1_add 12 = .ok (.aload_n 0, 1) := by decide +kernel
theorem dX1_add_13 : decode cX1_add 13 = .ok (.getfield 13, 3) := by decide +kernel
theorem dX1_add_16 : decode cX1_add 16 = .ok (.ifCond .ne 11, 3) := by decide +kernel
theorem dX1_add_19 : decode cX1_add 19 = .ok (.aload_n 0, 1) := by decide +kernel
theorem dX1_add_20 : decode cX1_add 20 = .ok (.iload_n 2, 1) := by decide +kernel
theorem dX1_add_21 : decode cX1_add 21 = .ok (.putfield 16, 3) := by decide +kernel
theorem dX1_add_24 : decode cX1_add 24 = .ok (.goto 24, 3) := by decide +kernel
theorem dX1_add_27 : decode cX1_add 27 = .ok (.aload_n 0, 1) := by decide +kernel
theorem dX1_add_28 : decode cX1_add 28 = .ok (.getfield 13, 3) := by decide +kernel
theorem dX1_add_31 : decode cX1_add 31 = .ok (.iconst 1, 1) := by decide +kernel
theorem dX1_add_32 : decode cX1_add 32 = .ok (.if_icmp .ne 11, 3) := by decide +kernel
theorem dX1_add_35 : decode cX1_add 35 = .ok (.aload_n 0, 1) := by decide +kernel
theorem dX1_add_36 : decode cX1_add 36 = .ok (.iload_n 2, 1) := by decide +kernel
theorem dX1_add_37 : decode cX1_add 37 = .ok (.putfield 19, 3) := by decide +kernel
theorem dX1_add_40 : decode cX1_add 40 = .ok (.goto 8, 3) := by decide +kernel
theorem dX1_add_43 : decode cX1_add 43 = .ok (.aload_n 0, 1) := by decide +kernel
theorem dX1_add_44 : decode cX1_add 44 = .ok (.iload_n 2, 1) := by decide +kernel
theorem dX1_add_45 : decode cX1_add 45 = .ok (.putfield 22, 3) := by decide +kernel
theorem dX1_add_48 : decode cX1_add 48 = .ok (.aload_n 0, 1) := by decide +kernel
theorem dX1_add_49 : decode cX1_add 49 = .ok (.dup, 1) := by decide +kernel
theorem dX1_add_50 : decode cX1_add 50 = .ok (.getfield 13, 3) := by decide +kernel
theorem dX1_add_53 : decode cX1_add 53 = .ok (.iconst 1, 1) := by decide +kernel
theorem dX1_add_54 : decode cX1_add 54 = .ok (.iadd, 1) := by decide +kernel
theorem dX1_add_55 : decode cX1_add 55 = .ok (.putfield 13, 3) := by decide +kernel
theorem dX1_add_58 : decode cX1_add 58 = .ok (.return_, 1) := by decide +kernel
theorem dX1_middle_0 : decode cX1_middle 0 = .ok (.aload_n 0, 1) := by decide +kernel
theorem dX1_middle_1 : decode cX1_middle 1 = .ok (.getfield 16, 3) := by decide +kernel
theorem dX1_middle_4 : decode cX1_middle 4 = .ok (.aload_n 0, 1) := by decide +kernel
theorem dX1_middle_5 : decode cX1_middle 5 = .ok (.getfield 19, 3) := by decide +kernel
theorem dX1_middle_8 : decode cX1_middle 8 = .ok (.invokestatic 25, 3) := by decide +kernel
theorem dX1_middle_11 : decode cX1_middle 11 = .ok (.istore_n 1, 1) := by decide +kernel
theorem dX1_middle_12 : decode cX1_middle 12 = .ok (.aload_n 0, 1) := by decide +kernel
theorem dX1_middle_13 : decode cX1_middle 13 = .ok (.getfield 16, 3) := by decide +kernel
theorem dX1_middle_16 : decode cX1_middle 16 = .ok (.aload_n 0, 1) := by decide +kernel
theorem dX1_middle_17 : decode cX1_middle 17 = .ok (.getfield 19, 3) := by decide +kernel
theorem dX1_middle_20 : decode cX1_middle 20 = .ok (.invokestatic 31, 3) := by decide +kernel
theorem dX1_middle_23 : decode cX1_middle 23 = .ok (.istore_n 2, 1) := by decide +kernel
theorem dX1_middle_24 : decode cX1_middle 24 = .ok (.iload_n 1, 1) := by decide +kernel
theorem dX1_middle_25 : decode cX1_middle 25 = .ok (.iload_n 2, 1) := by decide +kernel
theorem dX1_middle_26 : decode cX1_middle 26 = .ok (.aload_n 0, 1) := by decide +kernel
theorem dX1_middle_27 : decode cX1_middle 27 = .ok (.getfield 22, 3) := by decide +kernel
theorem dX1_middle_30 : decode cX1_middle 30 = .ok (.invokestatic 25, 3) := by decide +kernel
theorem dX1_middle_33 : decode cX1_middle 33 = .ok (.invokestatic 31, 3) := by decide +kernel
theorem dX1_middle_36 : decode cX1_middle 36 = .ok (.ireturn, 1) := by decide +kernel
theorem dX2_init_0 : decode cX2_init 0 = .ok (.aload_n 0, 1) := by decide +kernel
theorem dX2_init_1 : decode cX2_init 1 = .ok (.invokespecial 3, 3) := by decide +kernel
theorem dX2_init_4 : decode cX2_init 4 = .ok (.aload_n 0, 1) := by decide +kernel
theorem dX2_init_5 : decode cX2_init 5 = .ok (.bipush 76, 2) := by decide +kernel
theorem dX2_init_7 : decode cX2_init 7 = .ok (.newarray .int, 2) := by decide +kernel
theorem dX2_init_9 : decode cX2_init 9 = .ok (.putfield 9, 3) := by decide +kernel
theorem dX2_init_12 : decode cX2_init 12 = .ok (.iconst 0, 1) := by decide +kernel
theorem dX2_init_13 : decode cX2_init 13 = .ok (.istore_n 1, 1) := by decide +kernel
theorem dX2_init_14 : decode cX2_init 14 = .ok (.iload_n 1, 1) := by decide +kernel
theorem dX2_init_15 : decode cX2_init 15 = .ok (.aload_n 0, 1) := by decide +kernel
theorem dX2_init_16 : decode cX2_init 16 = .ok (.getfield 9, 3) := by decide +kernel
theorem dX2_init_19 : decode cX2_init 19 = .ok (.arraylength, 1) := by decide +kernel
theorem dX2_init_20 : decode cX2_init 20 = .ok (.if_icmp .ge 32, 3) := by decide +kernel
theorem dX2_init_23 : decode cX2_init 23 = .ok (.aload_n 0, 1) := by decide +kernel
theorem dX2_init_24 : decode cX2_init 24 = .ok (.getfield 9, 3) := by decide +kernel
theorem dX2_init_27 : decode cX2_init 27 = .ok (.iload_n 1, 1) := by decide +kernel
theorem dX2_init_28 : decode cX2_init 28 = .ok (.bipush 100, 2) := by decide +kernel
theorem dX2_init_30 : decode cX2_init 30 = .ok (.iload_n 1, 1) := by decide +kernel
theorem dX2_init_31 : decode cX2_init 31 = .ok (.bipush 19, 2) := by decide +kernel
theorem dX2_init_33 : decode cX2_init 33 = .ok (.idiv, 1) := by decide +kernel
theorem dX2_init_34 : decode cX2_init 34 = .ok (.iconst 1, 1) := by decide +kernel
theorem dX2_init_35 : decode cX2_init 35 = .ok (.iadd, 1) := by decide +kernel
theorem dX2_init_36 : decode cX2_init 36 = .ok (.imul, 1) := by decide +kernel
theorem dX2_init_37 : decode cX2_init 37 = .ok (.bipush 20, 2) := by decide +kernel
theorem dX2_init_39 : decode cX2_init 39 = .ok (.iload_n 1, 1) := by decide +kernel
theorem dX2_init_40 : decode cX2_init 40 = .ok (.bipush 19, 2) := by decide +kernel
theorem dX2_init_42 : decode cX2_init 42 = .ok (.irem, 1) := by decide +kernel
theorem dX2_init_43 : decode cX2_init 43 = .ok (.isub, 1) := by decide +kernel
theorem dX2_init_44 : decode cX2_init 44 = .ok (.imul, 1) := by decide +kernel
theorem dX2_init_45 : decode cX2_init 45 = .ok (.iastore, 1) := by decide +kernel
theorem dX2_init_46 : decode cX2_init 46 = .ok (.iinc 1 1, 3) := by decide +kernel
theorem dX2_init_49 : decode cX2_init 49 = .ok (.goto (-35), 3) := by decide +kernel
theorem dX2_init_52 : decode cX2_init 52 = .ok (.return_, 1) := by decide +kernel
theorem dX2_caratPrice_0 : decode cX2_caratPrice 0 = .ok (.iload_n 1, 1) := by decide +kernel
theorem dX2_caratPrice_1 : decode cX2_caratPrice 1 = .ok (.bipush 19, 2) := by decide +kernel
theorem dX2_caratPrice_3 : decode cX2_caratPrice 3 = .ok (.imul, 1) := by decide +kernel
theorem dX2_caratPrice_4 : decode cX2_caratPrice 4 = .ok (.iload_n 2, 1) := by decide +kernel
theorem dX2_caratPrice_5 : decode cX2_caratPrice 5 = .ok (.iadd, 1) := by decide +kernel
theorem dX2_caratPrice_6 : decode cX2_caratPrice 6 = .ok (.istore_n 3, 1) := by decide +kernel
theorem dX2_caratPrice_7 : decode cX2_caratPrice 7 = .ok (.iload_n 3, 1) := by decide +kernel
theorem dX2_caratPrice_8 : decode cX2_caratPrice 8 = .ok (.aload_n 0, 1) := by decide +kernel
theorem dX2_caratPrice_9 : decode cX2_caratPrice 9 = .ok (.getfield 9, 3) := by decide +kernel
theorem dX2_caratPrice_12 : decode cX2_caratPrice 12 = .ok (.arraylength, 1) := by decide +kernel
theorem dX2_caratPrice_13 : decode cX2_caratPrice 13 = .ok (.invokestatic 15, 3) := by decide +kernel
theorem dX2_caratPrice_16 : decode cX2_caratPrice 16 = .ok (.ifCond .eq 12, 3) := by decide +kernel
theorem dX2_caratPrice_19 : decode cX2_caratPrice 19 = .ok (.aload_n 0, 1) := by decide +kernel
theorem dX2_caratPrice_20 : decode cX2_caratPrice 20 = .ok (.getfield 9, 3) := by decide +kernel
theorem dX2_caratPrice_23 : decode cX2_caratPrice 23 = .ok (.iload_n 3, 1) := by decide +kernel
theorem dX2_caratPrice_24 : decode cX2_caratPrice 24 = .ok (.iaload, 1) := by decide +kernel
theorem dX2_caratPrice_25 : decode cX2_caratPrice 25 = .ok (.goto 4, 3) := by decide +kernel
theorem dX2_caratPrice_28 : decode cX2_caratPrice 28 = .ok (.iconst 0, 1) := by decide +kernel
theorem dX2_caratPrice_29 : decode cX2_caratPrice 29 = .ok (.ireturn, 1) := by decide +kernel
theorem dX2_setCaratPrice_0 : decode cX2_setCaratPrice 0 = .ok (.iload_n 1, 1) := by decide +kernel
theorem dX2_setCaratPrice_1 : decode cX2_setCaratPrice 1 = .ok (.bipush 19, 2) := by decide +kernel
theorem dX2_setCaratPrice_3 : decode cX2_setCaratPrice 3 = .ok (.imul, 1) := by decide +kernel
theorem dX2_setCaratPrice_4 : decode cX2_setCaratPrice 4 = .ok (.iload_n 2, 1) := by decide +kernel
theorem dX2_setCaratPrice_5 : decode cX2_setCaratPrice 5 = .ok (.iadd, 1) := by decide +kernel
theorem dX2_setCaratPrice_6 : decode cX2_setCaratPrice 6 = .ok (.istore 4, 2) := by decide +kernel
theorem dX2_setCaratPrice_8 : decode cX2_setCaratPrice 8 = .ok (.iload 4, 2) := by decide +kernel
theorem dX2_setCaratPrice_10 : decode cX2_setCaratPrice 10 = .ok (.aload_n 0, 1) := by decide +kernel
theorem dX2_setCaratPrice_11 : decode cX2_setCaratPrice 11 = .ok (.getfield 9, 3) := by decide +kernel
theorem dX2_setCaratPrice_14 : decode cX2_setCaratPrice 14 = .ok (.arraylength, 1) := by decide +kernel
theorem dX2_setCaratPrice_15 : decode cX2_setCaratPrice 15 = .ok (.invokestatic 15, 3) := by decide +kernel
theorem dX2_setCaratPrice_18 : decode cX2_setCaratPrice 18 = .ok (.ifCond .eq 11, 3) := by decide +kernel
theorem dX2_setCaratPrice_21 : decode cX2_setCaratPrice 21 = .ok (.aload_n 0, 1) := by decide +kernel
theorem dX2_setCaratPrice_22 : decode cX2_setCaratPrice 22 = .ok (.getfield 9, 3) := by decide +kernel
theorem dX2_setCaratPrice_25 : decode cX2_setCaratPrice 25 = .ok (.iload 4, 2) := by decide +kernel
theorem dX2_setCaratPrice_27 : decode cX2_setCaratPrice 27 = .ok (.iload_n 3, 1) := by decide +kernel
theorem dX2_setCaratPrice_28 : decode cX2_setCaratPrice 28 = .ok (.iastore, 1) := by decide +kernel
theorem dX2_setCaratPrice_29 : decode cX2_setCaratPrice 29 = .ok (.return_, 1) := by decide +kernel
theorem dX2_worthOf_0 : decode cX2_worthOf 0 = .ok (.aload_n 1, 1) := by decide +kernel
theorem dX2_worthOf_1 : decode cX2_worthOf 1 = .ok (.invokevirtual 19, 3) := by decide +kernel
theorem dX2_worthOf_4 : decode cX2_worthOf 4 = .ok (.istore_n 2, 1) := by decide +kernel
theorem dX2_worthOf_5 : decode cX2_worthOf 5 = .ok (.iload_n 2, 1) := by decide +kernel
theorem dX2_worthOf_6 : decode cX2_worthOf 6 = .ok (.iconst (-1), 1) := by decide +kernel
theorem dX2_worthOf_7 : decode cX2_worthOf 7 = .ok (.if_icmp .ne 5, 3) := by decide +kernel
theorem dX2_worthOf_10 : decode cX2_worthOf 10 = .ok (.iconst (-1), 1) := by decide +kernel
theorem dX2_worthOf_11 : decode cX2_worthOf 11 = .ok (.ireturn, 1) := by decide +kernel
theorem dX2_worthOf_12 : decode cX2_worthOf 12 = .ok (.aload_n 1, 1) := by decide +kernel
theorem dX2_worthOf_13 : decode cX2_worthOf 13 = .ok (.getfield 25, 3) := by decide +kernel
theorem dX2_worthOf_16 : decode cX2_worthOf 16 = .ok (.aload_n 0, 1) := by decide +kernel
theorem dX2_worthOf_17 : decode cX2_worthOf 17 = .ok (.aload_n 1, 1) := by decide +kernel
theorem dX2_worthOf_18 : decode cX2_worthOf 18 = .ok (.invokevirtual 29, 3) := by decide +kernel
theorem dX2_worthOf_21 : decode cX2_worthOf 21 = .ok (.iload_n 2, 1) := by decide +kernel
theorem dX2_worthOf_22 : decode cX2_worthOf 22 = .ok (.invokevirtual 32, 3) := by decide +kernel
theorem dX2_worthOf_25 : decode cX2_worthOf 25 = .ok (.imul, 1) := by decide +kernel
theorem dX2_worthOf_26 : decode cX2_worthOf 26 = .ok (.bipush 100, 2) := by decide +kernel
theorem dX2_worthOf_28 : decode cX2_worthOf 28 = .ok (.idiv, 1) := by decide +kernel
theorem dX2_worthOf_29 : decode cX2_worthOf 29 = .ok (.ireturn, 1) := by decide +kernel
theorem dX3_init_0 : decode cX3_init 0 = .ok (.aload_n 0, 1) := by decide +kernel
theorem dX3_init_1 : decode cX3_init 1 = .ok (.invokespecial 3, 3) := by decide +kernel
theorem dX3_init_4 : decode cX3_init 4 = .ok (.aload_n 0, 1) := by decide +kernel
theorem dX3_init_5 : decode cX3_init 5 = .ok (.new 9, 3) := by decide +kernel
theorem dX3_init_8 : decode cX3_init 8 = .ok (.dup, 1) := by decide +kernel
theorem dX3_init_9 : decode cX3_init 9 = .ok (.invokespecial 11, 3) := by decide +kernel
theorem dX3_init_12 : decode cX3_init 12 = .ok (.putfield 12, 3) := by decide +kernel
theorem dX3_init_15 : decode cX3_init 15 = .ok (.aload_n 0, 1) := by decide +kernel
theorem dX3_init_16 : decode cX3_init 16 = .ok (.iconst 0, 1) := by decide +kernel
theorem dX3_init_17 : decode cX3_init 17 = .ok (.putfield 18, 3) := by decide +kernel
theorem dX3_init_20 : decode cX3_init 20 = .ok (.aload_n 0, 1) := by decide +kernel
theorem dX3_init_21 : decode cX3_init 21 = .ok (.iconst (-1), 1) := by decide +kernel
theorem dX3_init_22 : decode cX3_init 22 = .ok (.putfield 22, 3) := by decide +kernel
theorem dX3_init_25 : decode cX3_init 25 = .ok (.aload_n 0, 1) := by decide +kernel
theorem dX3_init_26 : decode cX3_init 26 = .ok (.iconst (-1), 1) := by decide +kernel
theorem dX3_init_27 : decode cX3_init 27 = .ok (.putfield 25, 3) := by decide +kernel
theorem dX3_init_30 : decode cX3_init 30 = .ok (.aload_n 0, 1) := by decide +kernel
theorem dX3_init_31 : decode cX3_init 31 = .ok (.iload_n 1, 1) := by decide +kernel
theorem dX3_init_32 : decode cX3_init 32 = .ok (.putfield 28, 3) := by decide +kernel
theorem dX3_init_35 : decode cX3_init 35 = .ok (.aload_n 0, 1) := by decide +kernel
theorem dX3_init_36 : decode cX3_init 36 = .ok (.iload_n 2, 1) := by decide +kernel
theorem dX3_init_37 : decode cX3_init 37 = .ok (.putfield 31, 3) := by decide +kernel
theorem dX3_init_40 : decode cX3_init 40 = .ok (.aload_n 0, 1) := by decide +kernel
theorem dX3_init_41 : decode cX3_init 41 = .ok (.iload_n 3, 1) := by decide +kernel
theorem dX3_init_42 : decode cX3_init 42 = .ok (.putfield 34, 3) := by decide +kernel
theorem dX3_init_45 : decode cX3_init 45 = .ok (.aload_n 0, 1) := by decide +kernel
theorem dX3_init_46 : decode cX3_init 46 = .ok (.iload 4, 2) := by decide +kernel
theorem dX3_init_48 : decode cX3_init 48 = .ok (.putfield 37, 3) := by decide +kernel
theorem dX3_init_51 : decode cX3_init 51 = .ok (.aload_n 0, 1) := by decide +kernel
theorem dX3_init_52 : decode cX3_init 52 = .ok (.iload 5, 2) := by decide +kernel
theorem dX3_init_54 : decode cX3_init 54 = .ok (.putfield 40, 3) := by decide +kernel
theorem dX3_init_57 : decode cX3_init 57 = .ok (.aload_n 0, 1) := by decide +kernel
theorem dX3_init_58 : decode cX3_init 58 = .ok (.iload 6, 2) := by decide +kernel
theorem dX3_init_60 : decode cX3_init 60 = .ok (.putfield 43, 3) := by decide +kernel
theorem dX3_init_63 : decode cX3_init 63 = .ok (.aload_n 0, 1) := by decide +kernel
theorem dX3_init_64 : decode cX3_init 64 = .ok (.iload 7, 2) := by decide +kernel
theorem dX3_init_66 : decode cX3_init 66 = .ok (.putfield 46, 3) := by decide +kernel
theorem dX3_init_69 : decode cX3_init 69 = .ok (.return_, 1) := by decide +kernel
theorem dX3_size_0 : decode cX3_size 0 = .ok (.aload_n 0, 1) := by decide +kernel
theorem dX3_size_1 : decode cX3_size 1 = .ok (.getfield 37, 3) := by decide +kernel
theorem dX3_size_4 : decode cX3_size 4 = .ok (.bipush 100, 2) := by decide +kernel
theorem dX3_size_6 : decode cX3_size 6 = .ok (.if_icmp .ge 5, 3) := by decide +kernel
theorem dX3_size_9 : decode cX3_size 9 = .ok (.iconst 0, 1) := by decide +kernel
theorem dX3_size_10 : decode cX3_size 10 = .ok (.ireturn, 1) := by decide +kernel
theorem dX3_size_11 : decode cX3_size 11 = .ok (.aload_n 0, 1) := by decide +kernel
theorem dX3_size_12 : decode cX3_size 12 = .ok (.getfield 37, 3) := by decide +kernel
theorem dX3_size_15 : decode cX3_size 15 = .ok (.sipush 300, 3) := by decide +kernel
theorem dX3_size_18 : decode cX3_size 18 = .ok (.if_icmp .ge 5, 3) := by decide +kernel
theorem dX3_size_21 : decode cX3_size 21 = .ok (.iconst 1, 1) := by decide +kernel
theorem dX3_size_22 : decode cX3_size 22 = .ok (.ireturn, 1) := by decide +kernel
theorem dX3_size_23 : decode cX3_size 23 = .ok (.aload_n 0, 1) := by decide +kernel
theorem dX3_size_24 : decode cX3_size 24 = .ok (.getfield 37, 3) := by decide +kernel
theorem dX3_size_27 : decode cX3_size 27 = .ok (.sipush 1000, 3) := by decide +kernel
theorem dX3_size_30 : decode cX3_size 30 = .ok (.if_icmp .ge 7, 3) := by decide +kernel
theorem dX3_size_33 : decode cX3_size 33 = .ok (.iconst 2, 1) := by decide +kernel
theorem dX3_size_34 : decode cX3_size 34 = .ok (.goto 4, 3) := by decide +kernel
theorem dX3_size_37 : decode cX3_size 37 = .ok (.iconst 3, 1) := by decide +kernel
theorem dX3_size_38 : decode cX3_size 38 = .ok (.ireturn, 1) := by decide +kernel
theorem dX3_quality_0 : decode cX3_quality 0 = .ok (.aload_n 0, 1) := by decide +kernel
theorem dX3_quality_1 : decode cX3_quality 1 = .ok (.getfield 12, 3) := by decide +kernel
theorem dX3_quality_4 : decode cX3_quality 4 = .ok (.getfield 49, 3) := by decide +kernel
theorem dX3_quality_7 : decode cX3_quality 7 = .ok (.tableswitch 53 0 2 #[25, 27, 35], 25) := by decide +kernel
theorem dX3_quality_32 : decode cX3_quality 32 = .ok (.iconst (-1), 1) := by decide +kernel
theorem dX3_quality_33 : decode cX3_quality 33 = .ok (.ireturn, 1) := by decide +kernel
theorem dX3_quality_34 : decode cX3_quality 34 = .ok (.aload_n 0, 1) := by decide +kernel
theorem dX3_quality_35 : decode cX3_quality 35 = .ok (.getfield 12, 3) := by decide +kernel
theorem dX3_quality_38 : decode cX3_quality 38 = .ok (.getfield 52, 3) := by decide +kernel
theorem dX3_quality_41 : decode cX3_quality 41 = .ok (.ireturn, 1) := by decide +kernel
theorem dX3_quality_42 : decode cX3_quality 42 = .ok (.aload_n 0, 1) := by decide +kernel
theorem dX3_quality_43 : decode cX3_quality 43 = .ok (.getfield 12, 3) := by decide +kernel
theorem dX3_quality_46 : decode cX3_quality 46 = .ok (.getfield 52, 3) := by decide +kernel
theorem dX3_quality_49 : decode cX3_quality 49 = .ok (.aload_n 0, 1) := by decide +kernel
theorem dX3_quality_50 : decode cX3_quality 50 = .ok (.getfield 12, 3) := by decide +kernel
theorem dX3_quality_53 : decode cX3_quality 53 = .ok (.getfield 55, 3) := by decide +kernel
theorem dX3_quality_56 : decode cX3_quality 56 = .ok (.invokestatic 58, 3) := by decide +kernel
theorem dX3_quality_59 : decode cX3_quality 59 = .ok (.ireturn, 1) := by decide +kernel
theorem dX3_quality_60 : decode cX3_quality 60 = .ok (.aload_n 0, 1) := by decide +kernel
theorem dX3_quality_61 : decode cX3_quality 61 = .ok (.getfield 12, 3) := by decide +kernel
theorem dX3_quality_64 : decode cX3_quality 64 = .ok (.invokevirtual 64, 3) := by decide +kernel
theorem dX3_quality_67 : decode cX3_quality 67 = .ok (.ireturn, 1) := by decide +kernel
theorem dX3_isDoubtful_0 : decode cX3_isDoubtful 0 = .ok (.aload_n 0, 1) := by decide +kernel
theorem dX3_isDoubtful_1 : decode cX3_isDoubtful 1 = .ok (.getfield 12, 3) := by decide +kernel
theorem dX3_isDoubtful_4 : decode cX3_isDoubtful 4 = .ok (.getfield 49, 3) := by decide +kernel
theorem dX3_isDoubtful_7 : decode cX3_isDoubtful 7 = .ok (.iconst 2, 1) := by decide +kernel
theorem dX3_isDoubtful_8 : decode cX3_isDoubtful 8 = .ok (.if_icmp .ne 29, 3) := by decide +kernel
theorem dX3_isDoubtful_11 : decode cX3_isDoubtful 11 = .ok (.aload_n 0, 1) := by decide +kernel
theorem dX3_isDoubtful_12 : decode cX3_isDoubtful 12 = .ok (.getfield 12, 3) := by decide +kernel
theorem dX3_isDoubtful_15 : decode cX3_isDoubtful 15 = .ok (.getfield 52, 3) := by decide +kernel
theorem dX3_isDoubtful_18 : decode cX3_isDoubtful 18 = .ok (.aload_n 0, 1) := by decide +kernel
theorem dX3_isDoubtful_19 : decode cX3_isDoubtful 19 = .ok (.getfield 12, 3) := by decide +kernel
theorem dX3_isDoubtful_22 : decode cX3_isDoubtful 22 = .ok (.getfield 55, 3) := by decide +kernel
theorem dX3_isDoubtful_25 : decode cX3_isDoubtful 25 = .ok (.isub, 1) := by decide +kernel
theorem dX3_isDoubtful_26 : decode cX3_isDoubtful 26 = .ok (.invokestatic 68, 3) := by decide +kernel
theorem dX3_isDoubtful_29 : decode cX3_isDoubtful 29 = .ok (.iconst 2, 1) := by decide +kernel
theorem dX3_isDoubtful_30 : decode cX3_isDoubtful 30 = .ok (.if_icmp .lt 7, 3) := by decide +kernel
theorem dX3_isDoubtful_33 : decode cX3_isDoubtful 33 = .ok (.iconst 1, 1) := by decide +kernel
theorem dX3_isDoubtful_34 : decode cX3_isDoubtful 34 = .ok (.goto 4, 3) := by decide +kernel
theorem dX3_isDoubtful_37 : decode cX3_isDoubtful 37 = .ok (.iconst 0, 1) := by decide +kernel
theorem dX3_isDoubtful_38 : decode cX3_isDoubtful 38 = .ok (.ireturn, 1) := by decide +kernel
theorem dX3_canBeBoxed_0 : decode cX3_canBeBoxed 0 = .ok (.aload_n 0, 1) := by decide +kernel
theorem dX3_canBeBoxed_1 : decode cX3_canBeBoxed 1 = .ok (.getfield 18, 3) := by decide +kernel
theorem dX3_canBeBoxed_4 : decode cX3_canBeBoxed 4 = .ok (.ifCond .ne 24, 3) := by decide +kernel
theorem dX3_canBeBoxed_7 : decode cX3_canBeBoxed 7 = .ok (.aload_n 0, 1) := by decide +kernel
theorem dX3_canBeBoxed_8 : decode cX3_canBeBoxed 8 = .ok (.getfield 12, 3) := by decide +kernel
theorem dX3_canBeBoxed_11 : decode cX3_canBeBoxed 11 = .ok (.getfield 49, 3) := by decide +kernel
theorem dX3_canBeBoxed_14 : decode cX3_canBeBoxed 14 = .ok (.ifCond .le 14, 3) := by decide +kernel
theorem dX3_canBeBoxed_17 : decode cX3_canBeBoxed 17 = .ok (.aload_n 0, 1) := by decide +kernel
theorem dX3_canBeBoxed_18 : decode cX3_canBeBoxed 18 = .ok (.invokevirtual 72, 3) := by decide +kernel
theorem dX3_canBeBoxed_21 : decode cX3_canBeBoxed 21 = .ok (.ifCond .ne 7, 3) := by decide +kernel
theorem dX3_canBeBoxed_24 : decode cX3_canBeBoxed 24 = .ok (.iconst 1, 1) := by decide +kernel
theorem dX3_canBeBoxed_25 : decode cX3_canBeBoxed 25 = .ok (.goto 4, 3) := by decide +kernel
theorem dX3_canBeBoxed_28 : decode cX3_canBeBoxed 28 = .ok (.iconst 0, 1) := by decide +kernel
theorem dX3_canBeBoxed_29 : decode cX3_canBeBoxed 29 = .ok (.ireturn, 1) := by decide +kernel
theorem dX3_enterBox_0 : decode cX3_enterBox 0 = .ok (.aload_n 0, 1) := by decide +kernel
theorem dX3_enterBox_1 : decode cX3_enterBox 1 = .ok (.iconst 1, 1) := by decide +kernel
theorem dX3_enterBox_2 : decode cX3_enterBox 2 = .ok (.putfield 18, 3) := by decide +kernel
theorem dX3_enterBox_5 : decode cX3_enterBox 5 = .ok (.aload_n 0, 1) := by decide +kernel
theorem dX3_enterBox_6 : decode cX3_enterBox 6 = .ok (.iload_n 1, 1) := by decide +kernel
theorem dX3_enterBox_7 : decode cX3_enterBox 7 = .ok (.putfield 25, 3) := by decide +kernel
theorem dX3_enterBox_10 : decode cX3_enterBox 10 = .ok (.return_, 1) := by decide +kernel
theorem dX3_leaveBox_0 : decode cX3_leaveBox 0 = .ok (.aload_n 0, 1) := by decide +kernel
theorem dX3_leaveBox_1 : decode cX3_leaveBox 1 = .ok (.iconst 0, 1) := by decide +kernel
theorem dX3_leaveBox_2 : decode cX3_leaveBox 2 = .ok (.putfield 18, 3) := by decide +kernel
theorem dX3_leaveBox_5 : decode cX3_leaveBox 5 = .ok (.aload_n 0, 1) := by decide +kernel
theorem dX3_leaveBox_6 : decode cX3_leaveBox 6 = .ok (.iconst (-1), 1) := by decide +kernel
theorem dX3_leaveBox_7 : decode cX3_leaveBox 7 = .ok (.putfield 25, 3) := by decide +kernel
theorem dX3_leaveBox_10 : decode cX3_leaveBox 10 = .ok (.return_, 1) := by decide +kernel
theorem dX3_sellTo_0 : decode cX3_sellTo 0 = .ok (.aload_n 0, 1) := by decide +kernel
theorem dX3_sellTo_1 : decode cX3_sellTo 1 = .ok (.iconst 2, 1) := by decide +kernel
theorem dX3_sellTo_2 : decode cX3_sellTo 2 = .ok (.putfield 18, 3) := by decide +kernel
theorem dX3_sellTo_5 : decode cX3_sellTo 5 = .ok (.aload_n 0, 1) := by decide +kernel
theorem dX3_sellTo_6 : decode cX3_sellTo 6 = .ok (.iload_n 1, 1) := by decide +kernel
theorem dX3_sellTo_7 : decode cX3_sellTo 7 = .ok (.putfield 22, 3) := by decide +kernel
theorem dX3_sellTo_10 : decode cX3_sellTo 10 = .ok (.return_, 1) := by decide +kernel
theorem dX4_init_0 : decode cX4_init 0 = .ok (.aload_n 0, 1) := by decide +kernel
theorem dX4_init_1 : decode cX4_init 1 = .ok (.invokespecial 3, 3) := by decide +kernel
theorem dX4_init_4 : decode cX4_init 4 = .ok (.aload_n 0, 1) := by decide +kernel
theorem dX4_init_5 : decode cX4_init 5 = .ok (.iconst 5, 1) := by decide +kernel
theorem dX4_init_6 : decode cX4_init 6 = .ok (.newarray .int, 2) := by decide +kernel
theorem dX4_init_8 : decode cX4_init 8 = .ok (.putfield 9, 3) := by decide +kernel
theorem dX4_init_11 : decode cX4_init 11 = .ok (.return_, 1) := by decide +kernel
theorem dX4_isOn_0 : decode cX4_isOn 0 = .ok (.aload_n 0, 1) := by decide +kernel
theorem dX4_isOn_1 : decode cX4_isOn 1 = .ok (.getfield 15, 3) := by decide +kernel
theorem dX4_isOn_4 : decode cX4_isOn 4 = .ok (.ifnull 7, 3) := by decide +kernel
theorem dX4_isOn_7 : decode cX4_isOn 7 = .ok (.iconst 1, 1) := by decide +kernel
theorem dX4_isOn_8 : decode cX4_isOn 8 = .ok (.goto 4, 3) := by decide +kernel
theorem dX4_isOn_11 : decode cX4_isOn 11 = .ok (.iconst 0, 1) := by decide +kernel
theorem dX4_isOn_12 : decode cX4_isOn 12 = .ok (.ireturn, 1) := by decide +kernel
theorem dX4_begin_0 : decode cX4_begin 0 = .ok (.aload_n 0, 1) := by decide +kernel
theorem dX4_begin_1 : decode cX4_begin 1 = .ok (.aload_n 1, 1) := by decide +kernel
theorem dX4_begin_2 : decode cX4_begin 2 = .ok (.putfield 15, 3) := by decide +kernel
theorem dX4_begin_5 : decode cX4_begin 5 = .ok (.aload_n 0, 1) := by decide +kernel
theorem dX4_begin_6 : decode cX4_begin 6 = .ok (.iload_n 2, 1) := by decide +kernel
theorem dX4_begin_7 : decode cX4_begin 7 = .ok (.putfield 19, 3) := by decide +kernel
theorem dX4_begin_10 : decode cX4_begin 10 = .ok (.aload_n 0, 1) := by decide +kernel
theorem dX4_begin_11 : decode cX4_begin 11 = .ok (.getfield 9, 3) := by decide +kernel
theorem dX4_begin_14 : decode cX4_begin 14 = .ok (.iconst (-1), 1) := by decide +kernel
theorem dX4_begin_15 : decode cX4_begin 15 = .ok (.invokestatic 23, 3) := by decide +kernel
theorem dX4_begin_18 : decode cX4_begin 18 = .ok (.return_, 1) := by decide +kernel
theorem dX4_end_0 : decode cX4_end 0 = .ok (.aload_n 0, 1) := by decide +kernel
theorem dX4_end_1 : decode cX4_end 1 = .ok (.aconst_null, 1) := by decide +kernel
theorem dX4_end_2 : decode cX4_end 2 = .ok (.putfield 15, 3) := by decide +kernel
theorem dX4_end_5 : decode cX4_end 5 = .ok (.return_, 1) := by decide +kernel
theorem dX4_bidOf_0 : decode cX4_bidOf 0 = .ok (.iload_n 1, 1) := by decide +kernel
theorem dX4_bidOf_1 : decode cX4_bidOf 1 = .ok (.aload_n 0, 1) := by decide +kernel
theorem dX4_bidOf_2 : decode cX4_bidOf 2 = .ok (.getfield 9, 3) := by decide +kernel
theorem dX4_bidOf_5 : decode cX4_bidOf 5 = .ok (.arraylength, 1) := by decide +kernel
theorem dX4_bidOf_6 : decode cX4_bidOf 6 = .ok (.invokestatic 29, 3) := by decide +kernel
theorem dX4_bidOf_9 : decode cX4_bidOf 9 = .ok (.ifCond .eq 12, 3) := by decide +kernel
theorem dX4_bidOf_12 : decode cX4_bidOf 12 = .ok (.aload_n 0, 1) := by decide +kernel
theorem dX4_bidOf_13 : decode cX4_bidOf 13 = .ok (.getfield 9, 3) := by decide +kernel
theorem dX4_bidOf_16 : decode cX4_bidOf 16 = .ok (.iload_n 1, 1) := by decide +kernel
theorem dX4_bidOf_17 : decode cX4_bidOf 17 = .ok (.iaload, 1) := by decide +kernel
theorem dX4_bidOf_18 : decode cX4_bidOf 18 = .ok (.goto 4, 3) := by decide +kernel
theorem dX4_bidOf_21 : decode cX4_bidOf 21 = .ok (.iconst (-1), 1) := by decide +kernel
theorem dX4_bidOf_22 : decode cX4_bidOf 22 = .ok (.ireturn, 1) := by decide +kernel
theorem dX4_setBid_0 : decode cX4_setBid 0 = .ok (.iload_n 1, 1) := by decide +kernel
theorem dX4_setBid_1 : decode cX4_setBid 1 = .ok (.aload_n 0, 1) := by decide +kernel
theorem dX4_setBid_2 : decode cX4_setBid 2 = .ok (.getfield 9, 3) := by decide +kernel
theorem dX4_setBid_5 : decode cX4_setBid 5 = .ok (.arraylength, 1) := by decide +kernel
theorem dX4_setBid_6 : decode cX4_setBid 6 = .ok (.invokestatic 29, 3) := by decide +kernel
theorem dX4_setBid_9 : decode cX4_setBid 9 = .ok (.ifCond .eq 10, 3) := by decide +kernel
theorem dX4_setBid_12 : decode cX4_setBid 12 = .ok (.aload_n 0, 1) := by decide +kernel
theorem dX4_setBid_13 : decode cX4_setBid 13 = .ok (.getfield 9, 3) := by decide +kernel
theorem dX4_setBid_16 : decode cX4_setBid 16 = .ok (.iload_n 1, 1) := by decide +kernel
theorem dX4_setBid_17 : decode cX4_setBid 17 = .ok (.iload_n 2, 1) := by decide +kernel
theorem dX4_setBid_18 : decode cX4_setBid 18 = .ok (.iastore, 1) := by decide +kernel
theorem dX4_setBid_19 : decode cX4_setBid 19 = .ok (.return_, 1) := by decide +kernel
theorem dX4_paymentOf_0 : decode cX4_paymentOf 0 = .ok (.aload_n 0, 1) := by decide +kernel
theorem dX4_paymentOf_1 : decode cX4_paymentOf 1 = .ok (.getfield 19, 3) := by decide +kernel
theorem dX4_paymentOf_4 : decode cX4_paymentOf 4 = .ok (.istore_n 2, 1) := by decide +kernel
theorem dX4_paymentOf_5 : decode cX4_paymentOf 5 = .ok (.iconst 0, 1) := by decide +kernel
theorem dX4_paymentOf_6 : decode cX4_paymentOf 6 = .ok (.istore_n 3, 1) := by decide +kernel
theorem dX4_paymentOf_7 : decode cX4_paymentOf 7 = .ok (.iload_n 3, 1) := by decide +kernel
theorem dX4_paymentOf_8 : decode cX4_paymentOf 8 = .ok (.aload_n 0, 1) := by decide +kernel
theorem dX4_paymentOf_9 : decode cX4_paymentOf 9 = .ok (.getfield 9, 3) := by decide +kernel
theorem dX4_paymentOf_12 : decode cX4_paymentOf 12 = .ok (.arraylength, 1) := by decide +kernel
theorem dX4_paymentOf_13 : decode cX4_paymentOf 13 = .ok (.if_icmp .ge 25, 3) := by decide +kernel
theorem dX4_paymentOf_16 : decode cX4_paymentOf 16 = .ok (.iload_n 3, 1) := by decide +kernel
theorem dX4_paymentOf_17 : decode cX4_paymentOf 17 = .ok (.iload_n 1, 1) := by decide +kernel
theorem dX4_paymentOf_18 : decode cX4_paymentOf 18 = .ok (.if_icmp .eq 14, 3) := by decide +kernel
theorem dX4_paymentOf_21 : decode cX4_paymentOf 21 = .ok (.iload_n 2, 1) := by decide +kernel
theorem dX4_paymentOf_22 : decode cX4_paymentOf 22 = .ok (.aload_n 0, 1) := by decide +kernel
theorem dX4_paymentOf_23 : decode cX4_paymentOf 23 = .ok (.getfield 9, 3) := by decide +kernel
theorem dX4_paymentOf_26 : decode cX4_paymentOf 26 = .ok (.iload_n 3, 1) := by decide +kernel
theorem dX4_paymentOf_27 : decode cX4_paymentOf 27 = .ok (.iaload, 1) := by decide +kernel
theorem dX4_paymentOf_28 : decode cX4_paymentOf 28 = .ok (.invokestatic 33, 3) := by decide +kernel
theorem dX4_paymentOf_31 : decode cX4_paymentOf 31 = .ok (.istore_n 2, 1) := by decide +kernel
theorem dX4_paymentOf_32 : decode cX4_paymentOf 32 = .ok (.iinc 3 1, 3) := by decide +kernel
theorem dX4_paymentOf_35 : decode cX4_paymentOf 35 = .ok (.goto (-28), 3) := by decide +kernel
theorem dX4_paymentOf_38 : decode cX4_paymentOf 38 = .ok (.iload_n 2, 1) := by decide +kernel
theorem dX4_paymentOf_39 : decode cX4_paymentOf 39 = .ok (.ireturn, 1) := by decide +kernel
theorem dJ9_abs_0f7a4_0 : decode cJ9_abs_0f7a4 0 = .ok (.iload_n 0, 1) := by decide +kernel
theorem dJ9_abs_0f7a4_1 : decode cJ9_abs_0f7a4 1 = .ok (.ifCond .ge 8, 3) := by decide +kernel
theorem dJ9_abs_0f7a4_4 : decode cJ9_abs_0f7a4 4 = .ok (.iload_n 0, 1) := by decide +kernel
theorem dJ9_abs_0f7a4_5 : decode cJ9_abs_0f7a4 5 = .ok (.ineg, 1) := by decide +kernel
theorem dJ9_abs_0f7a4_6 : decode cJ9_abs_0f7a4 6 = .ok (.goto 4, 3) := by decide +kernel
theorem dJ9_abs_0f7a4_9 : decode cJ9_abs_0f7a4 9 = .ok (.iload_n 0, 1) := by decide +kernel
theorem dJ9_abs_0f7a4_10 : decode cJ9_abs_0f7a4 10 = .ok (.ireturn, 1) := by decide +kernel
theorem dJ9_max_7cf53_0 : decode cJ9_max_7cf53 0 = .ok (.iload_n 0, 1) := by decide +kernel
theorem dJ9_max_7cf53_1 : decode cJ9_max_7cf53 1 = .ok (.iload_n 1, 1) := by decide +kernel
theorem dJ9_max_7cf53_2 : decode cJ9_max_7cf53 2 = .ok (.if_icmp .lt 7, 3) := by decide +kernel
theorem dJ9_max_7cf53_5 : decode cJ9_max_7cf53 5 = .ok (.iload_n 0, 1) := by decide +kernel
theorem dJ9_max_7cf53_6 : decode cJ9_max_7cf53 6 = .ok (.goto 4, 3) := by decide +kernel
theorem dJ9_max_7cf53_9 : decode cJ9_max_7cf53 9 = .ok (.iload_n 1, 1) := by decide +kernel
theorem dJ9_max_7cf53_10 : decode cJ9_max_7cf53 10 = .ok (.ireturn, 1) := by decide +kernel
theorem dJ9_min_7cf53_0 : decode cJ9_min_7cf53 0 = .ok (.iload_n 0, 1) := by decide +kernel
theorem dJ9_min_7cf53_1 : decode cJ9_min_7cf53 1 = .ok (.iload_n 1, 1) := by decide +kernel
theorem dJ9_min_7cf53_2 : decode cJ9_min_7cf53 2 = .ok (.if_icmp .gt 7, 3) := by decide +kernel
theorem dJ9_min_7cf53_5 : decode cJ9_min_7cf53 5 = .ok (.iload_n 0, 1) := by decide +kernel
theorem dJ9_min_7cf53_6 : decode cJ9_min_7cf53 6 = .ok (.goto 4, 3) := by decide +kernel
theorem dJ9_min_7cf53_9 : decode cJ9_min_7cf53 9 = .ok (.iload_n 1, 1) := by decide +kernel
theorem dJ9_min_7cf53_10 : decode cJ9_min_7cf53 10 = .ok (.ireturn, 1) := by decide +kernel
theorem dJ7_fill_53178_0 : decode cJ7_fill_53178 0 = .ok (.iconst 0, 1) := by decide +kernel
theorem dJ7_fill_53178_1 : decode cJ7_fill_53178 1 = .ok (.istore_n 2, 1) := by decide +kernel
theorem dJ7_fill_53178_2 : decode cJ7_fill_53178 2 = .ok (.aload_n 0, 1) := by decide +kernel
theorem dJ7_fill_53178_3 : decode cJ7_fill_53178 3 = .ok (.arraylength, 1) := by decide +kernel
theorem dJ7_fill_53178_4 : decode cJ7_fill_53178 4 = .ok (.istore_n 3, 1) := by decide +kernel
theorem dJ7_fill_53178_5 : decode cJ7_fill_53178 5 = .ok (.iload_n 2, 1) := by decide +kernel
theorem dJ7_fill_53178_6 : decode cJ7_fill_53178 6 = .ok (.iload_n 3, 1) := by decide +kernel
theorem dJ7_fill_53178_7 : decode cJ7_fill_53178 7 = .ok (.if_icmp .ge 13, 3) := by decide +kernel
theorem dJ7_fill_53178_10 : decode cJ7_fill_53178 10 = .ok (.aload_n 0, 1) := by decide +kernel
theorem dJ7_fill_53178_11 : decode cJ7_fill_53178 11 = .ok (.iload_n 2, 1) := by decide +kernel
theorem dJ7_fill_53178_12 : decode cJ7_fill_53178 12 = .ok (.iload_n 1, 1) := by decide +kernel
theorem dJ7_fill_53178_13 : decode cJ7_fill_53178 13 = .ok (.iastore, 1) := by decide +kernel
theorem dJ7_fill_53178_14 : decode cJ7_fill_53178 14 = .ok (.iinc 2 1, 3) := by decide +kernel
theorem dJ7_fill_53178_17 : decode cJ7_fill_53178 17 = .ok (.goto (-12), 3) := by decide +kernel
theorem dJ7_fill_53178_20 : decode cJ7_fill_53178 20 = .ok (.return_, 1) := by decide +kernel
theorem dL_drawn_0 : decode cL_drawn 0 = .ok (.iload_n 1, 1) := by decide +kernel
theorem dL_drawn_1 : decode cL_drawn 1 = .ok (.aload_n 0, 1) := by decide +kernel
theorem dL_drawn_2 : decode cL_drawn 2 = .ok (.arraylength, 1) := by decide +kernel
theorem dL_drawn_3 : decode cL_drawn 3 = .ok (.if_icmp .ge 9, 3) := by decide +kernel
theorem dL_drawn_6 : decode cL_drawn 6 = .ok (.aload_n 0, 1) := by decide +kernel
theorem dL_drawn_7 : decode cL_drawn 7 = .ok (.iload_n 1, 1) := by decide +kernel
theorem dL_drawn_8 : decode cL_drawn 8 = .ok (.iaload, 1) := by decide +kernel
theorem dL_drawn_9 : decode cL_drawn 9 = .ok (.goto 12, 3) := by decide +kernel
theorem dL_drawn_12 : decode cL_drawn 12 = .ok (.sipush 14713, 3) := by decide +kernel
theorem dL_drawn_15 : decode cL_drawn 15 = .ok (.iload_n 1, 1) := by decide +kernel
theorem dL_drawn_16 : decode cL_drawn 16 = .ok (.imul, 1) := by decide +kernel
theorem dL_drawn_17 : decode cL_drawn 17 = .ok (.sipush 11257, 3) := by decide +kernel
theorem dL_drawn_20 : decode cL_drawn 20 = .ok (.iadd, 1) := by decide +kernel
theorem dL_drawn_21 : decode cL_drawn 21 = .ok (.istore_n 2, 1) := by decide +kernel
theorem dL_drawn_22 : decode cL_drawn 22 = .ok (.iload_n 2, 1) := by decide +kernel
theorem dL_drawn_23 : decode cL_drawn 23 = .ok (.ldc 7, 2) := by decide +kernel
theorem dL_drawn_25 : decode cL_drawn 25 = .ok (.iand, 1) := by decide +kernel
theorem dL_drawn_26 : decode cL_drawn 26 = .ok (.ireturn, 1) := by decide +kernel
theorem dL_does_0 : decode cL_does 0 = .ok (.iload_n 1, 1) := by decide +kernel
theorem dL_does_1 : decode cL_does 1 = .ok (.ifCond .ne 11, 3) := by decide +kernel
theorem dL_does_4 : decode cL_does 4 = .ok (.aload_n 0, 1) := by decide +kernel
theorem dL_does_5 : decode cL_does 5 = .ok (.iload_n 2, 1) := by decide +kernel
theorem dL_does_6 : decode cL_does 6 = .ok (.invokevirtual 8, 3) := by decide +kernel
theorem dL_does_9 : decode cL_does 9 = .ok (.goto 177, 3) := by decide +kernel
theorem dL_does_12 : decode cL_does 12 = .ok (.iload_n 1, 1) := by decide +kernel
theorem dL_does_13 : decode cL_does 13 = .ok (.iconst 1, 1) := by decide +kernel
theorem dL_does_14 : decode cL_does 14 = .ok (.if_icmp .ne 12, 3) := by decide +kernel
theorem dL_does_17 : decode cL_does 17 = .ok (.aload_n 0, 1) := by decide +kernel
theorem dL_does_18 : decode cL_does 18 = .ok (.iload_n 2, 1) := by decide +kernel
theorem dL_does_19 : decode cL_does 19 = .ok (.iload_n 3, 1) := by decide +kernel
theorem dL_does_20 : decode cL_does 20 = .ok (.invokevirtual 14, 3) := by decide +kernel
theorem dL_does_23 : decode cL_does 23 = .ok (.goto 163, 3) := by decide +kernel
theorem dL_does_26 : decode cL_does 26 = .ok (.iload_n 1, 1) := by decide +kernel
theorem dL_does_27 : decode cL_does 27 = .ok (.iconst 2, 1) := by decide +kernel
theorem dL_does_28 : decode cL_does 28 = .ok (.if_icmp .ne 12, 3) := by decide +kernel
theorem dL_does_31 : decode cL_does 31 = .ok (.aload_n 0, 1) := by decide +kernel
theorem dL_does_32 : decode cL_does 32 = .ok (.iload_n 2, 1) := by decide +kernel
theorem dL_does_33 : decode cL_does 33 = .ok (.iload_n 3, 1) := by decide +kernel
theorem dL_does_34 : decode cL_does 34 = .ok (.invokevirtual 18, 3) := by decide +kernel
theorem dL_does_37 : decode cL_does 37 = .ok (.goto 149, 3) := by decide +kernel
theorem dL_does_40 : decode cL_does 40 = .ok (.iload_n 1, 1) := by decide +kernel
theorem dL_does_41 : decode cL_does 41 = .ok (.iconst 3, 1) := by decide +kernel
theorem dL_does_42 : decode cL_does 42 = .ok (.if_icmp .ne 11, 3) := by decide +kernel
theorem dL_does_45 : decode cL_does 45 = .ok (.aload_n 0, 1) := by decide +kernel
theorem dL_does_46 : decode cL_does 46 = .ok (.iload_n 2, 1) := by decide +kernel
theorem dL_does_47 : decode cL_does 47 = .ok (.invokevirtual 21, 3) := by decide +kernel
theorem dL_does_50 : decode cL_does 50 = .ok (.goto 136, 3) := by decide +kernel
theorem dL_does_53 : decode cL_does 53 = .ok (.iload_n 1, 1) := by decide +kernel
theorem dL_does_54 : decode cL_does 54 = .ok (.iconst 4, 1) := by decide +kernel
theorem dL_does_55 : decode cL_does 55 = .ok (.if_icmp .ne 12, 3) := by decide +kernel
theorem dL_does_58 : decode cL_does 58 = .ok (.aload_n 0, 1) := by decide +kernel
theorem dL_does_59 : decode cL_does 59 = .ok (.iload_n 2, 1) := by decide +kernel
theorem dL_does_60 : decode cL_does 60 = .ok (.iload_n 3, 1) := by decide +kernel
theorem dL_does_61 : decode cL_does 61 = .ok (.invokevirtual 24, 3) := by decide +kernel
theorem dL_does_64 : decode cL_does 64 = .ok (.goto 122, 3) := by decide +kernel
theorem dL_does_67 : decode cL_does 67 = .ok (.iload_n 1, 1) := by decide +kernel
theorem dL_does_68 : decode cL_does 68 = .ok (.iconst 5, 1) := by decide +kernel
theorem dL_does_69 : decode cL_does 69 = .ok (.if_icmp .ne 10, 3) := by decide +kernel
theorem dL_does_72 : decode cL_does 72 = .ok (.aload_n 0, 1) := by decide +kernel
theorem dL_does_73 : decode cL_does 73 = .ok (.invokevirtual 27, 3) := by decide +kernel
theorem dL_does_76 : decode cL_does 76 = .ok (.goto 110, 3) := by decide +kernel
theorem dL_does_79 : decode cL_does 79 = .ok (.iload_n 1, 1) := by decide +kernel
theorem dL_does_80 : decode cL_does 80 = .ok (.bipush 6, 2) := by decide +kernel
theorem dL_does_82 : decode cL_does 82 = .ok (.if_icmp .ne 11, 3) := by decide +kernel
theorem dL_does_85 : decode cL_does 85 = .ok (.aload_n 0, 1) := by decide +kernel
theorem dL_does_86 : decode cL_does 86 = .ok (.iload_n 2, 1) := by decide +kernel
theorem dL_does_87 : decode cL_does 87 = .ok (.invokevirtual 31, 3) := by decide +kernel
theorem dL_does_90 : decode cL_does 90 = .ok (.goto 96, 3) := by decide +kernel
theorem dL_does_93 : decode cL_does 93 = .ok (.iload_n 1, 1) := by decide +kernel
theorem dL_does_94 : decode cL_does 94 = .ok (.bipush 7, 2) := by decide +kernel
theorem dL_does_96 : decode cL_does 96 = .ok (.if_icmp .ne 11, 3) := by decide +kernel
theorem dL_does_99 : decode cL_does 99 = .ok (.aload_n 0, 1) := by decide +kernel
theorem dL_does_100 : decode cL_does 100 = .ok (.iload_n 2, 1) := by decide +kernel
theorem dL_does_101 : decode cL_does 101 = .ok (.invokevirtual 34, 3) := by decide +kernel
theorem dL_does_104 : decode cL_does 104 = .ok (.goto 82, 3) := by decide +kernel
theorem dL_does_107 : decode cL_does 107 = .ok (.iload_n 1, 1) := by decide +kernel
theorem dL_does_108 : decode cL_does 108 = .ok (.bipush 8, 2) := by decide +kernel
theorem dL_does_110 : decode cL_does 110 = .ok (.if_icmp .ne 11, 3) := by decide +kernel
theorem dL_does_113 : decode cL_does 113 = .ok (.aload_n 0, 1) := by decide +kernel
theorem dL_does_114 : decode cL_does 114 = .ok (.iload_n 2, 1) := by decide +kernel
theorem dL_does_115 : decode cL_does 115 = .ok (.invokevirtual 37, 3) := by decide +kernel
theorem dL_does_118 : decode cL_does 118 = .ok (.goto 68, 3) := by decide +kernel
theorem dL_does_121 : decode cL_does 121 = .ok (.iload_n 1, 1) := by decide +kernel
theorem dL_does_122 : decode cL_does 122 = .ok (.bipush 9, 2) := by decide +kernel
theorem dL_does_124 : decode cL_does 124 = .ok (.if_icmp .ne 12, 3) := by decide +kernel
theorem dL_does_127 : decode cL_does 127 = .ok (.aload_n 0, 1) := by decide +kernel
theorem dL_does_128 : decode cL_does 128 = .ok (.iload_n 2, 1) := by decide +kernel
theorem dL_does_129 : decode cL_does 129 = .ok (.iload_n 3, 1) := by decide +kernel
theorem dL_does_130 : decode cL_does 130 = .ok (.invokevirtual 40, 3) := by decide +kernel
theorem dL_does_133 : decode cL_does 133 = .ok (.goto 53, 3) := by decide +kernel
theorem dL_does_136 : decode cL_does 136 = .ok (.iload_n 1, 1) := by decide +kernel
theorem dL_does_137 : decode cL_does 137 = .ok (.bipush 10, 2) := by decide +kernel
theorem dL_does_139 : decode cL_does 139 = .ok (.if_icmp .ne 12, 3) := by decide +kernel
theorem dL_does_142 : decode cL_does 142 = .ok (.aload_n 0, 1) := by decide +kernel
theorem dL_does_143 : decode cL_does 143 = .ok (.iload_n 2, 1) := by decide +kernel
theorem dL_does_144 : decode cL_does 144 = .ok (.iload_n 3, 1) := by decide +kernel
theorem dL_does_145 : decode cL_does 145 = .ok (.invokevirtual 43, 3) := by decide +kernel
theorem dL_does_148 : decode cL_does 148 = .ok (.goto 38, 3) := by decide +kernel
theorem dL_does_151 : decode cL_does 151 = .ok (.iload_n 1, 1) := by decide +kernel
theorem dL_does_152 : decode cL_does 152 = .ok (.bipush 11, 2) := by decide +kernel
theorem dL_does_154 : decode cL_does 154 = .ok (.if_icmp .ne 12, 3) := by decide +kernel
theorem dL_does_157 : decode cL_does 157 = .ok (.aload_n 0, 1) := by decide +kernel
theorem dL_does_158 : decode cL_does 158 = .ok (.iload_n 2, 1) := by decide +kernel
theorem dL_does_159 : decode cL_does 159 = .ok (.iload_n 3, 1) := by decide +kernel
theorem dL_does_160 : decode cL_does 160 = .ok (.invokevirtual 46, 3) := by decide +kernel
theorem dL_does_163 : decode cL_does 163 = .ok (.goto 23, 3) := by decide +kernel
theorem dL_does_166 : decode cL_does 166 = .ok (.iload_n 1, 1) := by decide +kernel
theorem dL_does_167 : decode cL_does 167 = .ok (.bipush 12, 2) := by decide +kernel
theorem dL_does_169 : decode cL_does 169 = .ok (.if_icmp .ne 12, 3) := by decide +kernel
theorem dL_does_172 : decode cL_does 172 = .ok (.aload_n 0, 1) := by decide +kernel
theorem dL_does_173 : decode cL_does 173 = .ok (.iload_n 2, 1) := by decide +kernel
theorem dL_does_174 : decode cL_does 174 = .ok (.iload_n 3, 1) := by decide +kernel
theorem dL_does_175 : decode cL_does 175 = .ok (.invokevirtual 49, 3) := by decide +kernel
theorem dL_does_178 : decode cL_does 178 = .ok (.goto 8, 3) := by decide +kernel
theorem dL_does_181 : decode cL_does 181 = .ok (.aload_n 0, 1) := by decide +kernel
theorem dL_does_182 : decode cL_does 182 = .ok (.iload_n 2, 1) := by decide +kernel
theorem dL_does_183 : decode cL_does 183 = .ok (.invokevirtual 52, 3) := by decide +kernel
theorem dL_does_186 : decode cL_does 186 = .ok (.ireturn, 1) := by decide +kernel
theorem dL_does_187 : decode cL_does 187 = .ok (.astore 4, 2) := by decide +kernel
theorem dL_does_189 : decode cL_does 189 = .ok (.bipush (-70), 2) := by decide +kernel
theorem dL_does_191 : decode cL_does 191 = .ok (.ireturn, 1) := by decide +kernel
theorem dL_does_192 : decode cL_does 192 = .ok (.astore 4, 2) := by decide +kernel
theorem dL_does_194 : decode cL_does 194 = .ok (.bipush (-70), 2) := by decide +kernel
theorem dL_does_196 : decode cL_does 196 = .ok (.ireturn, 1) := by decide +kernel
theorem dL_does_197 : decode cL_does 197 = .ok (.astore 4, 2) := by decide +kernel
theorem dL_does_199 : decode cL_does 199 = .ok (.bipush (-70), 2) := by decide +kernel
theorem dL_does_201 : decode cL_does 201 = .ok (.ireturn, 1) := by decide +kernel
theorem dL_stone_0 : decode cL_stone 0 = .ok (.aload_n 0, 1) := by decide +kernel
theorem dL_stone_1 : decode cL_stone 1 = .ok (.iload_n 1, 1) := by decide +kernel
theorem dL_stone_2 : decode cL_stone 2 = .ok (.iload_n 2, 1) := by decide +kernel
theorem dL_stone_3 : decode cL_stone 3 = .ok (.iload_n 3, 1) := by decide +kernel
theorem dL_stone_4 : decode cL_stone 4 = .ok (.iload 4, 2) := by decide +kernel
theorem dL_stone_6 : decode cL_stone 6 = .ok (.iload 5, 2) := by decide +kernel
theorem dL_stone_8 : decode cL_stone 8 = .ok (.invokevirtual 61, 3) := by decide +kernel
theorem dL_stone_11 : decode cL_stone 11 = .ok (.ireturn, 1) := by decide +kernel
theorem dL_stone_12 : decode cL_stone 12 = .ok (.astore 6, 2) := by decide +kernel
theorem dL_stone_14 : decode cL_stone 14 = .ok (.bipush (-70), 2) := by decide +kernel
theorem dL_stone_16 : decode cL_stone 16 = .ok (.ireturn, 1) := by decide +kernel
theorem dL_stone_17 : decode cL_stone 17 = .ok (.astore 6, 2) := by decide +kernel
theorem dL_stone_19 : decode cL_stone 19 = .ok (.bipush (-70), 2) := by decide +kernel
theorem dL_stone_21 : decode cL_stone 21 = .ok (.ireturn, 1) := by decide +kernel
theorem dL_stone_22 : decode cL_stone 22 = .ok (.astore 6, 2) := by decide +kernel
theorem dL_stone_24 : decode cL_stone 24 = .ok (.bipush (-70), 2) := by decide +kernel
theorem dL_stone_26 : decode cL_stone 26 = .ok (.ireturn, 1) := by decide +kernel
theorem dL_price_0 : decode cL_price 0 = .ok (.aload_n 0, 1) := by decide +kernel
theorem dL_price_1 : decode cL_price 1 = .ok (.iload_n 1, 1) := by decide +kernel
theorem dL_price_2 : decode cL_price 2 = .ok (.iload_n 2, 1) := by decide +kernel
theorem dL_price_3 : decode cL_price 3 = .ok (.iload_n 3, 1) := by decide +kernel
theorem dL_price_4 : decode cL_price 4 = .ok (.invokevirtual 65, 3) := by decide +kernel
theorem dL_price_7 : decode cL_price 7 = .ok (.ireturn, 1) := by decide +kernel
theorem dL_price_8 : decode cL_price 8 = .ok (.astore 4, 2) := by decide +kernel
theorem dL_price_10 : decode cL_price 10 = .ok (.bipush (-70), 2) := by decide +kernel
theorem dL_price_12 : decode cL_price 12 = .ok (.ireturn, 1) := by decide +kernel
theorem dL_price_13 : decode cL_price 13 = .ok (.astore 4, 2) := by decide +kernel
theorem dL_price_15 : decode cL_price 15 = .ok (.bipush (-70), 2) := by decide +kernel
theorem dL_price_17 : decode cL_price 17 = .ok (.ireturn, 1) := by decide +kernel
theorem dL_take_0 : decode cL_take 0 = .ok (.aload_n 0, 1) := by decide +kernel
theorem dL_take_1 : decode cL_take 1 = .ok (.iload_n 1, 1) := by decide +kernel
theorem dL_take_2 : decode cL_take 2 = .ok (.iload_n 2, 1) := by decide +kernel
theorem dL_take_3 : decode cL_take 3 = .ok (.invokevirtual 69, 3) := by decide +kernel
theorem dL_take_6 : decode cL_take 6 = .ok (.ireturn, 1) := by decide +kernel
theorem dL_take_7 : decode cL_take 7 = .ok (.astore_n 3, 1) := by decide +kernel
theorem dL_take_8 : decode cL_take 8 = .ok (.bipush (-70), 2) := by decide +kernel
theorem dL_take_10 : decode cL_take 10 = .ok (.ireturn, 1) := by decide +kernel
theorem dL_take_11 : decode cL_take 11 = .ok (.astore_n 3, 1) := by decide +kernel
theorem dL_take_12 : decode cL_take 12 = .ok (.bipush (-70), 2) := by decide +kernel
theorem dL_take_14 : decode cL_take 14 = .ok (.ireturn, 1) := by decide +kernel
theorem dL_tenders_0 : decode cL_tenders 0 = .ok (.aload_n 0, 1) := by decide +kernel
theorem dL_tenders_1 : decode cL_tenders 1 = .ok (.iload_n 1, 1) := by decide +kernel
theorem dL_tenders_2 : decode cL_tenders 2 = .ok (.iload_n 2, 1) := by decide +kernel
theorem dL_tenders_3 : decode cL_tenders 3 = .ok (.invokevirtual 73, 3) := by decide +kernel
theorem dL_tenders_6 : decode cL_tenders 6 = .ok (.iconst 1, 1) := by decide +kernel
theorem dL_tenders_7 : decode cL_tenders 7 = .ok (.ireturn, 1) := by decide +kernel
theorem dL_tenders_8 : decode cL_tenders 8 = .ok (.astore_n 3, 1) := by decide +kernel
theorem dL_tenders_9 : decode cL_tenders 9 = .ok (.bipush (-70), 2) := by decide +kernel
theorem dL_tenders_11 : decode cL_tenders 11 = .ok (.ireturn, 1) := by decide +kernel
theorem dL_tenders_12 : decode cL_tenders 12 = .ok (.astore_n 3, 1) := by decide +kernel
theorem dL_tenders_13 : decode cL_tenders 13 = .ok (.bipush (-70), 2) := by decide +kernel
theorem dL_tenders_15 : decode cL_tenders 15 = .ok (.ireturn, 1) := by decide +kernel
theorem dL_tenders_16 : decode cL_tenders 16 = .ok (.astore_n 3, 1) := by decide +kernel
theorem dL_tenders_17 : decode cL_tenders 17 = .ok (.bipush (-70), 2) := by decide +kernel
theorem dL_tenders_19 : decode cL_tenders 19 = .ok (.ireturn, 1) := by decide +kernel
theorem dL_tells_0 : decode cL_tells 0 = .ok (.iload_n 1, 1) := by decide +kernel
theorem dL_tells_1 : decode cL_tells 1 = .ok (.ifCond .ne 11, 3) := by decide +kernel
theorem dL_tells_4 : decode cL_tells 4 = .ok (.aload_n 0, 1) := by decide +kernel
theorem dL_tells_5 : decode cL_tells 5 = .ok (.iload_n 2, 1) := by decide +kernel
theorem dL_tells_6 : decode cL_tells 6 = .ok (.invokevirtual 77, 3) := by decide +kernel
theorem dL_tells_9 : decode cL_tells 9 = .ok (.goto 49, 3) := by decide +kernel
theorem dL_tells_12 : decode cL_tells 12 = .ok (.iload_n 1, 1) := by decide +kernel
theorem dL_tells_13 : decode cL_tells 13 = .ok (.iconst 1, 1) := by decide +kernel
theorem dL_tells_14 : decode cL_tells 14 = .ok (.if_icmp .ne 11, 3) := by decide +kernel
theorem dL_tells_17 : decode cL_tells 17 = .ok (.aload_n 0, 1) := by decide +kernel
theorem dL_tells_18 : decode cL_tells 18 = .ok (.iload_n 2, 1) := by decide +kernel
theorem dL_tells_19 : decode cL_tells 19 = .ok (.invokevirtual 80, 3) := by decide +kernel
theorem dL_tells_22 : decode cL_tells 22 = .ok (.goto 36, 3) := by decide +kernel
theorem dL_tells_25 : decode cL_tells 25 = .ok (.iload_n 1, 1) := by decide +kernel
theorem dL_tells_26 : decode cL_tells 26 = .ok (.iconst 2, 1) := by decide +kernel
theorem dL_tells_27 : decode cL_tells 27 = .ok (.if_icmp .ne 11, 3) := by decide +kernel
theorem dL_tells_30 : decode cL_tells 30 = .ok (.aload_n 0, 1) := by decide +kernel
theorem dL_tells_31 : decode cL_tells 31 = .ok (.iload_n 2, 1) := by decide +kernel
theorem dL_tells_32 : decode cL_tells 32 = .ok (.invokevirtual 83, 3) := by decide +kernel
theorem dL_tells_35 : decode cL_tells 35 = .ok (.goto 23, 3) := by decide +kernel
theorem dL_tells_38 : decode cL_tells 38 = .ok (.iload_n 1, 1) := by decide +kernel
theorem dL_tells_39 : decode cL_tells 39 = .ok (.iconst 3, 1) := by decide +kernel
theorem dL_tells_40 : decode cL_tells 40 = .ok (.if_icmp .ne 12, 3) := by decide +kernel
theorem dL_tells_43 : decode cL_tells 43 = .ok (.aload_n 0, 1) := by decide +kernel
theorem dL_tells_44 : decode cL_tells 44 = .ok (.iload_n 2, 1) := by decide +kernel
theorem dL_tells_45 : decode cL_tells 45 = .ok (.iload_n 3, 1) := by decide +kernel
theorem dL_tells_46 : decode cL_tells 46 = .ok (.invokevirtual 86, 3) := by decide +kernel
theorem dL_tells_49 : decode cL_tells 49 = .ok (.goto 9, 3) := by decide +kernel
theorem dL_tells_52 : decode cL_tells 52 = .ok (.aload_n 0, 1) := by decide +kernel
theorem dL_tells_53 : decode cL_tells 53 = .ok (.iload_n 2, 1) := by decide +kernel
theorem dL_tells_54 : decode cL_tells 54 = .ok (.iload_n 3, 1) := by decide +kernel
theorem dL_tells_55 : decode cL_tells 55 = .ok (.invokevirtual 89, 3) := by decide +kernel
theorem dL_tells_58 : decode cL_tells 58 = .ok (.ireturn, 1) := by decide +kernel
theorem dL_tells_59 : decode cL_tells 59 = .ok (.astore 4, 2) := by decide +kernel
theorem dL_tells_61 : decode cL_tells 61 = .ok (.bipush (-70), 2) := by decide +kernel
theorem dL_tells_63 : decode cL_tells 63 = .ok (.ireturn, 1) := by decide +kernel
theorem dL_tells_64 : decode cL_tells 64 = .ok (.astore 4, 2) := by decide +kernel
theorem dL_tells_66 : decode cL_tells 66 = .ok (.bipush (-70), 2) := by decide +kernel
theorem dL_tells_68 : decode cL_tells 68 = .ok (.ireturn, 1) := by decide +kernel
theorem dL_turned_0 : decode cL_turned 0 = .ok (.iconst 0, 1) := by decide +kernel
theorem dL_turned_1 : decode cL_turned 1 = .ok (.istore_n 1, 1) := by decide +kernel
theorem dL_turned_2 : decode cL_turned 2 = .ok (.iconst 0, 1) := by decide +kernel
theorem dL_turned_3 : decode cL_turned 3 = .ok (.istore_n 2, 1) := by decide +kernel
theorem dL_turned_4 : decode cL_turned 4 = .ok (.iload_n 2, 1) := by decide +kernel
theorem dL_turned_5 : decode cL_turned 5 = .ok (.bipush 12, 2) := by decide +kernel
theorem dL_turned_7 : decode cL_turned 7 = .ok (.if_icmp .ge 22, 3) := by decide +kernel
theorem dL_turned_10 : decode cL_turned 10 = .ok (.iload_n 1, 1) := by decide +kernel
theorem dL_turned_11 : decode cL_turned 11 = .ok (.iload_n 0, 1) := by decide +kernel
theorem dL_turned_12 : decode cL_turned 12 = .ok (.iload_n 2, 1) := by decide +kernel
theorem dL_turned_13 : decode cL_turned 13 = .ok (.ishr, 1) := by decide +kernel
theorem dL_turned_14 : decode cL_turned 14 = .ok (.iconst 1, 1) := by decide +kernel
theorem dL_turned_15 : decode cL_turned 15 = .ok (.iand, 1) := by decide +kernel
theorem dL_turned_16 : decode cL_turned 16 = .ok (.bipush 11, 2) := by decide +kernel
theorem dL_turned_18 : decode cL_turned 18 = .ok (.iload_n 2, 1) := by decide +kernel
theorem dL_turned_19 : decode cL_turned 19 = .ok (.isub, 1) := by decide +kernel
theorem dL_turned_20 : decode cL_turned 20 = .ok (.ishl, 1) := by decide +kernel
theorem dL_turned_21 : decode cL_turned 21 = .ok (.ior, 1) := by decide +kernel
theorem dL_turned_22 : decode cL_turned 22 = .ok (.istore_n 1, 1) := by decide +kernel
theorem dL_turned_23 : decode cL_turned 23 = .ok (.iinc 2 1, 3) := by decide +kernel
theorem dL_turned_26 : decode cL_turned 26 = .ok (.goto (-22), 3) := by decide +kernel
theorem dL_turned_29 : decode cL_turned 29 = .ok (.iload_n 1, 1) := by decide +kernel
theorem dL_turned_30 : decode cL_turned 30 = .ok (.ireturn, 1) := by decide +kernel
theorem dL_areAlike_0 : decode cL_areAlike 0 = .ok (.iconst 1, 1) := by decide +kernel
theorem dL_areAlike_1 : decode cL_areAlike 1 = .ok (.istore 5, 2) := by decide +kernel
theorem dL_areAlike_3 : decode cL_areAlike 3 = .ok (.iconst 0, 1) := by decide +kernel
theorem dL_areAlike_4 : decode cL_areAlike 4 = .ok (.istore 6, 2) := by decide +kernel
theorem dL_areAlike_6 : decode cL_areAlike 6 = .ok (.iload 6, 2) := by decide +kernel
theorem dL_areAlike_8 : decode cL_areAlike 8 = .ok (.iload_n 2, 1) := by decide +kernel
theorem dL_areAlike_9 : decode cL_areAlike 9 = .ok (.if_icmp .ge 115, 3) := by decide +kernel
theorem dL_areAlike_12 : decode cL_areAlike 12 = .ok (.iload 5, 2) := by decide +kernel
theorem dL_areAlike_14 : decode cL_areAlike 14 = .ok (.ifCond .eq 110, 3) := by decide +kernel
theorem dL_areAlike_17 : decode cL_areAlike 17 = .ok (.iconst 0, 1) := by decide +kernel
theorem dL_areAlike_18 : decode cL_areAlike 18 = .ok (.istore 7, 2) := by decide +kernel
theorem dL_areAlike_20 : decode cL_areAlike 20 = .ok (.iload 7, 2) := by decide +kernel
theorem dL_areAlike_22 : decode cL_areAlike 22 = .ok (.bipush 7, 2) := by decide +kernel
theorem dL_areAlike_24 : decode cL_areAlike 24 = .ok (.if_icmp .ge 42, 3) := by decide +kernel
theorem dL_areAlike_27 : decode cL_areAlike 27 = .ok (.iload 5, 2) := by decide +kernel
theorem dL_areAlike_29 : decode cL_areAlike 29 = .ok (.ifCond .eq 37, 3) := by decide +kernel
theorem dL_areAlike_32 : decode cL_areAlike 32 = .ok (.aload_n 0, 1) := by decide +kernel
theorem dL_areAlike_33 : decode cL_areAlike 33 = .ok (.iconst 3, 1) := by decide +kernel
theorem dL_areAlike_34 : decode cL_areAlike 34 = .ok (.iload 6, 2) := by decide +kernel
theorem dL_areAlike_36 : decode cL_areAlike 36 = .ok (.iload 7, 2) := by decide +kernel
theorem dL_areAlike_38 : decode cL_areAlike 38 = .ok (.invokestatic 92, 3) := by decide +kernel
theorem dL_areAlike_41 : decode cL_areAlike 41 = .ok (.aload_n 1, 1) := by decide +kernel
theorem dL_areAlike_42 : decode cL_areAlike 42 = .ok (.iconst 3, 1) := by decide +kernel
theorem dL_areAlike_43 : decode cL_areAlike 43 = .ok (.iload 6, 2) := by decide +kernel
theorem dL_areAlike_45 : decode cL_areAlike 45 = .ok (.iload 7, 2) := by decide +kernel
theorem dL_areAlike_47 : decode cL_areAlike 47 = .ok (.invokestatic 92, 3) := by decide +kernel
theorem dL_areAlike_50 : decode cL_areAlike 50 = .ok (.if_icmp .ne 7, 3) := by decide +kernel
theorem dL_areAlike_53 : decode cL_areAlike 53 = .ok (.iconst 1, 1) := by decide +kernel
theorem dL_areAlike_54 : decode cL_areAlike 54 = .ok (.goto 4, 3) := by decide +kernel
theorem dL_areAlike_57 : decode cL_areAlike 57 = .ok (.iconst 0, 1) := by decide +kernel
theorem dL_areAlike_58 : decode cL_areAlike 58 = .ok (.istore 5, 2) := by decide +kernel
theorem dL_areAlike_60 : decode cL_areAlike 60 = .ok (.iinc 7 1, 3) := by decide +kernel
theorem dL_areAlike_63 : decode cL_areAlike 63 = .ok (.goto (-43), 3) := by decide +kernel
theorem dL_areAlike_66 : decode cL_areAlike 66 = .ok (.iload 5, 2) := by decide +kernel
theorem dL_areAlike_68 : decode cL_areAlike 68 = .ok (.ifCond .eq 47, 3) := by decide +kernel
theorem dL_areAlike_71 : decode cL_areAlike 71 = .ok (.aload_n 0, 1) := by decide +kernel
theorem dL_areAlike_72 : decode cL_areAlike 72 = .ok (.iconst 0, 1) := by decide +kernel
theorem dL_areAlike_73 : decode cL_areAlike 73 = .ok (.iload 6, 2) := by decide +kernel
theorem dL_areAlike_75 : decode cL_areAlike 75 = .ok (.iconst 0, 1) := by decide +kernel
theorem dL_areAlike_76 : decode cL_areAlike 76 = .ok (.invokestatic 92, 3) := by decide +kernel
theorem dL_areAlike_79 : decode cL_areAlike 79 = .ok (.aload_n 1, 1) := by decide +kernel
theorem dL_areAlike_80 : decode cL_areAlike 80 = .ok (.iconst 0, 1) := by decide +kernel
theorem dL_areAlike_81 : decode cL_areAlike 81 = .ok (.iload 6, 2) := by decide +kernel
theorem dL_areAlike_83 : decode cL_areAlike 83 = .ok (.iconst 0, 1) := by decide +kernel
theorem dL_areAlike_84 : decode cL_areAlike 84 = .ok (.invokestatic 92, 3) := by decide +kernel
theorem dL_areAlike_87 : decode cL_areAlike 87 = .ok (.if_icmp .ne 28, 3) := by decide +kernel
theorem dL_areAlike_90 : decode cL_areAlike 90 = .ok (.aload_n 0, 1) := by decide +kernel
theorem dL_areAlike_91 : decode cL_areAlike 91 = .ok (.bipush 6, 2) := by decide +kernel
theorem dL_areAlike_93 : decode cL_areAlike 93 = .ok (.iload 6, 2) := by decide +kernel
theorem dL_areAlike_95 : decode cL_areAlike 95 = .ok (.iconst 0, 1) := by decide +kernel
theorem dL_areAlike_96 : decode cL_areAlike 96 = .ok (.invokestatic 98, 3) := by decide +kernel
theorem dL_areAlike_99 : decode cL_areAlike 99 = .ok (.aload_n 1, 1) := by decide +kernel
theorem dL_areAlike_100 : decode cL_areAlike 100 = .ok (.bipush 6, 2) := by decide +kernel
theorem dL_areAlike_102 : decode cL_areAlike 102 = .ok (.iload 6, 2) := by decide +kernel
theorem dL_areAlike_104 : decode cL_areAlike 104 = .ok (.iconst 0, 1) := by decide +kernel
theorem dL_areAlike_105 : decode cL_areAlike 105 = .ok (.invokestatic 98, 3) := by decide +kernel
theorem dL_areAlike_108 : decode cL_areAlike 108 = .ok (.if_icmp .ne 7, 3) := by decide +kernel
theorem dL_areAlike_111 : decode cL_areAlike 111 = .ok (.iconst 1, 1) := by decide +kernel
theorem dL_areAlike_112 : decode cL_areAlike 112 = .ok (.goto 4, 3) := by decide +kernel
theorem dL_areAlike_115 : decode cL_areAlike 115 = .ok (.iconst 0, 1) := by decide +kernel
theorem dL_areAlike_116 : decode cL_areAlike 116 = .ok (.istore 5, 2) := by decide +kernel
theorem dL_areAlike_118 : decode cL_areAlike 118 = .ok (.iinc 6 1, 3) := by decide +kernel
theorem dL_areAlike_121 : decode cL_areAlike 121 = .ok (.goto (-115), 3) := by decide +kernel
theorem dL_areAlike_124 : decode cL_areAlike 124 = .ok (.iconst 0, 1) := by decide +kernel
theorem dL_areAlike_125 : decode cL_areAlike 125 = .ok (.istore 6, 2) := by decide +kernel
theorem dL_areAlike_127 : decode cL_areAlike 127 = .ok (.iload 6, 2) := by decide +kernel
theorem dL_areAlike_129 : decode cL_areAlike 129 = .ok (.iload_n 3, 1) := by decide +kernel
theorem dL_areAlike_130 : decode cL_areAlike 130 = .ok (.if_icmp .ge 118, 3) := by decide +kernel
theorem dL_areAlike_133 : decode cL_areAlike 133 = .ok (.iload 5, 2) := by decide +kernel
theorem dL_areAlike_135 : decode cL_areAlike 135 = .ok (.ifCond .eq 113, 3) := by decide +kernel
theorem dL_areAlike_138 : decode cL_areAlike 138 = .ok (.iconst 0, 1) := by decide +kernel
theorem dL_areAlike_139 : decode cL_areAlike 139 = .ok (.istore 7, 2) := by decide +kernel
theorem dL_areAlike_141 : decode cL_areAlike 141 = .ok (.iload 7, 2) := by decide +kernel
theorem dL_areAlike_143 : decode cL_areAlike 143 = .ok (.bipush 9, 2) := by decide +kernel
theorem dL_areAlike_145 : decode cL_areAlike 145 = .ok (.if_icmp .ge 51, 3) := by decide +kernel
theorem dL_areAlike_148 : decode cL_areAlike 148 = .ok (.iload 5, 2) := by decide +kernel
theorem dL_areAlike_150 : decode cL_areAlike 150 = .ok (.ifCond .eq 46, 3) := by decide +kernel
theorem dL_areAlike_153 : decode cL_areAlike 153 = .ok (.iload 7, 2) := by decide +kernel
theorem dL_areAlike_155 : decode cL_areAlike 155 = .ok (.iconst 2, 1) := by decide +kernel
theorem dL_areAlike_156 : decode cL_areAlike 156 = .ok (.if_icmp .eq 27, 3) := by decide +kernel
theorem dL_areAlike_159 : decode cL_areAlike 159 = .ok (.aload_n 0, 1) := by decide +kernel
theorem dL_areAlike_160 : decode cL_areAlike 160 = .ok (.iconst 4, 1) := by decide +kernel
theorem dL_areAlike_161 : decode cL_areAlike 161 = .ok (.iload 6, 2) := by decide +kernel
theorem dL_areAlike_163 : decode cL_areAlike 163 = .ok (.iload 7, 2) := by decide +kernel
theorem dL_areAlike_165 : decode cL_areAlike 165 = .ok (.invokestatic 92, 3) := by decide +kernel
theorem dL_areAlike_168 : decode cL_areAlike 168 = .ok (.aload_n 1, 1) := by decide +kernel
theorem dL_areAlike_169 : decode cL_areAlike 169 = .ok (.iconst 4, 1) := by decide +kernel
theorem dL_areAlike_170 : decode cL_areAlike 170 = .ok (.aload 4, 2) := by decide +kernel
theorem dL_areAlike_172 : decode cL_areAlike 172 = .ok (.iload 6, 2) := by decide +kernel
theorem dL_areAlike_174 : decode cL_areAlike 174 = .ok (.iaload, 1) := by decide +kernel
theorem dL_areAlike_175 : decode cL_areAlike 175 = .ok (.iload 7, 2) := by decide +kernel
theorem dL_areAlike_177 : decode cL_areAlike 177 = .ok (.invokestatic 92, 3) := by decide +kernel
theorem dL_areAlike_180 : decode cL_areAlike 180 = .ok (.if_icmp .ne 7, 3) := by decide +kernel
theorem dL_areAlike_183 : decode cL_areAlike 183 = .ok (.iconst 1, 1) := by decide +kernel
theorem dL_areAlike_184 : decode cL_areAlike 184 = .ok (.goto 4, 3) := by decide +kernel
theorem dL_areAlike_187 : decode cL_areAlike 187 = .ok (.iconst 0, 1) := by decide +kernel
theorem dL_areAlike_188 : decode cL_areAlike 188 = .ok (.istore 5, 2) := by decide +kernel
theorem dL_areAlike_190 : decode cL_areAlike 190 = .ok (.iinc 7 1, 3) := by decide +kernel
theorem dL_areAlike_193 : decode cL_areAlike 193 = .ok (.goto (-52), 3) := by decide +kernel
theorem dL_areAlike_196 : decode cL_areAlike 196 = .ok (.iload 5, 2) := by decide +kernel
theorem dL_areAlike_198 : decode cL_areAlike 198 = .ok (.ifCond .eq 41, 3) := by decide +kernel
theorem dL_areAlike_201 : decode cL_areAlike 201 = .ok (.aload_n 0, 1) := by decide +kernel
theorem dL_areAlike_202 : decode cL_areAlike 202 = .ok (.iconst 4, 1) := by decide +kernel
theorem dL_areAlike_203 : decode cL_areAlike 203 = .ok (.iload 6, 2) := by decide +kernel
theorem dL_areAlike_205 : decode cL_areAlike 205 = .ok (.iconst 2, 1) := by decide +kernel
theorem dL_areAlike_206 : decode cL_areAlike 206 = .ok (.invokestatic 92, 3) := by decide +kernel
theorem dL_areAlike_209 : decode cL_areAlike 209 = .ok (.aload_n 0, 1) := by decide +kernel
theorem dL_areAlike_210 : decode cL_areAlike 210 = .ok (.iconst 4, 1) := by decide +kernel
theorem dL_areAlike_211 : decode cL_areAlike 211 = .ok (.iload 6, 2) := by decide +kernel
theorem dL_areAlike_213 : decode cL_areAlike 213 = .ok (.iconst 3, 1) := by decide +kernel
theorem dL_areAlike_214 : decode cL_areAlike 214 = .ok (.invokestatic 92, 3) := by decide +kernel
theorem dL_areAlike_217 : decode cL_areAlike 217 = .ok (.iadd, 1) := by decide +kernel
theorem dL_areAlike_218 : decode cL_areAlike 218 = .ok (.aload_n 1, 1) := by decide +kernel
theorem dL_areAlike_219 : decode cL_areAlike 219 = .ok (.iconst 4, 1) := by decide +kernel
theorem dL_areAlike_220 : decode cL_areAlike 220 = .ok (.aload 4, 2) := by decide +kernel
theorem dL_areAlike_222 : decode cL_areAlike 222 = .ok (.iload 6, 2) := by decide +kernel
theorem dL_areAlike_224 : decode cL_areAlike 224 = .ok (.iaload, 1) := by decide +kernel
theorem dL_areAlike_225 : decode cL_areAlike 225 = .ok (.iconst 2, 1) := by decide +kernel
theorem dL_areAlike_226 : decode cL_areAlike 226 = .ok (.invokestatic 92, 3) := by decide +kernel
theorem dL_areAlike_229 : decode cL_areAlike 229 = .ok (.iadd, 1) := by decide +kernel
theorem dL_areAlike_230 : decode cL_areAlike 230 = .ok (.bipush 12, 2) := by decide +kernel
theorem dL_areAlike_232 : decode cL_areAlike 232 = .ok (.if_icmp .ne 7, 3) := by decide +kernel
theorem dL_areAlike_235 : decode cL_areAlike 235 = .ok (.iconst 1, 1) := by decide +kernel
theorem dL_areAlike_236 : decode cL_areAlike 236 = .ok (.goto 4, 3) := by decide +kernel
theorem dL_areAlike_239 : decode cL_areAlike 239 = .ok (.iconst 0, 1) := by decide +kernel
theorem dL_areAlike_240 : decode cL_areAlike 240 = .ok (.istore 5, 2) := by decide +kernel
theorem dL_areAlike_242 : decode cL_areAlike 242 = .ok (.iinc 6 1, 3) := by decide +kernel
theorem dL_areAlike_245 : decode cL_areAlike 245 = .ok (.goto (-118), 3) := by decide +kernel
theorem dL_areAlike_248 : decode cL_areAlike 248 = .ok (.iconst 0, 1) := by decide +kernel
theorem dL_areAlike_249 : decode cL_areAlike 249 = .ok (.istore 6, 2) := by decide +kernel
theorem dL_areAlike_251 : decode cL_areAlike 251 = .ok (.iload 6, 2) := by decide +kernel
theorem dL_areAlike_253 : decode cL_areAlike 253 = .ok (.bipush 6, 2) := by decide +kernel
theorem dL_areAlike_255 : decode cL_areAlike 255 = .ok (.if_icmp .ge 80, 3) := by decide +kernel
theorem dL_areAlike_258 : decode cL_areAlike 258 = .ok (.iload 5, 2) := by decide +kernel
theorem dL_areAlike_260 : decode cL_areAlike 260 = .ok (.ifCond .eq 75, 3) := by decide +kernel
theorem dL_areAlike_263 : decode cL_areAlike 263 = .ok (.aload_n 0, 1) := by decide +kernel
theorem dL_areAlike_264 : decode cL_areAlike 264 = .ok (.bipush 13, 2) := by decide +kernel
theorem dL_areAlike_266 : decode cL_areAlike 266 = .ok (.iload 6, 2) := by decide +kernel
theorem dL_areAlike_268 : decode cL_areAlike 268 = .ok (.iconst 0, 1) := by decide +kernel
theorem dL_areAlike_269 : decode cL_areAlike 269 = .ok (.invokestatic 98, 3) := by decide +kernel
theorem dL_areAlike_272 : decode cL_areAlike 272 = .ok (.aload_n 1, 1) := by decide +kernel
theorem dL_areAlike_273 : decode cL_areAlike 273 = .ok (.bipush 13, 2) := by decide +kernel
theorem dL_areAlike_275 : decode cL_areAlike 275 = .ok (.iload 6, 2) := by decide +kernel
theorem dL_areAlike_277 : decode cL_areAlike 277 = .ok (.iconst 0, 1) := by decide +kernel
theorem dL_areAlike_278 : decode cL_areAlike 278 = .ok (.invokestatic 98, 3) := by decide +kernel
theorem dL_areAlike_281 : decode cL_areAlike 281 = .ok (.if_icmp .ne 45, 3) := by decide +kernel
theorem dL_areAlike_284 : decode cL_areAlike 284 = .ok (.aload_n 0, 1) := by decide +kernel
theorem dL_areAlike_285 : decode cL_areAlike 285 = .ok (.iconst 2, 1) := by decide +kernel
theorem dL_areAlike_286 : decode cL_areAlike 286 = .ok (.iload 6, 2) := by decide +kernel
theorem dL_areAlike_288 : decode cL_areAlike 288 = .ok (.iconst 0, 1) := by decide +kernel
theorem dL_areAlike_289 : decode cL_areAlike 289 = .ok (.invokestatic 92, 3) := by decide +kernel
theorem dL_areAlike_292 : decode cL_areAlike 292 = .ok (.aload_n 1, 1) := by decide +kernel
theorem dL_areAlike_293 : decode cL_areAlike 293 = .ok (.iconst 2, 1) := by decide +kernel
theorem dL_areAlike_294 : decode cL_areAlike 294 = .ok (.iload 6, 2) := by decide +kernel
theorem dL_areAlike_296 : decode cL_areAlike 296 = .ok (.iconst 0, 1) := by decide +kernel
theorem dL_areAlike_297 : decode cL_areAlike 297 = .ok (.invokestatic 92, 3) := by decide +kernel
theorem dL_areAlike_300 : decode cL_areAlike 300 = .ok (.if_icmp .ne 26, 3) := by decide +kernel
theorem dL_areAlike_303 : decode cL_areAlike 303 = .ok (.aload_n 0, 1) := by decide +kernel
theorem dL_areAlike_304 : decode cL_areAlike 304 = .ok (.iconst 1, 1) := by decide +kernel
theorem dL_areAlike_305 : decode cL_areAlike 305 = .ok (.iload 6, 2) := by decide +kernel
theorem dL_areAlike_307 : decode cL_areAlike 307 = .ok (.iconst 0, 1) := by decide +kernel
theorem dL_areAlike_308 : decode cL_areAlike 308 = .ok (.invokestatic 92, 3) := by decide +kernel
theorem dL_areAlike_311 : decode cL_areAlike 311 = .ok (.aload_n 1, 1) := by decide +kernel
theorem dL_areAlike_312 : decode cL_areAlike 312 = .ok (.iconst 1, 1) := by decide +kernel
theorem dL_areAlike_313 : decode cL_areAlike 313 = .ok (.iload 6, 2) := by decide +kernel
theorem dL_areAlike_315 : decode cL_areAlike 315 = .ok (.iconst 0, 1) := by decide +kernel
theorem dL_areAlike_316 : decode cL_areAlike 316 = .ok (.invokestatic 92, 3) := by decide +kernel
theorem dL_areAlike_319 : decode cL_areAlike 319 = .ok (.if_icmp .ne 7, 3) := by decide +kernel
theorem dL_areAlike_322 : decode cL_areAlike 322 = .ok (.iconst 1, 1) := by decide +kernel
theorem dL_areAlike_323 : decode cL_areAlike 323 = .ok (.goto 4, 3) := by decide +kernel
theorem dL_areAlike_326 : decode cL_areAlike 326 = .ok (.iconst 0, 1) := by decide +kernel
theorem dL_areAlike_327 : decode cL_areAlike 327 = .ok (.istore 5, 2) := by decide +kernel
theorem dL_areAlike_329 : decode cL_areAlike 329 = .ok (.iinc 6 1, 3) := by decide +kernel
theorem dL_areAlike_332 : decode cL_areAlike 332 = .ok (.goto (-81), 3) := by decide +kernel
theorem dL_areAlike_335 : decode cL_areAlike 335 = .ok (.iload 5, 2) := by decide +kernel
theorem dL_areAlike_337 : decode cL_areAlike 337 = .ok (.ireturn, 1) := by decide +kernel
