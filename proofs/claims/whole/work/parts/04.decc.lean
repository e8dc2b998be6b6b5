theorem dX0_init_0 : decode cX0_init 0 = .ok (.aload_n 0, 1) := by decide +kernel
theorem dX0_init_1 : decode cX0_init 1 = .ok (.invokespecial 3, 3) := by decide +kernel
theorem dX0_init_4 : decode cX0_init 4 = .ok (.aload_n 0, 1) := by decide +kernel
theorem dX0_init_5 : decode cX0_init 5 = .ok (.new 9, 3) := by decide +kernel
theorem dX0_init_8 : decode cX0_init 8 = .ok (.dup, 1) := by decide +kernel
theorem dX0_init_9 : decode cX0_init 9 = .ok (.invokespecial 11, 3) := by decide +kernel
theorem dX0_init_12 : decode cX0_init 12 = .ok (.putfield 12, 3) := by decide +kernel
theorem dX0_init_15 : decode cX0_init 15 = .ok (.aload_n 0, 1) := by decide +kernel
theorem dX0_init_16 : decode cX0_init 16 = .ok (.iconst (-1), 1) := by decide +kernel
theorem dX0_init_17 : decode cX0_init 17 = .ok (.putfield 18, 3) := by decide +kernel
theorem dX0_init_20 : decode cX0_init 20 = .ok (.aload_n 0, 1) := by decide +kernel
theorem dX0_init_21 : decode cX0_init 21 = .ok (.aload_n 1, 1) := by decide +kernel
theorem dX0_init_22 : decode cX0_init 22 = .ok (.getfield 22, 3) := by decide +kernel
theorem dX0_init_25 : decode cX0_init 25 = .ok (.putfield 27, 3) := by decide +kernel
theorem dX0_init_28 : decode cX0_init 28 = .ok (.aload_n 0, 1) := by decide +kernel
theorem dX0_init_29 : decode cX0_init 29 = .ok (.aload_n 1, 1) := by decide +kernel
theorem dX0_init_30 : decode cX0_init 30 = .ok (.getfield 30, 3) := by decide +kernel
theorem dX0_init_33 : decode cX0_init 33 = .ok (.putfield 33, 3) := by decide +kernel
theorem dX0_init_36 : decode cX0_init 36 = .ok (.aload_n 0, 1) := by decide +kernel
theorem dX0_init_37 : decode cX0_init 37 = .ok (.aload_n 1, 1) := by decide +kernel
theorem dX0_init_38 : decode cX0_init 38 = .ok (.getfield 34, 3) := by decide +kernel
theorem dX0_init_41 : decode cX0_init 41 = .ok (.putfield 37, 3) := by decide +kernel
theorem dX0_init_44 : decode cX0_init 44 = .ok (.aload_n 0, 1) := by decide +kernel
theorem dX0_init_45 : decode cX0_init 45 = .ok (.aload_n 1, 1) := by decide +kernel
theorem dX0_init_46 : decode cX0_init 46 = .ok (.getfield 40, 3) := by decide +kernel
theorem dX0_init_49 : decode cX0_init 49 = .ok (.putfield 43, 3) := by decide +kernel
theorem dX0_init_52 : decode cX0_init 52 = .ok (.aload_n 0, 1) := by decide +kernel
theorem dX0_init_53 : decode cX0_init 53 = .ok (.iload_n 2, 1) := by decide +kernel
theorem dX0_init_54 : decode cX0_init 54 = .ok (.putfield 44, 3) := by decide +kernel
theorem dX0_init_57 : decode cX0_init 57 = .ok (.aload_n 0, 1) := by decide +kernel
theorem dX0_init_58 : decode cX0_init 58 = .ok (.iload_n 3, 1) := by decide +kernel
theorem dX0_init_59 : decode cX0_init 59 = .ok (.putfield 47, 3) := by decide +kernel
theorem dX0_init_62 : decode cX0_init 62 = .ok (.aload_n 0, 1) := by decide +kernel
theorem dX0_init_63 : decode cX0_init 63 = .ok (.iload_n 3, 1) := by decide +kernel
theorem dX0_init_64 : decode cX0_init 64 = .ok (.aload_n 1, 1) := by decide +kernel
theorem dX0_init_65 : decode cX0_init 65 = .ok (.getfield 50, 3) := by decide +kernel
theorem dX0_init_68 : decode cX0_init 68 = .ok (.imul, 1) := by decide +kernel
theorem dX0_init_69 : decode cX0_init 69 = .ok (.bipush 12, 2) := by decide +kernel
theorem dX0_init_71 : decode cX0_init 71 = .ok (.idiv, 1) := by decide +kernel
theorem dX0_init_72 : decode cX0_init 72 = .ok (.bipush 60, 2) := by decide +kernel
theorem dX0_init_74 : decode cX0_init 74 = .ok (.imul, 1) := by decide +kernel
theorem dX0_init_75 : decode cX0_init 75 = .ok (.bipush 100, 2) := by decide +kernel
theorem dX0_init_77 : decode cX0_init 77 = .ok (.idiv, 1) := by decide +kernel
theorem dX0_init_78 : decode cX0_init 78 = .ok (.putfield 53, 3) := by decide +kernel
theorem dX0_init_81 : decode cX0_init 81 = .ok (.return_, 1) := by decide +kernel
theorem dX0_grade_0 : decode cX0_grade 0 = .ok (.aload_n 0, 1) := by decide +kernel
theorem dX0_grade_1 : decode cX0_grade 1 = .ok (.getfield 12, 3) := by decide +kernel
theorem dX0_grade_4 : decode cX0_grade 4 = .ok (.getfield 54, 3) := by decide +kernel
theorem dX0_grade_7 : decode cX0_grade 7 = .ok (.iconst 2, 1) := by decide +kernel
theorem dX0_grade_8 : decode cX0_grade 8 = .ok (.if_icmp .lt 28, 3) := by decide +kernel
theorem dX0_grade_11 : decode cX0_grade 11 = .ok (.aload_n 0, 1) := by decide +kernel
theorem dX0_grade_12 : decode cX0_grade 12 = .ok (.getfield 12, 3) := by decide +kernel
theorem dX0_grade_15 : decode cX0_grade 15 = .ok (.getfield 57, 3) := by decide +kernel
theorem dX0_grade_18 : decode cX0_grade 18 = .ok (.aload_n 0, 1) := by decide +kernel
theorem dX0_grade_19 : decode cX0_grade 19 = .ok (.getfield 12, 3) := by decide +kernel
theorem dX0_grade_22 : decode cX0_grade 22 = .ok (.getfield 60, 3) := by decide +kernel
theorem dX0_grade_25 : decode cX0_grade 25 = .ok (.if_icmp .ne 11, 3) := by decide +kernel
theorem dX0_grade_28 : decode cX0_grade 28 = .ok (.aload_n 0, 1) := by decide +kernel
theorem dX0_grade_29 : decode cX0_grade 29 = .ok (.getfield 12, 3) := by decide +kernel
theorem dX0_grade_32 : decode cX0_grade 32 = .ok (.getfield 57, 3) := by decide +kernel
theorem dX0_grade_35 : decode cX0_grade 35 = .ok (.ireturn, 1) := by decide +kernel
theorem dX0_grade_36 : decode cX0_grade 36 = .ok (.aload_n 0, 1) := by decide +kernel
theorem dX0_grade_37 : decode cX0_grade 37 = .ok (.getfield 12, 3) := by decide +kernel
theorem dX0_grade_40 : decode cX0_grade 40 = .ok (.invokevirtual 63, 3) := by decide +kernel
theorem dX0_grade_43 : decode cX0_grade 43 = .ok (.ifCond .eq 13, 3) := by decide +kernel
theorem dX0_grade_46 : decode cX0_grade 46 = .ok (.aload_n 0, 1) := by decide +kernel
theorem dX0_grade_47 : decode cX0_grade 47 = .ok (.getfield 12, 3) := by decide +kernel
theorem dX0_grade_50 : decode cX0_grade 50 = .ok (.invokevirtual 67, 3) := by decide +kernel
theorem dX0_grade_53 : decode cX0_grade 53 = .ok (.goto 4, 3) := by decide +kernel
theorem dX0_grade_56 : decode cX0_grade 56 = .ok (.iconst (-1), 1) := by decide +kernel
theorem dX0_grade_57 : decode cX0_grade 57 = .ok (.ireturn, 1) := by decide +kernel
theorem dX0_gradedPrice_0 : decode cX0_gradedPrice 0 = .ok (.aload_n 0, 1) := by decide +kernel
theorem dX0_gradedPrice_1 : decode cX0_gradedPrice 1 = .ok (.invokevirtual 71, 3) := by decide +kernel
theorem dX0_gradedPrice_4 : decode cX0_gradedPrice 4 = .ok (.istore_n 1, 1) := by decide +kernel
theorem dX0_gradedPrice_5 : decode cX0_gradedPrice 5 = .ok (.iload_n 1, 1) := by decide +kernel
theorem dX0_gradedPrice_6 : decode cX0_gradedPrice 6 = .ok (.iconst (-1), 1) := by decide +kernel
theorem dX0_gradedPrice_7 : decode cX0_gradedPrice 7 = .ok (.if_icmp .ne 5, 3) := by decide +kernel
theorem dX0_gradedPrice_10 : decode cX0_gradedPrice 10 = .ok (.iconst (-1), 1) := by decide +kernel
theorem dX0_gradedPrice_11 : decode cX0_gradedPrice 11 = .ok (.ireturn, 1) := by decide +kernel
theorem dX0_gradedPrice_12 : decode cX0_gradedPrice 12 = .ok (.aload_n 0, 1) := by decide +kernel
theorem dX0_gradedPrice_13 : decode cX0_gradedPrice 13 = .ok (.getfield 53, 3) := by decide +kernel
theorem dX0_gradedPrice_16 : decode cX0_gradedPrice 16 = .ok (.bipush 20, 2) := by decide +kernel
theorem dX0_gradedPrice_18 : decode cX0_gradedPrice 18 = .ok (.iload_n 1, 1) := by decide +kernel
theorem dX0_gradedPrice_19 : decode cX0_gradedPrice 19 = .ok (.isub, 1) := by decide +kernel
theorem dX0_gradedPrice_20 : decode cX0_gradedPrice 20 = .ok (.imul, 1) := by decide +kernel
theorem dX0_gradedPrice_21 : decode cX0_gradedPrice 21 = .ok (.istore_n 2, 1) := by decide +kernel
theorem dX0_gradedPrice_22 : decode cX0_gradedPrice 22 = .ok (.aload_n 0, 1) := by decide +kernel
theorem dX0_gradedPrice_23 : decode cX0_gradedPrice 23 = .ok (.getfield 53, 3) := by decide +kernel
theorem dX0_gradedPrice_26 : decode cX0_gradedPrice 26 = .ok (.bipush 100, 2) := by decide +kernel
theorem dX0_gradedPrice_28 : decode cX0_gradedPrice 28 = .ok (.if_icmp .lt 9, 3) := by decide +kernel
theorem dX0_gradedPrice_31 : decode cX0_gradedPrice 31 = .ok (.iconst 2, 1) := by decide +kernel
theorem dX0_gradedPrice_32 : decode cX0_gradedPrice 32 = .ok (.iload_n 2, 1) := by decide +kernel
theorem dX0_gradedPrice_33 : decode cX0_gradedPrice 33 = .ok (.imul, 1) := by decide +kernel
theorem dX0_gradedPrice_34 : decode cX0_gradedPrice 34 = .ok (.goto 4, 3) := by decide +kernel
theorem dX0_gradedPrice_37 : decode cX0_gradedPrice 37 = .ok (.iload_n 2, 1) := by decide +kernel
theorem dX0_gradedPrice_38 : decode cX0_gradedPrice 38 = .ok (.ireturn, 1) := by decide +kernel
theorem dX1_init_0 : decode cX1_init 0 = .ok (.aload_n 0, 1) := by decide +kernel
theorem dX1_init_1 : decode cX1_init 1 = .ok (.invokespecial 1, 3) := by decide +kernel
theorem dX1_init_4 : decode cX1_init 4 = .ok (.return_, 1) := by decide +kernel
theorem dX1_isBy_0 : decode cX1_isBy 0 = .ok (.aload_n 0, 1) := by decide +kernel
theorem dX1_isBy_1 : decode cX1_isBy 1 = .ok (.getfield 7, 3) := by decide +kernel
theorem dX1_isBy_4 : decode cX1_isBy 4 = .ok (.iload_n 1, 1) := by decide +kernel
theorem dX1_isBy_5 : decode cX1_isBy 5 = .ok (.ishr, 1) := by decide +kernel
theorem dX1_isBy_6 : decode cX1_isBy 6 = .ok (.iconst 1, 1) := by decide +kernel
theorem dX1_isBy_7 : decode cX1_isBy 7 = .ok (.iand, 1) := by decide +kernel
theorem dX1_isBy_8 : decode cX1_isBy 8 = .ok (.ifCond .eq 7, 3) := by decide +kernel
theorem dX1_isBy_11 : decode cX1_isBy 11 = .ok (.iconst 1, 1) := by decide +kernel
theorem dX1_isBy_12 : decode cX1_isBy 12 = .ok (.goto 4, 3) := by decide +kernel
theorem dX1_isBy_15 : decode cX1_isBy 15 = .ok (.iconst 0, 1) := by decide +kernel
theorem dX1_isBy_16 : decode cX1_isBy 16 = .ok (.ireturn, 1) := by decide +kernel
theorem dX1_isFull_0 : decode cX1_isFull 0 = .ok (.aload_n 0, 1) := by decide +kernel
theorem dX1_isFull_1 : decode cX1_isFull 1 = .ok (.getfield 13, 3) := by decide +kernel
theorem dX1_isFull_4 : decode cX1_isFull 4 = .ok (.iconst 3, 1) := by decide +kernel
theorem dX1_isFull_5 : decode cX1_isFull 5 = .ok (.if_icmp .lt 7, 3) := by decide +kernel
theorem dX1_isFull_8 : decode cX1_isFull 8 = .ok (.iconst 1, 1) := by decide +kernel
theorem dX1_isFull_9 : decode cX1_isFull 9 = .ok (.goto 4, 3) := by decide +kernel
theorem dX1_isFull_12 : decode cX1_isFull 12 = .ok (.iconst 0, 1) := by decide +kernel
theorem dX1_isFull_13 : decode cX1_isFull 13 = .ok (.ireturn, 1) := by decide +kernel
theorem dX1_add_0 : decode cX1_add 0 = .ok (.aload_n 0, 1) := by decide +kernel
theorem dX1_add_1 : decode cX1_add 1 = .ok (.dup, 1) := by decide +kernel
theorem dX1_add_2 : decode cX1_add 2 = .ok (.getfield 7, 3) := by decide +kernel
theorem dX1_add_5 : decode cX1_add 5 = .ok (.iconst 1, 1) := by decide +kernel
theorem dX1_add_6 : decode cX1_add 6 = .ok (.iload_n 1, 1) := by decide +kernel
theorem dX1_add_7 : decode cX1_add 7 = .ok (.ishl, 1) := by decide +kernel
theorem dX1_add_8 : decode cX1_add 8 = .ok (.ior, 1) := by decide +kernel
theorem dX1_add_9 : decode cX1_add 9 = .ok (.putfield 7, 3) := by decide +kernel
theorem dX1_add_12 : decode cX1_add 12 = .ok (.aload_n 0, 1) := by decide +kernel
theorem dX1_add_13 : decode cX1_add 13 = .ok (.getfield 13, 3) := by decide +kernel
theorem dX1_add_16 : decode cX1_add 16 = .ok (.ifCond .ne 11, 3) := by decide +kernel
theorem dX1_add_19 : decode cX1_add 19 = .ok (.aload_n 0, 1) := by decide +kernel
theorem dX1_add_20 : decode cX1_add 20 = .ok (.iload_n 2, 1) := by decide +kernel
theorem dX1_add_21 : decode cX1_add 21 = .ok (.putfield 16, 3) := by decide +kernel
theorem dX1_add_24 : decode cX1_add 24 = .ok (.goto 24, 3) := by decide +kernel
theorem dX1_add_27 : decode cX1_add 27 = .ok (.aload_n 0, 1) := by decide +kernel
theorem dX1_add_28 : decode cX1_add 28 = .ok (.getfield 13, 3) := by decide +kernel
theorem dX1_add_31 : decode cX1_add 31 = .ok (.iconst 1, 1) := by decide +kernel
theorem dX1_add_32 : decode cX1_add 32 = .ok (.if_icmp .ne 11, 3) := by decide +kernel
theorem dX1_add_35 : decode cX1_add 35 = .ok (.aload_n 0, 1) := by decide +kernel
theorem dX1_add_36 : decode cX1_add 36 = .ok (.iload_n 2, 1) := by decide +kernel
theorem dX1_add_37 : decode cX1_add 37 = .ok (.putfield 19, 3) := by decide +kernel
theorem dX1_add_40 : decode cX1_add 40 = .ok (.goto 8, 3) := by decide +kernel
theorem dX1_add_43 : decode cX1_add 43 = .ok (.aload_n 0, 1) := by decide +kernel
theorem dX1_add_44 : decode cX1_add 44 = .ok (.iload_n 2, 1) := by decide +kernel
theorem dX1_add_45 : decode cX1_add 45 = .ok (.putfield 22, 3) := by decide +kernel
theorem dX1_add_48 : decode cX1_add 48 = .ok (.aload_n 0, 1) := by decide +kernel
theorem dX1_add_49 : decode cX1_add 49 = .ok (.dup, 1) := by decide +kernel
theorem dX1_add_50 : decode cX1_add 50 = .ok (.getfield 13, 3) := by decide +kernel
theorem dX1_add_53 : decode cX1_add 53 = .ok (.iconst 1, 1) := by decide +kernel
theorem dX1_add_54 : decode cX1_add 54 = .ok (.iadd, 1) := by decide +kernel
theorem dX1_add_55 : decode cX1_add 55 = .ok (.putfield 13, 3) := by decide +kernel
theorem dX1_add_58 : decode cX1_add 58 = .ok (.return_, 1) := by decide +kernel
theorem dX1_middle_0 : decode cX1_middle 0 = .ok (.aload_n 0, 1) := by decide +kernel
theorem dX1_middle_1 : decode cX1_middle 1 = .ok (.getfield 16, 3) := by decide +kernel
theorem dX1_middle_4 : decode cX1_middle 4 = .ok (.aload_n 0, 1) := by decide +kernel
theorem dX1_middle_5 : decode cX1_middle 5 = .ok (.getfield 19, 3) := by decide +kernel
theorem dX1_middle_8 : decode cX1_middle 8 = .ok (.invokestatic 25, 3) := by decide +kernel
theorem dX1_middle_11 : decode cX1_middle 11 = .ok (.istore_n 1, 1) := by decide +kernel
theorem dX1_middle_12 : decode cX1_middle 12 = .ok (.aload_n 0, 1) := by decide +kernel
theorem dX1_middle_13 : decode cX1_middle 13 = .ok (.getfield 16, 3) := by decide +kernel
theorem dX1_middle_16 : decode cX1_middle 16 = .ok (.aload_n 0, 1) := by decide +kernel
theorem dX1_middle_17 : decode cX1_middle 17 = .ok (.getfield 19, 3) := by decide +kernel
theorem dX1_middle_20 : decode cX1_middle 20 = .ok (.invokestatic 31, 3) := by decide +kernel
theorem dX1_middle_23 : decode cX1_middle 23 = .ok (.istore_n 2, 1) := by decide +kernel
theorem dX1_middle_24 : decode cX1_middle 24 = .ok (.iload_n 1, 1) := by decide +kernel
theorem dX1_middle_25 : decode cX1_middle 25 = .ok (.iload_n 2, 1) := by decide +kernel
theorem dX1_middle_26 : decode cX1_middle 26 = .ok (.aload_n 0, 1) := by decide +kernel
theorem dX1_middle_27 : decode cX1_middle 27 = .ok (.getfield 22, 3) := by decide +kernel
theorem dX1_middle_30 : decode cX1_middle 30 = .ok (.invokestatic 25, 3) := by decide +kernel
theorem dX1_middle_33 : decode cX1_middle 33 = .ok (.invokestatic 31, 3) := by decide +kernel
theorem dX1_middle_36 : decode cX1_middle 36 = .ok (.ireturn, 1) := by decide +kernel
theorem dX2_init_0 : decode cX2_init 0 = .ok (.aload_n 0, 1) := by decide +kernel
theorem dX2_init_1 : decode cX2_init 1 = .ok (.invokespecial 3, 3) := by decide +kernel
theorem dX2_init_4 : decode cX2_init 4 = .ok (.aload_n 0, 1) := by decide +kernel
theorem dX2_init_5 : decode cX2_init 5 = .ok (.bipush 76, 2) := by decide +kernel
theorem dX2_init_7 : decode cX2_init 7 = .ok (.newarray .int, 2) := by decide +kernel
theorem dX2_init_9 : decode cX2_init 9 = .ok (.putfield 9, 3) := by decide +kernel
theorem dX2_init_12 : decode cX2_init 12 = .ok (.iconst 0, 1) := by decide +kernel
theorem dX2_init_13 : decode cX2_init 13 = .ok (.istore_n 1, 1) := by decide +kernel
theorem dX2_init_14 : decode cX2_init 14 = .ok (.iload_n 1, 1) := by decide +kernel
theorem dX2_init_15 : decode cX2_init 15 = .ok (.aload_n 0, 1) := by decide +kernel
theorem dX2_init_16 : decode cX2_init 16 = .ok (.getfield 9, 3) := by decide +kernel
theorem dX2_init_19 : decode cX2_init 19 = .ok (.arraylength, 1) := by decide +kernel
theorem dX2_init_20 : decode cX2_init 20 = .ok (.if_icmp .ge 32, 3) := by decide +kernel
theorem dX2_init_23 : decode cX2_init 23 = .ok (.aload_n 0, 1) := by decide +kernel
theorem dX2_init_24 : decode cX2_init 24 = .ok (.getfield 9, 3) := by decide +kernel
theorem dX2_init_27 : decode cX2_init 27 = .ok (.iload_n 1, 1) := by decide +kernel
theorem dX2_init_28 : decode cX2_init 28 = .ok (.bipush 100, 2) := by decide +kernel
theorem dX2_init_30 : decode cX2_init 30 = .ok (.iload_n 1, 1) := by decide +kernel
theorem dX2_init_31 : decode cX2_init 31 = .ok (.bipush 19, 2) := by decide +kernel
theorem dX2_init_33 : decode cX2_init 33 = .ok (.idiv, 1) := by decide +kernel
theorem dX2_init_34 : decode cX2_init 34 = .ok (.iconst 1, 1) := by decide +kernel
theorem dX2_init_35 : decode cX2_init 35 = .ok (.iadd, 1) := by decide +kernel
theorem dX2_init_36 : decode cX2_init 36 = .ok (.imul, 1) := by decide +kernel
theorem dX2_init_37 : decode cX2_init 37 = .ok (.bipush 20, 2) := by decide +kernel
theorem dX2_init_39 : decode cX2_init 39 = .ok (.iload_n 1, 1) := by decide +kernel
theorem dX2_init_40 : decode cX2_init 40 = .ok (.bipush 19, 2) := by decide +kernel
theorem dX2_init_42 : decode cX2_init 42 = .ok (.irem, 1) := by decide +kernel
theorem dX2_init_43 : decode cX2_init 43 = .ok (.isub, 1) := by decide +kernel
theorem dX2_init_44 : decode cX2_init 44 = .ok (.imul, 1) := by decide +kernel
theorem dX2_init_45 : decode cX2_init 45 = .ok (.iastore, 1) := by decide +kernel
theorem dX2_init_46 : decode cX2_init 46 = .ok (.iinc 1 1, 3) := by decide +kernel
theorem dX2_init_49 : decode cX2_init 49 = .ok (.goto (-35), 3) := by decide +kernel
theorem dX2_init_52 : decode cX2_init 52 = .ok (.return_, 1) := by decide +kernel
theorem dX2_caratPrice_0 : decode cX2_caratPrice 0 = .ok (.iload_n 1, 1) := by decide +kernel
theorem dX2_caratPrice_1 : decode cX2_caratPrice 1 = .ok (.bipush 19, 2) := by decide +kernel
theorem dX2_caratPrice_3 : decode cX2_caratPrice 3 = .ok (.imul, 1) := by decide +kernel
theorem dX2_caratPrice_4 : decode cX2_caratPrice 4 = .ok (.iload_n 2, 1) := by decide +kernel
theorem dX2_caratPrice_5 : decode cX2_caratPrice 5 = .ok (.iadd, 1) := by decide +kernel
theorem dX2_caratPrice_6 : decode cX2_caratPrice 6 = .ok (.istore_n 3, 1) := by decide +kernel
theorem dX2_caratPrice_7 : decode cX2_caratPrice 7 = .ok (.iload_n 3, 1) := by decide +kernel
theorem dX2_caratPrice_8 : decode cX2_caratPrice 8 = .ok (.aload_n 0, 1) := by decide +kernel
theorem dX2_caratPrice_9 : decode cX2_caratPrice 9 = .ok (.getfield 9, 3) := by decide +kernel
theorem dX2_caratPrice_12 : decode cX2_caratPrice 12 = .ok (.arraylength, 1) := by decide +kernel
theorem dX2_caratPrice_13 : decode cX2_caratPrice 13 = .ok (.invokestatic 15, 3) := by decide +kernel
theorem dX2_caratPrice_16 : decode cX2_caratPrice 16 = .ok (.ifCond .eq 12, 3) := by decide +kernel
theorem dX2_caratPrice_19 : decode cX2_caratPrice 19 = .ok (.aload_n 0, 1) := by decide +kernel
theorem dX2_caratPrice_20 : decode cX2_caratPrice 20 = .ok (.getfield 9, 3) := by decide +kernel
theorem dX2_caratPrice_23 : decode cX2_caratPrice 23 = .ok (.iload_n 3, 1) := by decide +kernel
theorem dX2_caratPrice_24 : decode cX2_caratPrice 24 = .ok (.iaload, 1) := by decide +kernel
theorem dX2_caratPrice_25 : decode cX2_caratPrice 25 = .ok (.goto 4, 3) := by decide +kernel
theorem dX2_caratPrice_28 : decode cX2_caratPrice 28 = .ok (.iconst 0, 1) := by decide +kernel
theorem dX2_caratPrice_29 : decode cX2_caratPrice 29 = .ok (.ireturn, 1) := by decide +kernel
theorem dX2_setCaratPrice_0 : decode cX2_setCaratPrice 0 = .ok (.iload_n 1, 1) := by decide +kernel
theorem dX2_setCaratPrice_1 : decode cX2_setCaratPrice 1 = .ok (.bipush 19, 2) := by decide +kernel
theorem dX2_setCaratPrice_3 : decode cX2_setCaratPrice 3 = .ok (.imul, 1) := by decide +kernel
theorem dX2_setCaratPrice_4 : decode cX2_setCaratPrice 4 = .ok (.iload_n 2, 1) := by decide +kernel
theorem dX2_setCaratPrice_5 : decode cX2_setCaratPrice 5 = .ok (.iadd, 1) := by decide +kernel
theorem dX2_setCaratPrice_6 : decode cX2_setCaratPrice 6 = .ok (.istore 4, 2) := by decide +kernel
theorem dX2_setCaratPrice_8 : decode cX2_setCaratPrice 8 = .ok (.iload 4, 2) := by decide +kernel
theorem dX2_setCaratPrice_10 : decode cX2_setCaratPrice 10 = .ok (.aload_n 0, 1) := by decide +kernel
theorem dX2_setCaratPrice_11 : decode cX2_setCaratPrice 11 = .ok (.getfield 9, 3) := by decide +kernel
theorem dX2_setCaratPrice_14 : decode cX2_setCaratPrice 14 = .ok (.arraylength, 1) := by decide +kernel
theorem dX2_setCaratPrice_15 : decode cX2_setCaratPrice 15 = .ok (.invokestatic 15, 3) := by decide +kernel
theorem dX2_setCaratPrice_18 : decode cX2_setCaratPrice 18 = .ok (.ifCond .eq 11, 3) := by decide +kernel
theorem dX2_setCaratPrice_21 : decode cX2_setCaratPrice 21 = .ok (.aload_n 0, 1) := by decide +kernel
theorem dX2_setCaratPrice_22 : decode cX2_setCaratPrice 22 = .ok (.getfield 9, 3) := by decide +kernel
theorem dX2_setCaratPrice_25 : decode cX2_setCaratPrice 25 = .ok (.iload 4, 2) := by decide +kernel
theorem dX2_setCaratPrice_27 : decode cX2_setCaratPrice 27 = .ok (.iload_n 3, 1) := by decide +kernel
theorem dX2_setCaratPrice_28 : decode cX2_setCaratPrice 28 = .ok (.iastore, 1) := by decide +kernel
theorem dX2_setCaratPrice_29 : decode cX2_setCaratPrice 29 = .ok (.return_, 1) := by decide +kernel
theorem dX2_worthOf_0 : decode cX2_worthOf 0 = .ok (.aload_n 1, 1) := by decide +kernel
theorem dX2_worthOf_1 : decode cX2_worthOf 1 = .ok (.invokevirtual 19, 3) := by decide +kernel
theorem dX2_worthOf_4 : decode cX2_worthOf 4 = .ok (.istore_n 2, 1) := by decide +kernel
theorem dX2_worthOf_5 : decode cX2_worthOf 5 = .ok (.iload_n 2, 1) := by decide +kernel
theorem dX2_worthOf_6 : decode cX2_worthOf 6 = .ok (.iconst (-1), 1) := by decide +kernel
theorem dX2_worthOf_7 : decode cX2_worthOf 7 = .ok (.if_icmp .ne 5, 3) := by decide +kernel
theorem dX2_worthOf_10 : decode cX2_worthOf 10 = .ok (.iconst (-1), 1) := by decide +kernel
theorem dX2_worthOf_11 : decode cX2_worthOf 11 = .ok (.ireturn, 1) := by decide +kernel
theorem dX2_worthOf_12 : decode cX2_worthOf 12 = .ok (.aload_n 1, 1) := by decide +kernel
theorem dX2_worthOf_13 : decode cX2_worthOf 13 = .ok (.getfield 25, 3) := by decide +kernel
theorem dX2_worthOf_16 : decode cX2_worthOf 16 = .ok (.aload_n 0, 1) := by decide +kernel
theorem dX2_worthOf_17 : decode cX2_worthOf 17 = .ok (.aload_n 1, 1) := by decide +kernel
theorem dX2_worthOf_18 : decode cX2_worthOf 18 = .ok (.invokevirtual 29, 3) := by decide +kernel
theorem dX2_worthOf_21 : decode cX2_worthOf 21 = .ok (.iload_n 2, 1) := by decide +kernel
theorem dX2_worthOf_22 : decode cX2_worthOf 22 = .ok (.invokevirtual 32, 3) := by decide +kernel
theorem dX2_worthOf_25 : decode cX2_worthOf 25 = .ok (.imul, 1) := by decide +kernel
theorem dX2_worthOf_26 : decode cX2_worthOf 26 = .ok (.bipush 100, 2) := by decide +kernel
theorem dX2_worthOf_28 : decode cX2_worthOf 28 = .ok (.idiv, 1) := by decide +kernel
theorem dX2_worthOf_29 : decode cX2_worthOf 29 = .ok (.ireturn, 1) := by decide +kernel
theorem dX3_init_0 : decode cX3_init 0 = .ok (.aload_n 0, 1) := by decide +kernel
theorem dX3_init_1 : decode cX3_init 1 = .ok (.invokespecial 3, 3) := by decide +kernel
theorem dX3_init_4 : decode cX3_init 4 = .ok (.aload_n 0, 1) := by decide +kernel
theorem dX3_init_5 : decode cX3_init 5 = .ok (.new 9, 3) := by decide +kernel
theorem dX3_init_8 : decode cX3_init 8 = .ok (.dup, 1) := by decide +kernel
theorem dX3_init_9 : decode cX3_init 9 = .ok (.invokespecial 11, 3) := by decide +kernel
theorem dX3_init_12 : decode cX3_init 12 = .ok (.putfield 12, 3) := by decide +kernel
theorem dX3_init_15 : decode cX3_init 15 = .ok (.aload_n 0, 1) := by decide +kernel
theorem dX3_init_16 : decode cX3_init 16 = .ok (.iconst 0, 1) := by decide +kernel
theorem dX3_init_17 : decode cX3_init 17 = .ok (.putfield 18, 3) := by decide +kernel
theorem dX3_init_20 : decode cX3_init 20 = .ok (.aload_n 0, 1) := by decide +kernel
theorem dX3_init_21 : decode cX3_init 21 = .ok (.iconst (-1), 1) := by decide +kernel
theorem dX3_init_22 : decode cX3_init 22 = .ok (.putfield 22, 3) := by decide +kernel
theorem dX3_init_25 : decode cX3_init 25 = .ok (.aload_n 0, 1) := by decide +kernel
theorem dX3_init_26 : decode cX3_init 26 = .ok (.iconst (-1), 1) := by decide +kernel
theorem dX3_init_27 : decode cX3_init 27 = .ok (.putfield 25, 3) := by decide +kernel
theorem dX3_init_30 : decode cX3_init 30 = .ok (.aload_n 0, 1) := by decide +kernel
theorem dX3_init_31 : decode cX3_init 31 = .ok (.iload_n 1, 1) := by decide +kernel
theorem dX3_init_32 : decode cX3_init 32 = .ok (.putfield 28, 3) := by decide +kernel
theorem dX3_init_35 : decode cX3_init 35 = .ok (.aload_n 0, 1) := by decide +kernel
theorem dX3_init_36 : decode cX3_init 36 = .ok (.iload_n 2, 1) := by decide +kernel
theorem dX3_init_37 : decode cX3_init 37 = .ok (.putfield 31, 3) := by decide +kernel
theorem dX3_init_40 : decode cX3_init 40 = .ok (.aload_n 0, 1) := by decide +kernel
theorem dX3_init_41 : decode cX3_init 41 = .ok (.iload_n 3, 1) := by decide +kernel
theorem dX3_init_42 : decode cX3_init 42 = .ok (.putfield 34, 3) := by decide +kernel
theorem dX3_init_45 : decode cX3_init 45 = .ok (.aload_n 0, 1) := by decide +kernel
theorem dX3_init_46 : decode cX3_init 46 = .ok (.iload 4, 2) := by decide +kernel
theorem dX3_init_48 : decode cX3_init 48 = .ok (.putfield 37, 3) := by decide +kernel
theorem dX3_init_51 : decode cX3_init 51 = .ok (.aload_n 0, 1) := by decide +kernel
theorem dX3_init_52 : decode cX3_init 52 = .ok (.iload 5, 2) := by decide +kernel
theorem dX3_init_54 : decode cX3_init 54 = .ok (.putfield 40, 3) := by decide +kernel
theorem dX3_init_57 : decode cX3_init 57 = .ok (.aload_n 0, 1) := by decide +kernel
theorem dX3_init_58 : decode cX3_init 58 = .ok (.iload 6, 2) := by decide +kernel
theorem dX3_init_60 : decode cX3_init 60 = .ok (.putfield 43, 3) := by decide +kernel
theorem dX3_init_63 : decode cX3_init 63 = .ok (.aload_n 0, 1) := by decide +kernel
theorem dX3_init_64 : decode cX3_init 64 = .ok (.iload 7, 2) := by decide +kernel
theorem dX3_init_66 : decode cX3_init 66 = .ok (.putfield 46, 3) := by decide +kernel
theorem dX3_init_69 : decode cX3_init 69 = .ok (.return_, 1) := by decide +kernel
theorem dX3_size_0 : decode cX3_size 0 = .ok (.aload_n 0, 1) := by decide +kernel
theorem dX3_size_1 : decode cX3_size 1 = .ok (.getfield 37, 3) := by decide +kernel
theorem dX3_size_4 : decode cX3_size 4 = .ok (.bipush 100, 2) := by decide +kernel
theorem dX3_size_6 : decode cX3_size 6 = .ok (.if_icmp .ge 5, 3) := by decide +kernel
theorem dX3_size_9 : decode cX3_size 9 = .ok (.iconst 0, 1) := by decide +kernel
theorem dX3_size_10 : decode cX3_size 10 = .ok (.ireturn, 1) := by decide +kernel
theorem dX3_size_11 : decode cX3_size 11 = .ok (.aload_n 0, 1) := by decide +kernel
theorem dX3_size_12 : decode cX3_size 12 = .ok (.getfield 37, 3) := by decide +kernel
theorem dX3_size_15 : decode cX3_size 15 = .ok (.sipush 300, 3) := by decide +kernel
theorem dX3_size_18 : decode cX3_size 18 = .ok (.if_icmp .ge 5, 3) := by decide +kernel
theorem dX3_size_21 : decode cX3_size 21 = .ok (.iconst 1, 1) := by decide +kernel
theorem dX3_size_22 : decode cX3_size 22 = .ok (.ireturn, 1) := by decide +kernel
theorem dX3_size_23 : decode cX3_size 23 = .ok (.aload_n 0, 1) := by decide +kernel
theorem dX3_size_24 : decode cX3_size 24 = .ok (.getfield 37, 3) := by decide +kernel
theorem dX3_size_27 : decode cX3_size 27 = .ok (.sipush 1000, 3) := by decide +kernel
theorem dX3_size_30 : decode cX3_size 30 = .ok (.if_icmp .ge 7, 3) := by decide +kernel
theorem dX3_size_33 : decode cX3_size 33 = .ok (.iconst 2, 1) := by decide +kernel
theorem dX3_size_34 : decode cX3_size 34 = .ok (.goto 4, 3) := by decide +kernel
theorem dX3_size_37 : decode cX3_size 37 = .ok (.iconst 3, 1) := by decide +kernel
theorem dX3_size_38 : decode cX3_size 38 = .ok (.ireturn, 1) := by decide +kernel
theorem dX3_quality_0 : decode cX3_quality 0 = .ok (.aload_n 0, 1) := by decide +kernel
theorem dX3_quality_1 : decode cX3_quality 1 = .ok (.getfield 12, 3) := by decide +kernel
theorem dX3_quality_4 : decode cX3_quality 4 = .ok (.getfield 49, 3) := by decide +kernel
theorem dX3_quality_7 : decode cX3_quality 7 = .ok (.tableswitch 53 0 2 #[25, 27, 35], 25) := by decide +kernel
theorem dX3_quality_32 : decode cX3_quality 32 = .ok (.iconst (-1), 1) := by decide +kernel
theorem dX3_quality_33 : decode cX3_quality 33 = .ok (.ireturn, 1) := by decide +kernel
theorem dX3_quality_34 : decode cX3_quality 34 = .ok (.aload_n 0, 1) := by decide +kernel
theorem dX3_quality_35 : decode cX3_quality 35 = .ok (.getfield 12, 3) := by decide +kernel
theorem dX3_quality_38 : decode cX3_quality 38 = .ok (.getfield 52, 3) := by decide +kernel
theorem dX3_quality_41 : decode cX3_quality 41 = .ok (.ireturn, 1) := by decide +kernel
theorem dX3_quality_42 : decode cX3_quality 42 = .ok (.aload_n 0, 1) := by decide +kernel
theorem dX3_quality_43 : decode cX3_quality 43 = .ok (.getfield 12, 3) := by decide +kernel
theorem dX3_quality_46 : decode cX3_quality 46 = .ok (.getfield 52, 3) := by decide +kernel
theorem dX3_quality_49 : decode cX3_quality 49 = .ok (.aload_n 0, 1) := by decide +kernel
theorem dX3_quality_50 : decode cX3_quality 50 = .ok (.getfield 12, 3) := by decide +kernel
theorem dX3_quality_53 : decode cX3_quality 53 = .ok (.getfield 55, 3) := by decide +kernel
theorem dX3_quality_56 : decode cX3_quality 56 = .ok (.invokestatic 58, 3) := by decide +kernel
theorem dX3_quality_59 : decode cX3_quality 59 = .ok (.ireturn, 1) := by decide +kernel
theorem dX3_quality_60 : decode cX3_quality 60 = .ok (.aload_n 0, 1) := by decide +kernel
theorem dX3_quality_61 : decode cX3_quality 61 = .ok (.getfield 12, 3) := by decide +kernel
theorem dX3_quality_64 : decode cX3_quality 64 = .ok (.invokevirtual 64, 3) := by decide +kernel
theorem dX3_quality_67 : decode cX3_quality 67 = .ok (.ireturn, 1) := by decide +kernel
theorem dX3_isDoubtful_0 : decode cX3_isDoubtful 0 = .ok (.aload_n 0, 1) := by decide +kernel
theorem dX3_isDoubtful_1 : decode cX3_isDoubtful 1 = .ok (.getfield 12, 3) := by decide +kernel
theorem dX3_isDoubtful_4 : decode cX3_isDoubtful 4 = .ok (.getfield 49, 3) := by decide +kernel
theorem dX3_isDoubtful_7 : decode cX3_isDoubtful 7 = .ok (.iconst 2, 1) := by decide +kernel
theorem dX3_isDoubtful_8 : decode cX3_isDoubtful 8 = .ok (.if_icmp .ne 29, 3) := by decide +kernel
theorem dX3_isDoubtful_11 : decode cX3_isDoubtful 11 = .ok (.aload_n 0, 1) := by decide +kernel
theorem dX3_isDoubtful_12 : decode cX3_isDoubtful 12 = .ok (.getfield 12, 3) := by decide +kernel
theorem dX3_isDoubtful_15 : decode cX3_isDoubtful 15 = .ok (.getfield 52, 3) := by decide +kernel
theorem dX3_isDoubtful_18 : decode cX3_isDoubtful 18 = .ok (.aload_n 0, 1) := by decide +kernel
theorem dX3_isDoubtful_19 : decode cX3_isDoubtful 19 = .ok (.getfield 12, 3) := by decide +kernel
theorem dX3_isDoubtful_22 : decode cX3_isDoubtful 22 = .ok (.getfield 55, 3) := by decide +kernel
theorem dX3_isDoubtful_25 : decode cX3_isDoubtful 25 = .ok (.isub, 1) := by decide +kernel
theorem dX3_isDoubtful_26 : decode cX3_isDoubtful 26 = .ok (.invokestatic 68, 3) := by decide +kernel
theorem dX3_isDoubtful_29 : decode cX3_isDoubtful 29 = .ok (.iconst 2, 1) := by decide +kernel
theorem dX3_isDoubtful_30 : decode cX3_isDoubtful 30 = .ok (.if_icmp .lt 7, 3) := by decide +kernel
theorem dX3_isDoubtful_33 : decode cX3_isDoubtful 33 = .ok (.iconst 1, 1) := by decide +kernel
theorem dX3_isDoubtful_34 : decode cX3_isDoubtful 34 = .ok (.goto 4, 3) := by decide +kernel
theorem dX3_isDoubtful_37 : decode cX3_isDoubtful 37 = .ok (.iconst 0, 1) := by decide +kernel
theorem dX3_isDoubtful_38 : decode cX3_isDoubtful 38 = .ok (.ireturn, 1) := by decide +kernel
theorem dX3_canBeBoxed_0 : decode cX3_canBeBoxed 0 = .ok (.aload_n 0, 1) := by decide +kernel
theorem dX3_canBeBoxed_1 : decode cX3_canBeBoxed 1 = .ok (.getfield 18, 3) := by decide +kernel
theorem dX3_canBeBoxed_4 : decode cX3_canBeBoxed 4 = .ok (.ifCond .ne 24, 3) := by decide +kernel
theorem dX3_canBeBoxed_7 : decode cX3_canBeBoxed 7 = .ok (.aload_n 0, 1) := by decide +kernel
theorem dX3_canBeBoxed_8 : decode cX3_canBeBoxed 8 = .ok (.getfield 12, 3) := by decide +kernel
theorem dX3_canBeBoxed_11 : decode cX3_canBeBoxed 11 = .ok (.getfield 49, 3) := by decide +kernel
theorem dX3_canBeBoxed_14 : decode cX3_canBeBoxed 14 = .ok (.ifCond .le 14, 3) := by decide +kernel
theorem dX3_canBeBoxed_17 : decode cX3_canBeBoxed 17 = .ok (.aload_n 0, 1) := by decide +kernel
theorem dX3_canBeBoxed_18 : decode cX3_canBeBoxed 18 = .ok (.invokevirtual 72, 3) := by decide +kernel
theorem dX3_canBeBoxed_21 : decode cX3_canBeBoxed 21 = .ok (.ifCond .ne 7, 3) := by decide +kernel
theorem dX3_canBeBoxed_24 : decode cX3_canBeBoxed 24 = .ok (.iconst 1, 1) := by decide +kernel
theorem dX3_canBeBoxed_25 : decode cX3_canBeBoxed 25 = .ok (.goto 4, 3) := by decide +kernel
theorem dX3_canBeBoxed_28 : decode cX3_canBeBoxed 28 = .ok (.iconst 0, 1) := by decide +kernel
theorem dX3_canBeBoxed_29 : decode cX3_canBeBoxed 29 = .ok (.ireturn, 1) := by decide +kernel
theorem dX3_enterBox_0 : decode cX3_enterBox 0 = .ok (.aload_n 0, 1) := by decide +kernel
theorem dX3_enterBox_1 : decode cX3_enterBox 1 = .ok (.iconst 1, 1) := by decide +kernel
theorem dX3_enterBox_2 : decode cX3_enterBox 2 = .ok (.putfield 18, 3) := by decide +kernel
theorem dX3_enterBox_5 : decode cX3_enterBox 5 = .ok (.aload_n 0, 1) := by decide +kernel
theorem dX3_enterBox_6 : decode cX3_enterBox 6 = .ok (.iload_n 1, 1) := by decide +kernel
theorem dX3_enterBox_7 : decode cX3_enterBox 7 = .ok (.putfield 25, 3) := by decide +kernel
theorem dX3_enterBox_10 : decode cX3_enterBox 10 = .ok (.return_, 1) := by decide +kernel
theorem dX3_leaveBox_0 : decode cX3_leaveBox 0 = .ok (.aload_n 0, 1) := by decide +kernel
theorem dX3_leaveBox_1 : decode cX3_leaveBox 1 = .ok (.iconst 0, 1) := by decide +kernel
theorem dX3_leaveBox_2 : decode cX3_leaveBox 2 = .ok (.putfield 18, 3) := by decide +kernel
theorem dX3_leaveBox_5 : decode cX3_leaveBox 5 = .ok (.aload_n 0, 1) := by decide +kernel
theorem dX3_leaveBox_6 : decode cX3_leaveBox 6 = .ok (.iconst (-1), 1) := by decide +kernel
theorem dX3_leaveBox_7 : decode cX3_leaveBox 7 = .ok (.putfield 25, 3) := by decide +kernel
theorem dX3_leaveBox_10 : decode cX3_leaveBox 10 = .ok (.return_, 1) := by decide +kernel
theorem dX3_sellTo_0 : decode cX3_sellTo 0 = .ok (.aload_n 0, 1) := by decide +kernel
theorem dX3_sellTo_1 : decode cX3_sellTo 1 = .ok (.iconst 2, 1) := by decide +kernel
theorem dX3_sellTo_2 : decode cX3_sellTo 2 = .ok (.putfield 18, 3) := by decide +kernel
theorem dX3_sellTo_5 : decode cX3_sellTo 5 = .ok (.aload_n 0, 1) := by decide +kernel
theorem dX3_sellTo_6 : decode cX3_sellTo 6 = .ok (.iload_n 1, 1) := by decide +kernel
theorem dX3_sellTo_7 : decode cX3_sellTo 7 = .ok (.putfield 22, 3) := by decide +kernel
theorem dX3_sellTo_10 : decode cX3_sellTo 10 = .ok (.return_, 1) := by decide +kernel
theorem dX4_init_0 : decode cX4_init 0 = .ok (.aload_n 0, 1) := by decide +kernel
theorem dX4_init_1 : decode cX4_init 1 = .ok (.invokespecial 3, 3) := by decide +kernel
theorem dX4_init_4 : decode cX4_init 4 = .ok (.aload_n 0, 1) := by decide +kernel
theorem dX4_init_5 : decode cX4_init 5 = .ok (.iconst 5, 1) := by decide +kernel
theorem dX4_init_6 : decode cX4_init 6 = .ok (.newarray .int, 2) := by decide +kernel
theorem dX4_init_8 : decode cX4_init 8 = .ok (.putfield 9, 3) := by decide +kernel
theorem dX4_init_11 : decode cX4_init 11 = .ok (.return_, 1) := by decide +kernel
theorem dX4_isOn_0 : decode cX4_isOn 0 = .ok (.aload_n 0, 1) := by decide +kernel
theorem dX4_isOn_1 : decode cX4_isOn 1 = .ok (.getfield 15, 3) := by decide +kernel
theorem dX4_isOn_4 : decode cX4_isOn 4 = .ok (.ifnull 7, 3) := by decide +kernel
theorem dX4_isOn_7 : decode cX4_isOn 7 = .ok (.iconst 1, 1) := by decide +kernel
theorem dX4_isOn_8 : decode cX4_isOn 8 = .ok (.goto 4, 3) := by decide +kernel
theorem dX4_isOn_11 : decode cX4_isOn 11 = .ok (.iconst 0, 1) := by decide +kernel
theorem dX4_isOn_12 : decode cX4_isOn 12 = .ok (.ireturn, 1) := by decide +kernel
theorem dX4_begin_0 : decode cX4_begin 0 = .ok (.aload_n 0, 1) := by decide +kernel
theorem dX4_begin_1 : decode cX4_begin 1 = .ok (.aload_n 1, 1) := by decide +kernel
theorem dX4_begin_2 : decode cX4_begin 2 = .ok (.putfield 15, 3) := by decide +kernel
theorem dX4_begin_5 : decode cX4_begin 5 = .ok (.aload_n 0, 1) := by decide +kernel
theorem dX4_begin_6 : decode cX4_begin 6 = .ok (.iload_n 2, 1) := by decide +kernel
theorem dX4_begin_7 : decode cX4_begin 7 = .ok (.putfield 19, 3) := by decide +kernel
theorem dX4_begin_10 : decode cX4_begin 10 = .ok (.aload_n 0, 1) := by decide +kernel
theorem dX4_begin_11 : decode cX4_begin 11 = .ok (.getfield 9, 3) := by decide +kernel
theorem dX4_begin_14 : decode cX4_begin 14 = .ok (.iconst (-1), 1) := by decide +kernel
theorem dX4_begin_15 : decode cX4_begin 15 = .ok (.invokestatic 23, 3) := by decide +kernel
theorem dX4_begin_18 : decode cX4_begin 18 = .ok (.return_, 1) := by decide +kernel
theorem dX4_end_0 : decode cX4_end 0 = .ok (.aload_n 0, 1) := by decide +kernel
theorem dX4_end_1 : decode cX4_end 1 = .ok (.aconst_null, 1) := by decide +kernel
theorem dX4_end_2 : decode cX4_end 2 = .ok (.putfield 15, 3) := by decide +kernel
theorem dX4_end_5 : decode cX4_end 5 = .ok (.return_, 1) := by decide +kernel
theorem dX4_bidOf_0 : decode cX4_bidOf 0 = .ok (.iload_n 1, 1) := by decide +kernel
theorem dX4_bidOf_1 : decode cX4_bidOf 1 = .ok (.aload_n 0, 1) := by decide +kernel
theorem dX4_bidOf_2 : decode cX4_bidOf 2 = .ok (.getfield 9, 3) := by decide +kernel
theorem dX4_bidOf_5 : decode cX4_bidOf 5 = .ok (.arraylength, 1) := by decide +kernel
theorem dX4_bidOf_6 : decode cX4_bidOf 6 = .ok (.invokestatic 29, 3) := by decide +kernel
theorem dX4_bidOf_9 : decode cX4_bidOf 9 = .ok (.ifCond .eq 12, 3) := by decide +kernel
theorem dX4_bidOf_12 : decode cX4_bidOf 12 = .ok (.aload_n 0, 1) := by decide +kernel
theorem dX4_bidOf_13 : decode cX4_bidOf 13 = .ok (.getfield 9, 3) := by decide +kernel
theorem dX4_bidOf_16 : decode cX4_bidOf 16 = .ok (.iload_n 1, 1) := by decide +kernel
theorem dX4_bidOf_17 : decode cX4_bidOf 17 = .ok (.iaload, 1) := by decide +kernel
theorem dX4_bidOf_18 : decode cX4_bidOf 18 = .ok (.goto 4, 3) := by decide +kernel
theorem dX4_bidOf_21 : decode cX4_bidOf 21 = .ok (.iconst (-1), 1) := by decide +kernel
theorem dX4_bidOf_22 : decode cX4_bidOf 22 = .ok (.ireturn, 1) := by decide +kernel
theorem dX4_setBid_0 : decode cX4_setBid 0 = .ok (.iload_n 1, 1) := by decide +kernel
theorem dX4_setBid_1 : decode cX4_setBid 1 = .ok (.aload_n 0, 1) := by decide +kernel
theorem dX4_setBid_2 : decode cX4_setBid 2 = .ok (.getfield 9, 3) := by decide +kernel
theorem dX4_setBid_5 : decode cX4_setBid 5 = .ok (.arraylength, 1) := by decide +kernel
theorem dX4_setBid_6 : decode cX4_setBid 6 = .ok (.invokestatic 29, 3) := by decide +kernel
theorem dX4_setBid_9 : decode cX4_setBid 9 = .ok (.ifCond .eq 10, 3) := by decide +kernel
theorem dX4_setBid_12 : decode cX4_setBid 12 = .ok (.aload_n 0, 1) := by decide +kernel
theorem dX4_setBid_13 : decode cX4_setBid 13 = .ok (.getfield 9, 3) := by decide +kernel
theorem dX4_setBid_16 : decode cX4_setBid 16 = .ok (.iload_n 1, 1) := by decide +kernel
theorem dX4_setBid_17 : decode cX4_setBid 17 = .ok (.iload_n 2, 1) := by decide +kernel
theorem dX4_setBid_18 : decode cX4_setBid 18 = .ok (.iastore, 1) := by decide +kernel
theorem dX4_setBid_19 : decode cX4_setBid 19 = .ok (.return_, 1) := by decide +kernel
theorem dX4_paymentOf_0 : decode cX4_paymentOf 0 = .ok (.aload_n 0, 1) := by decide +kernel
theorem dX4_paymentOf_1 : decode cX4_paymentOf 1 = .ok (.getfield 19, 3) := by decide +kernel
theorem dX4_paymentOf_4 : decode cX4_paymentOf 4 = .ok (.istore_n 2, 1) := by decide +kernel
theorem dX4_paymentOf_5 : decode cX4_paymentOf 5 = .ok (.iconst 0, 1) := by decide +kernel
theorem dX4_paymentOf_6 : decode cX4_paymentOf 6 = .ok (.istore_n 3, 1) := by decide +kernel
theorem dX4_paymentOf_7 : decode cX4_paymentOf 7 = .ok (.iload_n 3, 1) := by decide +kernel
theorem dX4_paymentOf_8 : decode cX4_paymentOf 8 = .ok (.aload_n 0, 1) := by decide +kernel
theorem dX4_paymentOf_9 : decode cX4_paymentOf 9 = .ok (.getfield 9, 3) := by decide +kernel
theorem dX4_paymentOf_12 : decode cX4_paymentOf 12 = .ok (.arraylength, 1) := by decide +kernel
theorem dX4_paymentOf_13 : decode cX4_paymentOf 13 = .ok (.if_icmp .ge 25, 3) := by decide +kernel
theorem dX4_paymentOf_16 : decode cX4_paymentOf 16 = .ok (.iload_n 3, 1) := by decide +kernel
theorem dX4_paymentOf_17 : decode cX4_paymentOf 17 = .ok (.iload_n 1, 1) := by decide +kernel
theorem dX4_paymentOf_18 : decode cX4_paymentOf 18 = .ok (.if_icmp .eq 14, 3) := by decide +kernel
theorem dX4_paymentOf_21 : decode cX4_paymentOf 21 = .ok (.iload_n 2, 1) := by decide +kernel
theorem dX4_paymentOf_22 : decode cX4_paymentOf 22 = .ok (.aload_n 0, 1) := by decide +kernel
theorem dX4_paymentOf_23 : decode cX4_paymentOf 23 = .ok (.getfield 9, 3) := by decide +kernel
theorem dX4_paymentOf_26 : decode cX4_paymentOf 26 = .ok (.iload_n 3, 1) := by decide +kernel
theorem dX4_paymentOf_27 : decode cX4_paymentOf 27 = .ok (.iaload, 1) := by decide +kernel
theorem dX4_paymentOf_28 : decode cX4_paymentOf 28 = .ok (.invokestatic 33, 3) := by decide +kernel
theorem dX4_paymentOf_31 : decode cX4_paymentOf 31 = .ok (.istore_n 2, 1) := by decide +kernel
theorem dX4_paymentOf_32 : decode cX4_paymentOf 32 = .ok (.iinc 3 1, 3) := by decide +kernel
theorem dX4_paymentOf_35 : decode cX4_paymentOf 35 = .ok (.goto (-28), 3) := by decide +kernel
theorem dX4_paymentOf_38 : decode cX4_paymentOf 38 = .ok (.iload_n 2, 1) := by decide +kernel
theorem dX4_paymentOf_39 : decode cX4_paymentOf 39 = .ok (.ireturn, 1) := by decide +kernel
theorem dJ9_abs_0f7a4_0 : decode cJ9_abs_0f7a4 0 = .ok (.iload_n 0, 1) := by decide +kernel
theorem dJ9_abs_0f7a4_1 : decode cJ9_abs_0f7a4 1 = .ok (.ifCond .ge 8, 3) := by decide +kernel
theorem dJ9_abs_0f7a4_4 : decode cJ9_abs_0f7a4 4 = .ok (.iload_n 0, 1) := by decide +kernel
theorem dJ9_abs_0f7a4_5 : decode cJ9_abs_0f7a4 5 = .ok (.ineg, 1) := by decide +kernel
theorem dJ9_abs_0f7a4_6 : decode cJ9_abs_0f7a4 6 = .ok (.goto 4, 3) := by decide +kernel
theorem dJ9_abs_0f7a4_9 : decode cJ9_abs_0f7a4 9 = .ok (.iload_n 0, 1) := by decide +kernel
theorem dJ9_abs_0f7a4_10 : decode cJ9_abs_0f7a4 10 = .ok (.ireturn, 1) := by decide +kernel
theorem dJ9_max_7cf53_0 : decode cJ9_max_7cf53 0 = .ok (.iload_n 0, 1) := by decide +kernel
theorem dJ9_max_7cf53_1 : decode cJ9_max_7cf53 1 = .ok (.iload_n 1, 1) := by decide +kernel
theorem dJ9_max_7cf53_2 : decode cJ9_max_7cf53 2 = .ok (.if_icmp .lt 7, 3) := by decide +kernel
theorem dJ9_max_7cf53_5 : decode cJ9_max_7cf53 5 = .ok (.iload_n 0, 1) := by decide +kernel
theorem dJ9_max_7cf53_6 : decode cJ9_max_7cf53 6 = .ok (.goto 4, 3) := by decide +kernel
theorem dJ9_max_7cf53_9 : decode cJ9_max_7cf53 9 = .ok (.iload_n 1, 1) := by decide +kernel
theorem dJ9_max_7cf53_10 : decode cJ9_max_7cf53 10 = .ok (.ireturn, 1) := by decide +kernel
theorem dJ9_min_7cf53_0 : decode cJ9_min_7cf53 0 = .ok (.iload_n 0, 1) := by decide +kernel
theorem dJ9_min_7cf53_1 : decode cJ9_min_7cf53 1 = .ok (.iload_n 1, 1) := by decide +kernel
theorem dJ9_min_7cf53_2 : decode cJ9_min_7cf53 2 = .ok (.if_icmp .gt 7, 3) := by decide +kernel
theorem dJ9_min_7cf53_5 : decode cJ9_min_7cf53 5 = .ok (.iload_n 0, 1) := by decide +kernel
theorem dJ9_min_7cf53_6 : decode cJ9_min_7cf53 6 = .ok (.goto 4, 3) := by decide +kernel
theorem dJ9_min_7cf53_9 : decode cJ9_min_7cf53 9 = .ok (.iload_n 1, 1) := by decide +kernel
theorem dJ9_min_7cf53_10 : decode cJ9_min_7cf53 10 = .ok (.ireturn, 1) := by decide +kernel
theorem dJ7_fill_53178_0 : decode cJ7_fill_53178 0 = .ok (.iconst 0, 1) := by decide +kernel
theorem dJ7_fill_53178_1 : decode cJ7_fill_53178 1 = .ok (.istore_n 2, 1) := by decide +kernel
theorem dJ7_fill_53178_2 : decode cJ7_fill_53178 2 = .ok (.aload_n 0, 1) := by decide +kernel
theorem dJ7_fill_53178_3 : decode cJ7_fill_53178 3 = .ok (.arraylength, 1) := by decide +kernel
theorem dJ7_fill_53178_4 : decode cJ7_fill_53178 4 = .ok (.istore_n 3, 1) := by decide +kernel
theorem dJ7_fill_53178_5 : decode cJ7_fill_53178 5 = .ok (.iload_n 2, 1) := by decide +kernel
theorem dJ7_fill_53178_6 : decode cJ7_fill_53178 6 = .ok (.iload_n 3, 1) := by decide +kernel
theorem dJ7_fill_53178_7 : decode cJ7_fill_53178 7 = .ok (.if_icmp .ge 13, 3) := by decide +kernel
theorem dJ7_fill_53178_10 : decode cJ7_fill_53178 10 = .ok (.aload_n 0, 1) := by decide +kernel
theorem dJ7_fill_53178_11 : decode cJ7_fill_53178 11 = .ok (.iload_n 2, 1) := by decide +kernel
theorem dJ7_fill_53178_12 : decode cJ7_fill_53178 12 = .ok (.iload_n 1, 1) := by decide +kernel
theorem dJ7_fill_53178_13 : decode cJ7_fill_53178 13 = .ok (.iastore, 1) := by decide +kernel
theorem dJ7_fill_53178_14 : decode cJ7_fill_53178 14 = .ok (.iinc 2 1, 3) := by decide +kernel
theorem dJ7_fill_53178_17 : decode cJ7_fill_53178 17 = .ok (.goto (-12), 3) := by decide +kernel
theorem dJ7_fill_53178_20 : decode cJ7_fill_53178 20 = .ok (.return_, 1) := by decide +kernel
theorem dL_parcel_0 : decode cL_parcel 0 = .ok (.aload_n 2, 1) := by decide +kernel
theorem dL_parcel_1 : decode cL_parcel 1 = .ok (.iconst 0, 1) := by decide +kernel
theorem dL_parcel_2 : decode cL_parcel 2 = .ok (.aload_n 0, 1) := by decide +kernel
theorem dL_parcel_3 : decode cL_parcel 3 = .ok (.iload_n 1, 1) := by decide +kernel
theorem dL_parcel_4 : decode cL_parcel 4 = .ok (.invokevirtual 7, 3) := by decide +kernel
theorem dL_parcel_7 : decode cL_parcel 7 = .ok (.i2l, 1) := by decide +kernel
theorem dL_parcel_8 : decode cL_parcel 8 = .ok (.lastore, 1) := by decide +kernel
theorem dL_parcel_9 : decode cL_parcel 9 = .ok (.goto 9, 3) := by decide +kernel
theorem dL_parcel_12 : decode cL_parcel 12 = .ok (.astore_n 3, 1) := by decide +kernel
theorem dL_parcel_13 : decode cL_parcel 13 = .ok (.iconst 1, 1) := by decide +kernel
theorem dL_parcel_14 : decode cL_parcel 14 = .ok (.ireturn, 1) := by decide +kernel
theorem dL_parcel_15 : decode cL_parcel 15 = .ok (.astore_n 3, 1) := by decide +kernel
theorem dL_parcel_16 : decode cL_parcel 16 = .ok (.iconst 2, 1) := by decide +kernel
theorem dL_parcel_17 : decode cL_parcel 17 = .ok (.ireturn, 1) := by decide +kernel
theorem dL_parcel_18 : decode cL_parcel 18 = .ok (.iconst 0, 1) := by decide +kernel
theorem dL_parcel_19 : decode cL_parcel 19 = .ok (.ireturn, 1) := by decide +kernel
theorem dL_stone_0 : decode cL_stone 0 = .ok (.aload 6, 2) := by decide +kernel
theorem dL_stone_2 : decode cL_stone 2 = .ok (.iconst 0, 1) := by decide +kernel
theorem dL_stone_3 : decode cL_stone 3 = .ok (.aload_n 0, 1) := by decide +kernel
theorem dL_stone_4 : decode cL_stone 4 = .ok (.iload_n 1, 1) := by decide +kernel
theorem dL_stone_5 : decode cL_stone 5 = .ok (.iload_n 2, 1) := by decide +kernel
theorem dL_stone_6 : decode cL_stone 6 = .ok (.iload_n 3, 1) := by decide +kernel
theorem dL_stone_7 : decode cL_stone 7 = .ok (.iload 4, 2) := by decide +kernel
theorem dL_stone_9 : decode cL_stone 9 = .ok (.iload 5, 2) := by decide +kernel
theorem dL_stone_11 : decode cL_stone 11 = .ok (.invokevirtual 17, 3) := by decide +kernel
theorem dL_stone_14 : decode cL_stone 14 = .ok (.i2l, 1) := by decide +kernel
theorem dL_stone_15 : decode cL_stone 15 = .ok (.lastore, 1) := by decide +kernel
theorem dL_stone_16 : decode cL_stone 16 = .ok (.goto 15, 3) := by decide +kernel
theorem dL_stone_19 : decode cL_stone 19 = .ok (.astore 7, 2) := by decide +kernel
theorem dL_stone_21 : decode cL_stone 21 = .ok (.iconst 1, 1) := by decide +kernel
theorem dL_stone_22 : decode cL_stone 22 = .ok (.ireturn, 1) := by decide +kernel
theorem dL_stone_23 : decode cL_stone 23 = .ok (.astore 7, 2) := by decide +kernel
theorem dL_stone_25 : decode cL_stone 25 = .ok (.iconst 2, 1) := by decide +kernel
theorem dL_stone_26 : decode cL_stone 26 = .ok (.ireturn, 1) := by decide +kernel
theorem dL_stone_27 : decode cL_stone 27 = .ok (.astore 7, 2) := by decide +kernel
theorem dL_stone_29 : decode cL_stone 29 = .ok (.iconst 3, 1) := by decide +kernel
theorem dL_stone_30 : decode cL_stone 30 = .ok (.ireturn, 1) := by decide +kernel
theorem dL_stone_31 : decode cL_stone 31 = .ok (.iconst 0, 1) := by decide +kernel
theorem dL_stone_32 : decode cL_stone 32 = .ok (.ireturn, 1) := by decide +kernel
theorem dL_drift_0 : decode cL_drift 0 = .ok (.aload_n 3, 1) := by decide +kernel
theorem dL_drift_1 : decode cL_drift 1 = .ok (.iconst 0, 1) := by decide +kernel
theorem dL_drift_2 : decode cL_drift 2 = .ok (.aload_n 0, 1) := by decide +kernel
theorem dL_drift_3 : decode cL_drift 3 = .ok (.iload_n 1, 1) := by decide +kernel
theorem dL_drift_4 : decode cL_drift 4 = .ok (.iload_n 2, 1) := by decide +kernel
theorem dL_drift_5 : decode cL_drift 5 = .ok (.invokevirtual 23, 3) := by decide +kernel
theorem dL_drift_8 : decode cL_drift 8 = .ok (.i2l, 1) := by decide +kernel
theorem dL_drift_9 : decode cL_drift 9 = .ok (.lastore, 1) := by decide +kernel
theorem dL_drift_10 : decode cL_drift 10 = .ok (.goto 11, 3) := by decide +kernel
theorem dL_drift_13 : decode cL_drift 13 = .ok (.astore 4, 2) := by decide +kernel
theorem dL_drift_15 : decode cL_drift 15 = .ok (.iconst 1, 1) := by decide +kernel
theorem dL_drift_16 : decode cL_drift 16 = .ok (.ireturn, 1) := by decide +kernel
theorem dL_drift_17 : decode cL_drift 17 = .ok (.astore 4, 2) := by decide +kernel
theorem dL_drift_19 : decode cL_drift 19 = .ok (.iconst 2, 1) := by decide +kernel
theorem dL_drift_20 : decode cL_drift 20 = .ok (.ireturn, 1) := by decide +kernel
theorem dL_drift_21 : decode cL_drift 21 = .ok (.iconst 0, 1) := by decide +kernel
theorem dL_drift_22 : decode cL_drift 22 = .ok (.ireturn, 1) := by decide +kernel
theorem dL_sort_0 : decode cL_sort 0 = .ok (.aload_n 3, 1) := by decide +kernel
theorem dL_sort_1 : decode cL_sort 1 = .ok (.iconst 0, 1) := by decide +kernel
theorem dL_sort_2 : decode cL_sort 2 = .ok (.aload_n 0, 1) := by decide +kernel
theorem dL_sort_3 : decode cL_sort 3 = .ok (.iload_n 1, 1) := by decide +kernel
theorem dL_sort_4 : decode cL_sort 4 = .ok (.iload_n 2, 1) := by decide +kernel
theorem dL_sort_5 : decode cL_sort 5 = .ok (.invokevirtual 27, 3) := by decide +kernel
theorem dL_sort_8 : decode cL_sort 8 = .ok (.i2l, 1) := by decide +kernel
theorem dL_sort_9 : decode cL_sort 9 = .ok (.lastore, 1) := by decide +kernel
theorem dL_sort_10 : decode cL_sort 10 = .ok (.goto 11, 3) := by decide +kernel
theorem dL_sort_13 : decode cL_sort 13 = .ok (.astore 4, 2) := by decide +kernel
theorem dL_sort_15 : decode cL_sort 15 = .ok (.iconst 1, 1) := by decide +kernel
theorem dL_sort_16 : decode cL_sort 16 = .ok (.ireturn, 1) := by decide +kernel
theorem dL_sort_17 : decode cL_sort 17 = .ok (.astore 4, 2) := by decide +kernel
theorem dL_sort_19 : decode cL_sort 19 = .ok (.iconst 2, 1) := by decide +kernel
theorem dL_sort_20 : decode cL_sort 20 = .ok (.ireturn, 1) := by decide +kernel
theorem dL_sort_21 : decode cL_sort 21 = .ok (.iconst 0, 1) := by decide +kernel
theorem dL_sort_22 : decode cL_sort 22 = .ok (.ireturn, 1) := by decide +kernel
theorem dL_price_0 : decode cL_price 0 = .ok (.aload 4, 2) := by decide +kernel
theorem dL_price_2 : decode cL_price 2 = .ok (.iconst 0, 1) := by decide +kernel
theorem dL_price_3 : decode cL_price 3 = .ok (.aload_n 0, 1) := by decide +kernel
theorem dL_price_4 : decode cL_price 4 = .ok (.iload_n 1, 1) := by decide +kernel
theorem dL_price_5 : decode cL_price 5 = .ok (.iload_n 2, 1) := by decide +kernel
theorem dL_price_6 : decode cL_price 6 = .ok (.iload_n 3, 1) := by decide +kernel
theorem dL_price_7 : decode cL_price 7 = .ok (.invokevirtual 30, 3) := by decide +kernel
theorem dL_price_10 : decode cL_price 10 = .ok (.i2l, 1) := by decide +kernel
theorem dL_price_11 : decode cL_price 11 = .ok (.lastore, 1) := by decide +kernel
theorem dL_price_12 : decode cL_price 12 = .ok (.goto 11, 3) := by decide +kernel
theorem dL_price_15 : decode cL_price 15 = .ok (.astore 5, 2) := by decide +kernel
theorem dL_price_17 : decode cL_price 17 = .ok (.iconst 1, 1) := by decide +kernel
theorem dL_price_18 : decode cL_price 18 = .ok (.ireturn, 1) := by decide +kernel
theorem dL_price_19 : decode cL_price 19 = .ok (.astore 5, 2) := by decide +kernel
theorem dL_price_21 : decode cL_price 21 = .ok (.iconst 2, 1) := by decide +kernel
theorem dL_price_22 : decode cL_price 22 = .ok (.ireturn, 1) := by decide +kernel
theorem dL_price_23 : decode cL_price 23 = .ok (.iconst 0, 1) := by decide +kernel
theorem dL_price_24 : decode cL_price 24 = .ok (.ireturn, 1) := by decide +kernel
theorem dL_value_0 : decode cL_value 0 = .ok (.aload_n 2, 1) := by decide +kernel
theorem dL_value_1 : decode cL_value 1 = .ok (.iconst 0, 1) := by decide +kernel
theorem dL_value_2 : decode cL_value 2 = .ok (.aload_n 0, 1) := by decide +kernel
theorem dL_value_3 : decode cL_value 3 = .ok (.iload_n 1, 1) := by decide +kernel
theorem dL_value_4 : decode cL_value 4 = .ok (.invokevirtual 34, 3) := by decide +kernel
theorem dL_value_7 : decode cL_value 7 = .ok (.i2l, 1) := by decide +kernel
theorem dL_value_8 : decode cL_value 8 = .ok (.lastore, 1) := by decide +kernel
theorem dL_value_9 : decode cL_value 9 = .ok (.goto 6, 3) := by decide +kernel
theorem dL_value_12 : decode cL_value 12 = .ok (.astore_n 3, 1) := by decide +kernel
theorem dL_value_13 : decode cL_value 13 = .ok (.iconst 1, 1) := by decide +kernel
theorem dL_value_14 : decode cL_value 14 = .ok (.ireturn, 1) := by decide +kernel
theorem dL_value_15 : decode cL_value 15 = .ok (.iconst 0, 1) := by decide +kernel
theorem dL_value_16 : decode cL_value 16 = .ok (.ireturn, 1) := by decide +kernel
theorem dL_stoneIs_0 : decode cL_stoneIs 0 = .ok (.aload_n 3, 1) := by decide +kernel
theorem dL_stoneIs_1 : decode cL_stoneIs 1 = .ok (.iconst 0, 1) := by decide +kernel
theorem dL_stoneIs_2 : decode cL_stoneIs 2 = .ok (.aload_n 0, 1) := by decide +kernel
theorem dL_stoneIs_3 : decode cL_stoneIs 3 = .ok (.iload_n 1, 1) := by decide +kernel
theorem dL_stoneIs_4 : decode cL_stoneIs 4 = .ok (.iload_n 2, 1) := by decide +kernel
theorem dL_stoneIs_5 : decode cL_stoneIs 5 = .ok (.invokevirtual 37, 3) := by decide +kernel
theorem dL_stoneIs_8 : decode cL_stoneIs 8 = .ok (.i2l, 1) := by decide +kernel
theorem dL_stoneIs_9 : decode cL_stoneIs 9 = .ok (.lastore, 1) := by decide +kernel
theorem dL_stoneIs_10 : decode cL_stoneIs 10 = .ok (.goto 11, 3) := by decide +kernel
theorem dL_stoneIs_13 : decode cL_stoneIs 13 = .ok (.astore 4, 2) := by decide +kernel
theorem dL_stoneIs_15 : decode cL_stoneIs 15 = .ok (.iconst 1, 1) := by decide +kernel
theorem dL_stoneIs_16 : decode cL_stoneIs 16 = .ok (.ireturn, 1) := by decide +kernel
theorem dL_stoneIs_17 : decode cL_stoneIs 17 = .ok (.astore 4, 2) := by decide +kernel
theorem dL_stoneIs_19 : decode cL_stoneIs 19 = .ok (.iconst 2, 1) := by decide +kernel
theorem dL_stoneIs_20 : decode cL_stoneIs 20 = .ok (.ireturn, 1) := by decide +kernel
theorem dL_stoneIs_21 : decode cL_stoneIs 21 = .ok (.iconst 0, 1) := by decide +kernel
theorem dL_stoneIs_22 : decode cL_stoneIs 22 = .ok (.ireturn, 1) := by decide +kernel
theorem dL_boxes_0 : decode cL_boxes 0 = .ok (.aload_n 2, 1) := by decide +kernel
theorem dL_boxes_1 : decode cL_boxes 1 = .ok (.iconst 0, 1) := by decide +kernel
theorem dL_boxes_2 : decode cL_boxes 2 = .ok (.aload_n 0, 1) := by decide +kernel
theorem dL_boxes_3 : decode cL_boxes 3 = .ok (.iload_n 1, 1) := by decide +kernel
theorem dL_boxes_4 : decode cL_boxes 4 = .ok (.invokevirtual 40, 3) := by decide +kernel
theorem dL_boxes_7 : decode cL_boxes 7 = .ok (.i2l, 1) := by decide +kernel
theorem dL_boxes_8 : decode cL_boxes 8 = .ok (.lastore, 1) := by decide +kernel
theorem dL_boxes_9 : decode cL_boxes 9 = .ok (.goto 6, 3) := by decide +kernel
theorem dL_boxes_12 : decode cL_boxes 12 = .ok (.astore_n 3, 1) := by decide +kernel
theorem dL_boxes_13 : decode cL_boxes 13 = .ok (.iconst 1, 1) := by decide +kernel
theorem dL_boxes_14 : decode cL_boxes 14 = .ok (.ireturn, 1) := by decide +kernel
theorem dL_boxes_15 : decode cL_boxes 15 = .ok (.iconst 0, 1) := by decide +kernel
theorem dL_boxes_16 : decode cL_boxes 16 = .ok (.ireturn, 1) := by decide +kernel
theorem dL_boxValue_0 : decode cL_boxValue 0 = .ok (.aload_n 2, 1) := by decide +kernel
theorem dL_boxValue_1 : decode cL_boxValue 1 = .ok (.iconst 0, 1) := by decide +kernel
theorem dL_boxValue_2 : decode cL_boxValue 2 = .ok (.aload_n 0, 1) := by decide +kernel
theorem dL_boxValue_3 : decode cL_boxValue 3 = .ok (.iload_n 1, 1) := by decide +kernel
theorem dL_boxValue_4 : decode cL_boxValue 4 = .ok (.invokevirtual 43, 3) := by decide +kernel
theorem dL_boxValue_7 : decode cL_boxValue 7 = .ok (.i2l, 1) := by decide +kernel
theorem dL_boxValue_8 : decode cL_boxValue 8 = .ok (.lastore, 1) := by decide +kernel
theorem dL_boxValue_9 : decode cL_boxValue 9 = .ok (.goto 6, 3) := by decide +kernel
theorem dL_boxValue_12 : decode cL_boxValue 12 = .ok (.astore_n 3, 1) := by decide +kernel
theorem dL_boxValue_13 : decode cL_boxValue 13 = .ok (.iconst 1, 1) := by decide +kernel
theorem dL_boxValue_14 : decode cL_boxValue 14 = .ok (.ireturn, 1) := by decide +kernel
theorem dL_boxValue_15 : decode cL_boxValue 15 = .ok (.iconst 0, 1) := by decide +kernel
theorem dL_boxValue_16 : decode cL_boxValue 16 = .ok (.ireturn, 1) := by decide +kernel
theorem dL_offered_0 : decode cL_offered 0 = .ok (.aload_n 2, 1) := by decide +kernel
theorem dL_offered_1 : decode cL_offered 1 = .ok (.iconst 0, 1) := by decide +kernel
theorem dL_offered_2 : decode cL_offered 2 = .ok (.aload_n 0, 1) := by decide +kernel
theorem dL_offered_3 : decode cL_offered 3 = .ok (.iload_n 1, 1) := by decide +kernel
theorem dL_offered_4 : decode cL_offered 4 = .ok (.invokevirtual 46, 3) := by decide +kernel
theorem dL_offered_7 : decode cL_offered 7 = .ok (.i2l, 1) := by decide +kernel
theorem dL_offered_8 : decode cL_offered 8 = .ok (.lastore, 1) := by decide +kernel
theorem dL_offered_9 : decode cL_offered 9 = .ok (.goto 6, 3) := by decide +kernel
theorem dL_offered_12 : decode cL_offered 12 = .ok (.astore_n 3, 1) := by decide +kernel
theorem dL_offered_13 : decode cL_offered 13 = .ok (.iconst 1, 1) := by decide +kernel
theorem dL_offered_14 : decode cL_offered 14 = .ok (.ireturn, 1) := by decide +kernel
theorem dL_offered_15 : decode cL_offered 15 = .ok (.iconst 0, 1) := by decide +kernel
theorem dL_offered_16 : decode cL_offered 16 = .ok (.ireturn, 1) := by decide +kernel
theorem dL_take_0 : decode cL_take 0 = .ok (.aload_n 3, 1) := by decide +kernel
theorem dL_take_1 : decode cL_take 1 = .ok (.iconst 0, 1) := by decide +kernel
theorem dL_take_2 : decode cL_take 2 = .ok (.aload_n 0, 1) := by decide +kernel
theorem dL_take_3 : decode cL_take 3 = .ok (.iload_n 1, 1) := by decide +kernel
theorem dL_take_4 : decode cL_take 4 = .ok (.iload_n 2, 1) := by decide +kernel
theorem dL_take_5 : decode cL_take 5 = .ok (.invokevirtual 49, 3) := by decide +kernel
theorem dL_take_8 : decode cL_take 8 = .ok (.i2l, 1) := by decide +kernel
theorem dL_take_9 : decode cL_take 9 = .ok (.lastore, 1) := by decide +kernel
theorem dL_take_10 : decode cL_take 10 = .ok (.goto 11, 3) := by decide +kernel
theorem dL_take_13 : decode cL_take 13 = .ok (.astore 4, 2) := by decide +kernel
theorem dL_take_15 : decode cL_take 15 = .ok (.iconst 1, 1) := by decide +kernel
theorem dL_take_16 : decode cL_take 16 = .ok (.ireturn, 1) := by decide +kernel
theorem dL_take_17 : decode cL_take 17 = .ok (.astore 4, 2) := by decide +kernel
theorem dL_take_19 : decode cL_take 19 = .ok (.iconst 2, 1) := by decide +kernel
theorem dL_take_20 : decode cL_take 20 = .ok (.ireturn, 1) := by decide +kernel
theorem dL_take_21 : decode cL_take 21 = .ok (.iconst 0, 1) := by decide +kernel
theorem dL_take_22 : decode cL_take 22 = .ok (.ireturn, 1) := by decide +kernel
theorem dL_tender_0 : decode cL_tender 0 = .ok (.aload_n 0, 1) := by decide +kernel
theorem dL_tender_1 : decode cL_tender 1 = .ok (.iload_n 1, 1) := by decide +kernel
theorem dL_tender_2 : decode cL_tender 2 = .ok (.iload_n 2, 1) := by decide +kernel
theorem dL_tender_3 : decode cL_tender 3 = .ok (.invokevirtual 53, 3) := by decide +kernel
theorem dL_tender_6 : decode cL_tender 6 = .ok (.goto 12, 3) := by decide +kernel
theorem dL_tender_9 : decode cL_tender 9 = .ok (.astore_n 3, 1) := by decide +kernel
theorem dL_tender_10 : decode cL_tender 10 = .ok (.iconst 1, 1) := by decide +kernel
theorem dL_tender_11 : decode cL_tender 11 = .ok (.ireturn, 1) := by decide +kernel
theorem dL_tender_12 : decode cL_tender 12 = .ok (.astore_n 3, 1) := by decide +kernel
theorem dL_tender_13 : decode cL_tender 13 = .ok (.iconst 2, 1) := by decide +kernel
theorem dL_tender_14 : decode cL_tender 14 = .ok (.ireturn, 1) := by decide +kernel
theorem dL_tender_15 : decode cL_tender 15 = .ok (.astore_n 3, 1) := by decide +kernel
theorem dL_tender_16 : decode cL_tender 16 = .ok (.iconst 3, 1) := by decide +kernel
theorem dL_tender_17 : decode cL_tender 17 = .ok (.ireturn, 1) := by decide +kernel
theorem dL_tender_18 : decode cL_tender 18 = .ok (.iconst 0, 1) := by decide +kernel
theorem dL_tender_19 : decode cL_tender 19 = .ok (.ireturn, 1) := by decide +kernel
theorem dL_bid_0 : decode cL_bid 0 = .ok (.aload_n 3, 1) := by decide +kernel
theorem dL_bid_1 : decode cL_bid 1 = .ok (.iconst 0, 1) := by decide +kernel
theorem dL_bid_2 : decode cL_bid 2 = .ok (.aload_n 0, 1) := by decide +kernel
theorem dL_bid_3 : decode cL_bid 3 = .ok (.iload_n 1, 1) := by decide +kernel
theorem dL_bid_4 : decode cL_bid 4 = .ok (.iload_n 2, 1) := by decide +kernel
theorem dL_bid_5 : decode cL_bid 5 = .ok (.invokevirtual 57, 3) := by decide +kernel
theorem dL_bid_8 : decode cL_bid 8 = .ok (.i2l, 1) := by decide +kernel
theorem dL_bid_9 : decode cL_bid 9 = .ok (.lastore, 1) := by decide +kernel
theorem dL_bid_10 : decode cL_bid 10 = .ok (.goto 15, 3) := by decide +kernel
theorem dL_bid_13 : decode cL_bid 13 = .ok (.astore 4, 2) := by decide +kernel
theorem dL_bid_15 : decode cL_bid 15 = .ok (.iconst 1, 1) := by decide +kernel
theorem dL_bid_16 : decode cL_bid 16 = .ok (.ireturn, 1) := by decide +kernel
theorem dL_bid_17 : decode cL_bid 17 = .ok (.astore 4, 2) := by decide +kernel
theorem dL_bid_19 : decode cL_bid 19 = .ok (.iconst 2, 1) := by decide +kernel
theorem dL_bid_20 : decode cL_bid 20 = .ok (.ireturn, 1) := by decide +kernel
theorem dL_bid_21 : decode cL_bid 21 = .ok (.astore 4, 2) := by decide +kernel
theorem dL_bid_23 : decode cL_bid 23 = .ok (.iconst 3, 1) := by decide +kernel
theorem dL_bid_24 : decode cL_bid 24 = .ok (.ireturn, 1) := by decide +kernel
theorem dL_bid_25 : decode cL_bid 25 = .ok (.iconst 0, 1) := by decide +kernel
theorem dL_bid_26 : decode cL_bid 26 = .ok (.ireturn, 1) := by decide +kernel
theorem dL_close_0 : decode cL_close 0 = .ok (.aload_n 1, 1) := by decide +kernel
theorem dL_close_1 : decode cL_close 1 = .ok (.iconst 0, 1) := by decide +kernel
theorem dL_close_2 : decode cL_close 2 = .ok (.aload_n 0, 1) := by decide +kernel
theorem dL_close_3 : decode cL_close 3 = .ok (.invokevirtual 60, 3) := by decide +kernel
theorem dL_close_6 : decode cL_close 6 = .ok (.i2l, 1) := by decide +kernel
theorem dL_close_7 : decode cL_close 7 = .ok (.lastore, 1) := by decide +kernel
theorem dL_close_8 : decode cL_close 8 = .ok (.goto 6, 3) := by decide +kernel
theorem dL_close_11 : decode cL_close 11 = .ok (.astore_n 2, 1) := by decide +kernel
theorem dL_close_12 : decode cL_close 12 = .ok (.iconst 1, 1) := by decide +kernel
theorem dL_close_13 : decode cL_close 13 = .ok (.ireturn, 1) := by decide +kernel
theorem dL_close_14 : decode cL_close 14 = .ok (.iconst 0, 1) := by decide +kernel
theorem dL_close_15 : decode cL_close 15 = .ok (.ireturn, 1) := by decide +kernel
theorem dL_plan_0 : decode cL_plan 0 = .ok (.aload_n 2, 1) := by decide +kernel
theorem dL_plan_1 : decode cL_plan 1 = .ok (.iconst 0, 1) := by decide +kernel
theorem dL_plan_2 : decode cL_plan 2 = .ok (.aload_n 0, 1) := by decide +kernel
theorem dL_plan_3 : decode cL_plan 3 = .ok (.iload_n 1, 1) := by decide +kernel
theorem dL_plan_4 : decode cL_plan 4 = .ok (.invokevirtual 64, 3) := by decide +kernel
theorem dL_plan_7 : decode cL_plan 7 = .ok (.i2l, 1) := by decide +kernel
theorem dL_plan_8 : decode cL_plan 8 = .ok (.lastore, 1) := by decide +kernel
theorem dL_plan_9 : decode cL_plan 9 = .ok (.goto 6, 3) := by decide +kernel
theorem dL_plan_12 : decode cL_plan 12 = .ok (.astore_n 3, 1) := by decide +kernel
theorem dL_plan_13 : decode cL_plan 13 = .ok (.iconst 1, 1) := by decide +kernel
theorem dL_plan_14 : decode cL_plan 14 = .ok (.ireturn, 1) := by decide +kernel
theorem dL_plan_15 : decode cL_plan 15 = .ok (.iconst 0, 1) := by decide +kernel
theorem dL_plan_16 : decode cL_plan 16 = .ok (.ireturn, 1) := by decide +kernel
theorem dL_planAnew_0 : decode cL_planAnew 0 = .ok (.aload_n 2, 1) := by decide +kernel
theorem dL_planAnew_1 : decode cL_planAnew 1 = .ok (.iconst 0, 1) := by decide +kernel
theorem dL_planAnew_2 : decode cL_planAnew 2 = .ok (.aload_n 0, 1) := by decide +kernel
theorem dL_planAnew_3 : decode cL_planAnew 3 = .ok (.iload_n 1, 1) := by decide +kernel
theorem dL_planAnew_4 : decode cL_planAnew 4 = .ok (.invokevirtual 67, 3) := by decide +kernel
theorem dL_planAnew_7 : decode cL_planAnew 7 = .ok (.i2l, 1) := by decide +kernel
theorem dL_planAnew_8 : decode cL_planAnew 8 = .ok (.lastore, 1) := by decide +kernel
theorem dL_planAnew_9 : decode cL_planAnew 9 = .ok (.goto 6, 3) := by decide +kernel
theorem dL_planAnew_12 : decode cL_planAnew 12 = .ok (.astore_n 3, 1) := by decide +kernel
theorem dL_planAnew_13 : decode cL_planAnew 13 = .ok (.iconst 1, 1) := by decide +kernel
theorem dL_planAnew_14 : decode cL_planAnew 14 = .ok (.ireturn, 1) := by decide +kernel
theorem dL_planAnew_15 : decode cL_planAnew 15 = .ok (.iconst 0, 1) := by decide +kernel
theorem dL_planAnew_16 : decode cL_planAnew 16 = .ok (.ireturn, 1) := by decide +kernel
theorem dL_cut_0 : decode cL_cut 0 = .ok (.aload_n 2, 1) := by decide +kernel
theorem dL_cut_1 : decode cL_cut 1 = .ok (.iconst 0, 1) := by decide +kernel
theorem dL_cut_2 : decode cL_cut 2 = .ok (.aload_n 0, 1) := by decide +kernel
theorem dL_cut_3 : decode cL_cut 3 = .ok (.iload_n 1, 1) := by decide +kernel
theorem dL_cut_4 : decode cL_cut 4 = .ok (.invokevirtual 70, 3) := by decide +kernel
theorem dL_cut_7 : decode cL_cut 7 = .ok (.i2l, 1) := by decide +kernel
theorem dL_cut_8 : decode cL_cut 8 = .ok (.lastore, 1) := by decide +kernel
theorem dL_cut_9 : decode cL_cut 9 = .ok (.goto 9, 3) := by decide +kernel
theorem dL_cut_12 : decode cL_cut 12 = .ok (.astore_n 3, 1) := by decide +kernel
theorem dL_cut_13 : decode cL_cut 13 = .ok (.iconst 1, 1) := by decide +kernel
theorem dL_cut_14 : decode cL_cut 14 = .ok (.ireturn, 1) := by decide +kernel
theorem dL_cut_15 : decode cL_cut 15 = .ok (.astore_n 3, 1) := by decide +kernel
theorem dL_cut_16 : decode cL_cut 16 = .ok (.iconst 2, 1) := by decide +kernel
theorem dL_cut_17 : decode cL_cut 17 = .ok (.ireturn, 1) := by decide +kernel
theorem dL_cut_18 : decode cL_cut 18 = .ok (.iconst 0, 1) := by decide +kernel
theorem dL_cut_19 : decode cL_cut 19 = .ok (.ireturn, 1) := by decide +kernel
theorem dL_recut_0 : decode cL_recut 0 = .ok (.aload_n 3, 1) := by decide +kernel
theorem dL_recut_1 : decode cL_recut 1 = .ok (.iconst 0, 1) := by decide +kernel
theorem dL_recut_2 : decode cL_recut 2 = .ok (.aload_n 0, 1) := by decide +kernel
theorem dL_recut_3 : decode cL_recut 3 = .ok (.iload_n 1, 1) := by decide +kernel
theorem dL_recut_4 : decode cL_recut 4 = .ok (.iload_n 2, 1) := by decide +kernel
theorem dL_recut_5 : decode cL_recut 5 = .ok (.invokevirtual 73, 3) := by decide +kernel
theorem dL_recut_8 : decode cL_recut 8 = .ok (.i2l, 1) := by decide +kernel
theorem dL_recut_9 : decode cL_recut 9 = .ok (.lastore, 1) := by decide +kernel
theorem dL_recut_10 : decode cL_recut 10 = .ok (.goto 11, 3) := by decide +kernel
theorem dL_recut_13 : decode cL_recut 13 = .ok (.astore 4, 2) := by decide +kernel
theorem dL_recut_15 : decode cL_recut 15 = .ok (.iconst 1, 1) := by decide +kernel
theorem dL_recut_16 : decode cL_recut 16 = .ok (.ireturn, 1) := by decide +kernel
theorem dL_recut_17 : decode cL_recut 17 = .ok (.astore 4, 2) := by decide +kernel
theorem dL_recut_19 : decode cL_recut 19 = .ok (.iconst 2, 1) := by decide +kernel
theorem dL_recut_20 : decode cL_recut 20 = .ok (.ireturn, 1) := by decide +kernel
theorem dL_recut_21 : decode cL_recut 21 = .ok (.iconst 0, 1) := by decide +kernel
theorem dL_recut_22 : decode cL_recut 22 = .ok (.ireturn, 1) := by decide +kernel
theorem dL_polished_0 : decode cL_polished 0 = .ok (.aload_n 3, 1) := by decide +kernel
theorem dL_polished_1 : decode cL_polished 1 = .ok (.iconst 0, 1) := by decide +kernel
theorem dL_polished_2 : decode cL_polished 2 = .ok (.aload_n 0, 1) := by decide +kernel
theorem dL_polished_3 : decode cL_polished 3 = .ok (.iload_n 1, 1) := by decide +kernel
theorem dL_polished_4 : decode cL_polished 4 = .ok (.iload_n 2, 1) := by decide +kernel
theorem dL_polished_5 : decode cL_polished 5 = .ok (.invokevirtual 76, 3) := by decide +kernel
theorem dL_polished_8 : decode cL_polished 8 = .ok (.i2l, 1) := by decide +kernel
theorem dL_polished_9 : decode cL_polished 9 = .ok (.lastore, 1) := by decide +kernel
theorem dL_polished_10 : decode cL_polished 10 = .ok (.goto 11, 3) := by decide +kernel
theorem dL_polished_13 : decode cL_polished 13 = .ok (.astore 4, 2) := by decide +kernel
theorem dL_polished_15 : decode cL_polished 15 = .ok (.iconst 1, 1) := by decide +kernel
theorem dL_polished_16 : decode cL_polished 16 = .ok (.ireturn, 1) := by decide +kernel
theorem dL_polished_17 : decode cL_polished 17 = .ok (.astore 4, 2) := by decide +kernel
theorem dL_polished_19 : decode cL_polished 19 = .ok (.iconst 2, 1) := by decide +kernel
theorem dL_polished_20 : decode cL_polished 20 = .ok (.ireturn, 1) := by decide +kernel
theorem dL_polished_21 : decode cL_polished 21 = .ok (.iconst 0, 1) := by decide +kernel
theorem dL_polished_22 : decode cL_polished 22 = .ok (.ireturn, 1) := by decide +kernel
theorem dL_scale_0 : decode cL_scale 0 = .ok (.aload_n 3, 1) := by decide +kernel
theorem dL_scale_1 : decode cL_scale 1 = .ok (.iconst 0, 1) := by decide +kernel
theorem dL_scale_2 : decode cL_scale 2 = .ok (.aload_n 0, 1) := by decide +kernel
theorem dL_scale_3 : decode cL_scale 3 = .ok (.iload_n 1, 1) := by decide +kernel
theorem dL_scale_4 : decode cL_scale 4 = .ok (.iload_n 2, 1) := by decide +kernel
theorem dL_scale_5 : decode cL_scale 5 = .ok (.invokevirtual 79, 3) := by decide +kernel
theorem dL_scale_8 : decode cL_scale 8 = .ok (.i2l, 1) := by decide +kernel
theorem dL_scale_9 : decode cL_scale 9 = .ok (.lastore, 1) := by decide +kernel
theorem dL_scale_10 : decode cL_scale 10 = .ok (.goto 11, 3) := by decide +kernel
theorem dL_scale_13 : decode cL_scale 13 = .ok (.astore 4, 2) := by decide +kernel
theorem dL_scale_15 : decode cL_scale 15 = .ok (.iconst 1, 1) := by decide +kernel
theorem dL_scale_16 : decode cL_scale 16 = .ok (.ireturn, 1) := by decide +kernel
theorem dL_scale_17 : decode cL_scale 17 = .ok (.astore 4, 2) := by decide +kernel
theorem dL_scale_19 : decode cL_scale 19 = .ok (.iconst 2, 1) := by decide +kernel
theorem dL_scale_20 : decode cL_scale 20 = .ok (.ireturn, 1) := by decide +kernel
theorem dL_scale_21 : decode cL_scale 21 = .ok (.iconst 0, 1) := by decide +kernel
theorem dL_scale_22 : decode cL_scale 22 = .ok (.ireturn, 1) := by decide +kernel
theorem dL_look_0 : decode cL_look 0 = .ok (.aload_n 3, 1) := by decide +kernel
theorem dL_look_1 : decode cL_look 1 = .ok (.iconst 0, 1) := by decide +kernel
theorem dL_look_2 : decode cL_look 2 = .ok (.aload_n 0, 1) := by decide +kernel
theorem dL_look_3 : decode cL_look 3 = .ok (.iload_n 1, 1) := by decide +kernel
theorem dL_look_4 : decode cL_look 4 = .ok (.iload_n 2, 1) := by decide +kernel
theorem dL_look_5 : decode cL_look 5 = .ok (.invokevirtual 82, 3) := by decide +kernel
theorem dL_look_8 : decode cL_look 8 = .ok (.i2l, 1) := by decide +kernel
theorem dL_look_9 : decode cL_look 9 = .ok (.lastore, 1) := by decide +kernel
theorem dL_look_10 : decode cL_look 10 = .ok (.goto 11, 3) := by decide +kernel
theorem dL_look_13 : decode cL_look 13 = .ok (.astore 4, 2) := by decide +kernel
theorem dL_look_15 : decode cL_look 15 = .ok (.iconst 1, 1) := by decide +kernel
theorem dL_look_16 : decode cL_look 16 = .ok (.ireturn, 1) := by decide +kernel
theorem dL_look_17 : decode cL_look 17 = .ok (.astore 4, 2) := by decide +kernel
theorem dL_look_19 : decode cL_look 19 = .ok (.iconst 2, 1) := by decide +kernel
theorem dL_look_20 : decode cL_look 20 = .ok (.ireturn, 1) := by decide +kernel
theorem dL_look_21 : decode cL_look 21 = .ok (.iconst 0, 1) := by decide +kernel
theorem dL_look_22 : decode cL_look 22 = .ok (.ireturn, 1) := by decide +kernel
theorem dL_paper_0 : decode cL_paper 0 = .ok (.aload_n 3, 1) := by decide +kernel
theorem dL_paper_1 : decode cL_paper 1 = .ok (.iconst 0, 1) := by decide +kernel
theorem dL_paper_2 : decode cL_paper 2 = .ok (.aload_n 0, 1) := by decide +kernel
theorem dL_paper_3 : decode cL_paper 3 = .ok (.iload_n 1, 1) := by decide +kernel
theorem dL_paper_4 : decode cL_paper 4 = .ok (.iload_n 2, 1) := by decide +kernel
theorem dL_paper_5 : decode cL_paper 5 = .ok (.invokevirtual 85, 3) := by decide +kernel
theorem dL_paper_8 : decode cL_paper 8 = .ok (.i2l, 1) := by decide +kernel
theorem dL_paper_9 : decode cL_paper 9 = .ok (.lastore, 1) := by decide +kernel
theorem dL_paper_10 : decode cL_paper 10 = .ok (.goto 11, 3) := by decide +kernel
theorem dL_paper_13 : decode cL_paper 13 = .ok (.astore 4, 2) := by decide +kernel
theorem dL_paper_15 : decode cL_paper 15 = .ok (.iconst 1, 1) := by decide +kernel
theorem dL_paper_16 : decode cL_paper 16 = .ok (.ireturn, 1) := by decide +kernel
theorem dL_paper_17 : decode cL_paper 17 = .ok (.astore 4, 2) := by decide +kernel
theorem dL_paper_19 : decode cL_paper 19 = .ok (.iconst 2, 1) := by decide +kernel
theorem dL_paper_20 : decode cL_paper 20 = .ok (.ireturn, 1) := by decide +kernel
theorem dL_paper_21 : decode cL_paper 21 = .ok (.iconst 0, 1) := by decide +kernel
theorem dL_paper_22 : decode cL_paper 22 = .ok (.ireturn, 1) := by decide +kernel
theorem dL_all_0 : decode cL_all 0 = .ok (.aload_n 2, 1) := by decide +kernel
theorem dL_all_1 : decode cL_all 1 = .ok (.iconst 0, 1) := by decide +kernel
theorem dL_all_2 : decode cL_all 2 = .ok (.aload_n 0, 1) := by decide +kernel
theorem dL_all_3 : decode cL_all 3 = .ok (.iload_n 1, 1) := by decide +kernel
theorem dL_all_4 : decode cL_all 4 = .ok (.invokevirtual 88, 3) := by decide +kernel
theorem dL_all_7 : decode cL_all 7 = .ok (.i2l, 1) := by decide +kernel
theorem dL_all_8 : decode cL_all 8 = .ok (.lastore, 1) := by decide +kernel
theorem dL_all_9 : decode cL_all 9 = .ok (.goto 6, 3) := by decide +kernel
theorem dL_all_12 : decode cL_all 12 = .ok (.astore_n 3, 1) := by decide +kernel
theorem dL_all_13 : decode cL_all 13 = .ok (.iconst 1, 1) := by decide +kernel
theorem dL_all_14 : decode cL_all 14 = .ok (.ireturn, 1) := by decide +kernel
theorem dL_all_15 : decode cL_all 15 = .ok (.iconst 0, 1) := by decide +kernel
theorem dL_all_16 : decode cL_all 16 = .ok (.ireturn, 1) := by decide +kernel
