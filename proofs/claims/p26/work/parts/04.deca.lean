theorem dX5_init_0 : decode cX5_init 0 = .ok (.aload_n 0, 1) := by decide +kernel
theorem dX5_init_1 : decode cX5_init 1 = .ok (.invokespecial 1, 3) := by decide +kernel
theorem dX5_init_4 : decode cX5_init 4 = .ok (.aload_n 0, 1) := by decide +kernel
theorem dX5_init_5 : decode cX5_init 5 = .ok (.bipush 12, 2) := by decide +kernel
theorem dX5_init_7 : decode cX5_init 7 = .ok (.newarray .int, 2) := by decide +kernel
theorem dX5_init_9 : decode cX5_init 9 = .ok (.putfield 9, 3) := by decide +kernel
theorem dX5_init_12 : decode cX5_init 12 = .ok (.aload_n 0, 1) := by decide +kernel
theorem dX5_init_13 : decode cX5_init 13 = .ok (.bipush 40, 2) := by decide +kernel
theorem dX5_init_15 : decode cX5_init 15 = .ok (.anewarray 13, 3) := by decide +kernel
theorem dX5_init_18 : decode cX5_init 18 = .ok (.putfield 15, 3) := by decide +kernel
theorem dX5_init_21 : decode cX5_init 21 = .ok (.aload_n 0, 1) := by decide +kernel
theorem dX5_init_22 : decode cX5_init 22 = .ok (.iconst 4, 1) := by decide +kernel
theorem dX5_init_23 : decode cX5_init 23 = .ok (.newarray .int, 2) := by decide +kernel
theorem dX5_init_25 : decode cX5_init 25 = .ok (.putfield 19, 3) := by decide +kernel
theorem dX5_init_28 : decode cX5_init 28 = .ok (.aload_n 0, 1) := by decide +kernel
theorem dX5_init_29 : decode cX5_init 29 = .ok (.new 22, 3) := by decide +kernel
theorem dX5_init_32 : decode cX5_init 32 = .ok (.dup, 1) := by decide +kernel
theorem dX5_init_33 : decode cX5_init 33 = .ok (.invokespecial 24, 3) := by decide +kernel
theorem dX5_init_36 : decode cX5_init 36 = .ok (.putfield 25, 3) := by decide +kernel
theorem dX5_init_39 : decode cX5_init 39 = .ok (.aload_n 0, 1) := by decide +kernel
theorem dX5_init_40 : decode cX5_init 40 = .ok (.iconst 5, 1) := by decide +kernel
theorem dX5_init_41 : decode cX5_init 41 = .ok (.newarray .int, 2) := by decide +kernel
theorem dX5_init_43 : decode cX5_init 43 = .ok (.putfield 29, 3) := by decide +kernel
theorem dX5_init_46 : decode cX5_init 46 = .ok (.aload_n 0, 1) := by decide +kernel
theorem dX5_init_47 : decode cX5_init 47 = .ok (.iconst 5, 1) := by decide +kernel
theorem dX5_init_48 : decode cX5_init 48 = .ok (.newarray .int, 2) := by decide +kernel
theorem dX5_init_50 : decode cX5_init 50 = .ok (.putfield 32, 3) := by decide +kernel
theorem dX5_init_53 : decode cX5_init 53 = .ok (.aload_n 0, 1) := by decide +kernel
theorem dX5_init_54 : decode cX5_init 54 = .ok (.iconst 5, 1) := by decide +kernel
theorem dX5_init_55 : decode cX5_init 55 = .ok (.newarray .int, 2) := by decide +kernel
theorem dX5_init_57 : decode cX5_init 57 = .ok (.putfield 35, 3) := by decide +kernel
theorem dX5_init_60 : decode cX5_init 60 = .ok (.aload_n 0, 1) := by decide +kernel
theorem dX5_init_61 : decode cX5_init 61 = .ok (.new 38, 3) := by decide +kernel
theorem dX5_init_64 : decode cX5_init 64 = .ok (.dup, 1) := by decide +kernel
theorem dX5_init_65 : decode cX5_init 65 = .ok (.invokespecial 40, 3) := by decide +kernel
theorem dX5_init_68 : decode cX5_init 68 = .ok (.putfield 41, 3) := by decide +kernel
theorem dX5_init_71 : decode cX5_init 71 = .ok (.aload_n 0, 1) := by decide +kernel
theorem dX5_init_72 : decode cX5_init 72 = .ok (.bipush 80, 2) := by decide +kernel
theorem dX5_init_74 : decode cX5_init 74 = .ok (.anewarray 45, 3) := by decide +kernel
theorem dX5_init_77 : decode cX5_init 77 = .ok (.putfield 47, 3) := by decide +kernel
theorem dX5_init_80 : decode cX5_init 80 = .ok (.aload_n 0, 1) := by decide +kernel
theorem dX5_init_81 : decode cX5_init 81 = .ok (.iconst 3, 1) := by decide +kernel
theorem dX5_init_82 : decode cX5_init 82 = .ok (.newarray .int, 2) := by decide +kernel
theorem dX5_init_84 : decode cX5_init 84 = .ok (.putfield 51, 3) := by decide +kernel
theorem dX5_init_87 : decode cX5_init 87 = .ok (.aload_n 0, 1) := by decide +kernel
theorem dX5_init_88 : decode cX5_init 88 = .ok (.iconst 4, 1) := by decide +kernel
theorem dX5_init_89 : decode cX5_init 89 = .ok (.newarray .int, 2) := by decide +kernel
theorem dX5_init_91 : decode cX5_init 91 = .ok (.putfield 54, 3) := by decide +kernel
theorem dX5_init_94 : decode cX5_init 94 = .ok (.aload_n 0, 1) := by decide +kernel
theorem dX5_init_95 : decode cX5_init 95 = .ok (.iconst 4, 1) := by decide +kernel
theorem dX5_init_96 : decode cX5_init 96 = .ok (.newarray .int, 2) := by decide +kernel
theorem dX5_init_98 : decode cX5_init 98 = .ok (.putfield 57, 3) := by decide +kernel
theorem dX5_init_101 : decode cX5_init 101 = .ok (.aload_n 0, 1) := by decide +kernel
theorem dX5_init_102 : decode cX5_init 102 = .ok (.getfield 29, 3) := by decide +kernel
theorem dX5_init_105 : decode cX5_init 105 = .ok (.bipush 50, 2) := by decide +kernel
theorem dX5_init_107 : decode cX5_init 107 = .ok (.invokestatic 60, 3) := by decide +kernel
theorem dX5_init_110 : decode cX5_init 110 = .ok (.aload_n 0, 1) := by decide +kernel
theorem dX5_init_111 : decode cX5_init 111 = .ok (.getfield 32, 3) := by decide +kernel
theorem dX5_init_114 : decode cX5_init 114 = .ok (.iconst (-1), 1) := by decide +kernel
theorem dX5_init_115 : decode cX5_init 115 = .ok (.invokestatic 60, 3) := by decide +kernel
theorem dX5_init_118 : decode cX5_init 118 = .ok (.return_, 1) := by decide +kernel
theorem dX5_parcel_0 : decode cX5_parcel 0 = .ok (.iload_n 1, 1) := by decide +kernel
theorem dX5_parcel_1 : decode cX5_parcel 1 = .ok (.iconst 4, 1) := by decide +kernel
theorem dX5_parcel_2 : decode cX5_parcel 2 = .ok (.invokestatic 66, 3) := by decide +kernel
theorem dX5_parcel_5 : decode cX5_parcel 5 = .ok (.aload_n 0, 1) := by decide +kernel
theorem dX5_parcel_6 : decode cX5_parcel 6 = .ok (.getfield 70, 3) := by decide +kernel
theorem dX5_parcel_9 : decode cX5_parcel 9 = .ok (.aload_n 0, 1) := by decide +kernel
theorem dX5_parcel_10 : decode cX5_parcel 10 = .ok (.getfield 9, 3) := by decide +kernel
theorem dX5_parcel_13 : decode cX5_parcel 13 = .ok (.arraylength, 1) := by decide +kernel
theorem dX5_parcel_14 : decode cX5_parcel 14 = .ok (.invokestatic 74, 3) := by decide +kernel
theorem dX5_parcel_17 : decode cX5_parcel 17 = .ok (.ifCond .ne 13, 3) := by decide +kernel
theorem dX5_parcel_20 : decode cX5_parcel 20 = .ok (.new 78, 3) := by decide +kernel
theorem dX5_parcel_23 : decode cX5_parcel 23 = .ok (.dup, 1) := by decide +kernel
theorem dX5_parcel_24 : decode cX5_parcel 24 = .ok (.ldc 80, 2) := by decide +kernel
theorem dX5_parcel_26 : decode cX5_parcel 26 = .ok (.invokespecial 82, 3) := by decide +kernel
theorem dX5_parcel_29 : decode cX5_parcel 29 = .ok (.athrow, 1) := by decide +kernel
theorem dX5_parcel_30 : decode cX5_parcel 30 = .ok (.aload_n 0, 1) := by decide +kernel
theorem dX5_parcel_31 : decode cX5_parcel 31 = .ok (.getfield 70, 3) := by decide +kernel
theorem dX5_parcel_34 : decode cX5_parcel 34 = .ok (.istore_n 2, 1) := by decide +kernel
theorem dX5_parcel_35 : decode cX5_parcel 35 = .ok (.aload_n 0, 1) := by decide +kernel
theorem dX5_parcel_36 : decode cX5_parcel 36 = .ok (.getfield 9, 3) := by decide +kernel
theorem dX5_parcel_39 : decode cX5_parcel 39 = .ok (.iload_n 2, 1) := by decide +kernel
theorem dX5_parcel_40 : decode cX5_parcel 40 = .ok (.iload_n 1, 1) := by decide +kernel
theorem dX5_parcel_41 : decode cX5_parcel 41 = .ok (.iastore, 1) := by decide +kernel
theorem dX5_parcel_42 : decode cX5_parcel 42 = .ok (.aload_n 0, 1) := by decide +kernel
theorem dX5_parcel_43 : decode cX5_parcel 43 = .ok (.dup, 1) := by decide +kernel
theorem dX5_parcel_44 : decode cX5_parcel 44 = .ok (.getfield 70, 3) := by decide +kernel
theorem dX5_parcel_47 : decode cX5_parcel 47 = .ok (.iconst 1, 1) := by decide +kernel
theorem dX5_parcel_48 : decode cX5_parcel 48 = .ok (.iadd, 1) := by decide +kernel
theorem dX5_parcel_49 : decode cX5_parcel 49 = .ok (.putfield 70, 3) := by decide +kernel
theorem dX5_parcel_52 : decode cX5_parcel 52 = .ok (.iload_n 2, 1) := by decide +kernel
theorem dX5_parcel_53 : decode cX5_parcel 53 = .ok (.ireturn, 1) := by decide +kernel
theorem dX5_stone_0 : decode cX5_stone 0 = .ok (.iload_n 1, 1) := by decide +kernel
theorem dX5_stone_1 : decode cX5_stone 1 = .ok (.aload_n 0, 1) := by decide +kernel
theorem dX5_stone_2 : decode cX5_stone 2 = .ok (.getfield 70, 3) := by decide +kernel
theorem dX5_stone_5 : decode cX5_stone 5 = .ok (.invokestatic 66, 3) := by decide +kernel
theorem dX5_stone_8 : decode cX5_stone 8 = .ok (.iload_n 2, 1) := by decide +kernel
theorem dX5_stone_9 : decode cX5_stone 9 = .ok (.bipush 12, 2) := by decide +kernel
theorem dX5_stone_11 : decode cX5_stone 11 = .ok (.sipush 9999, 3) := by decide +kernel
theorem dX5_stone_14 : decode cX5_stone 14 = .ok (.invokestatic 85, 3) := by decide +kernel
theorem dX5_stone_17 : decode cX5_stone 17 = .ok (.iload_n 3, 1) := by decide +kernel
theorem dX5_stone_18 : decode cX5_stone 18 = .ok (.iconst 0, 1) := by decide +kernel
theorem dX5_stone_19 : decode cX5_stone 19 = .ok (.bipush 9, 2) := by decide +kernel
theorem dX5_stone_21 : decode cX5_stone 21 = .ok (.invokestatic 85, 3) := by decide +kernel
theorem dX5_stone_24 : decode cX5_stone 24 = .ok (.iload 4, 2) := by decide +kernel
theorem dX5_stone_26 : decode cX5_stone 26 = .ok (.iconst 0, 1) := by decide +kernel
theorem dX5_stone_27 : decode cX5_stone 27 = .ok (.bipush 9, 2) := by decide +kernel
theorem dX5_stone_29 : decode cX5_stone 29 = .ok (.invokestatic 85, 3) := by decide +kernel
theorem dX5_stone_32 : decode cX5_stone 32 = .ok (.iload 5, 2) := by decide +kernel
theorem dX5_stone_34 : decode cX5_stone 34 = .ok (.iconst 0, 1) := by decide +kernel
theorem dX5_stone_35 : decode cX5_stone 35 = .ok (.sipush 4095, 3) := by decide +kernel
theorem dX5_stone_38 : decode cX5_stone 38 = .ok (.invokestatic 85, 3) := by decide +kernel
theorem dX5_stone_41 : decode cX5_stone 41 = .ok (.aload_n 0, 1) := by decide +kernel
theorem dX5_stone_42 : decode cX5_stone 42 = .ok (.getfield 89, 3) := by decide +kernel
theorem dX5_stone_45 : decode cX5_stone 45 = .ok (.aload_n 0, 1) := by decide +kernel
theorem dX5_stone_46 : decode cX5_stone 46 = .ok (.getfield 15, 3) := by decide +kernel
theorem dX5_stone_49 : decode cX5_stone 49 = .ok (.arraylength, 1) := by decide +kernel
theorem dX5_stone_50 : decode cX5_stone 50 = .ok (.invokestatic 74, 3) := by decide +kernel
theorem dX5_stone_53 : decode cX5_stone 53 = .ok (.ifCond .ne 13, 3) := by decide +kernel
theorem dX5_stone_56 : decode cX5_stone 56 = .ok (.new 78, 3) := by decide +kernel
theorem dX5_stone_59 : decode cX5_stone 59 = .ok (.dup, 1) := by decide +kernel
theorem dX5_stone_60 : decode cX5_stone 60 = .ok (.ldc 92, 2) := by decide +kernel
theorem dX5_stone_62 : decode cX5_stone 62 = .ok (.invokespecial 82, 3) := by decide +kernel
theorem dX5_stone_65 : decode cX5_stone 65 = .ok (.athrow, 1) := by decide +kernel
theorem dX5_stone_66 : decode cX5_stone 66 = .ok (.aload_n 0, 1) := by decide +kernel
theorem dX5_stone_67 : decode cX5_stone 67 = .ok (.getfield 89, 3) := by decide +kernel
theorem dX5_stone_70 : decode cX5_stone 70 = .ok (.istore 6, 2) := by decide +kernel
theorem dX5_stone_72 : decode cX5_stone 72 = .ok (.aload_n 0, 1) := by decide +kernel
theorem dX5_stone_73 : decode cX5_stone 73 = .ok (.iload_n 1, 1) := by decide +kernel
theorem dX5_stone_74 : decode cX5_stone 74 = .ok (.invokevirtual 94, 3) := by decide +kernel
theorem dX5_stone_77 : decode cX5_stone 77 = .ok (.istore 7, 2) := by decide +kernel
theorem dX5_stone_79 : decode cX5_stone 79 = .ok (.aload_n 0, 1) := by decide +kernel
theorem dX5_stone_80 : decode cX5_stone 80 = .ok (.getfield 15, 3) := by decide +kernel
theorem dX5_stone_83 : decode cX5_stone 83 = .ok (.iload 6, 2) := by decide +kernel
theorem dX5_stone_85 : decode cX5_stone 85 = .ok (.new 13, 3) := by decide +kernel
theorem dX5_stone_88 : decode cX5_stone 88 = .ok (.dup, 1) := by decide +kernel
theorem dX5_stone_89 : decode cX5_stone 89 = .ok (.iload 6, 2) := by decide +kernel
theorem dX5_stone_91 : decode cX5_stone 91 = .ok (.iload_n 1, 1) := by decide +kernel
theorem dX5_stone_92 : decode cX5_stone 92 = .ok (.iload 7, 2) := by decide +kernel
theorem dX5_stone_94 : decode cX5_stone 94 = .ok (.iload_n 2, 1) := by decide +kernel
theorem dX5_stone_95 : decode cX5_stone 95 = .ok (.iload_n 3, 1) := by decide +kernel
theorem dX5_stone_96 : decode cX5_stone 96 = .ok (.iload 4, 2) := by decide +kernel
theorem dX5_stone_98 : decode cX5_stone 98 = .ok (.iload 5, 2) := by decide +kernel
theorem dX5_stone_100 : decode cX5_stone 100 = .ok (.invokespecial 98, 3) := by decide +kernel
theorem dX5_stone_103 : decode cX5_stone 103 = .ok (.aastore, 1) := by decide +kernel
theorem dX5_stone_104 : decode cX5_stone 104 = .ok (.aload_n 0, 1) := by decide +kernel
theorem dX5_stone_105 : decode cX5_stone 105 = .ok (.dup, 1) := by decide +kernel
theorem dX5_stone_106 : decode cX5_stone 106 = .ok (.getfield 89, 3) := by decide +kernel
theorem dX5_stone_109 : decode cX5_stone 109 = .ok (.iconst 1, 1) := by decide +kernel
theorem dX5_stone_110 : decode cX5_stone 110 = .ok (.iadd, 1) := by decide +kernel
theorem dX5_stone_111 : decode cX5_stone 111 = .ok (.putfield 89, 3) := by decide +kernel
theorem dX5_stone_114 : decode cX5_stone 114 = .ok (.aload_n 0, 1) := by decide +kernel
theorem dX5_stone_115 : decode cX5_stone 115 = .ok (.getfield 54, 3) := by decide +kernel
theorem dX5_stone_118 : decode cX5_stone 118 = .ok (.iload 7, 2) := by decide +kernel
theorem dX5_stone_120 : decode cX5_stone 120 = .ok (.iload_n 2, 1) := by decide +kernel
theorem dX5_stone_121 : decode cX5_stone 121 = .ok (.invokestatic 101, 3) := by decide +kernel
theorem dX5_stone_124 : decode cX5_stone 124 = .ok (.iload 6, 2) := by decide +kernel
theorem dX5_stone_126 : decode cX5_stone 126 = .ok (.ireturn, 1) := by decide +kernel
theorem dX5_drift_0 : decode cX5_drift 0 = .ok (.iload_n 1, 1) := by decide +kernel
theorem dX5_drift_1 : decode cX5_drift 1 = .ok (.aload_n 0, 1) := by decide +kernel
theorem dX5_drift_2 : decode cX5_drift 2 = .ok (.getfield 19, 3) := by decide +kernel
theorem dX5_drift_5 : decode cX5_drift 5 = .ok (.arraylength, 1) := by decide +kernel
theorem dX5_drift_6 : decode cX5_drift 6 = .ok (.invokestatic 66, 3) := by decide +kernel
theorem dX5_drift_9 : decode cX5_drift 9 = .ok (.iload_n 2, 1) := by decide +kernel
theorem dX5_drift_10 : decode cX5_drift 10 = .ok (.bipush (-2), 2) := by decide +kernel
theorem dX5_drift_12 : decode cX5_drift 12 = .ok (.iconst 2, 1) := by decide +kernel
theorem dX5_drift_13 : decode cX5_drift 13 = .ok (.invokestatic 85, 3) := by decide +kernel
theorem dX5_drift_16 : decode cX5_drift 16 = .ok (.aload_n 0, 1) := by decide +kernel
theorem dX5_drift_17 : decode cX5_drift 17 = .ok (.getfield 19, 3) := by decide +kernel
theorem dX5_drift_20 : decode cX5_drift 20 = .ok (.iload_n 1, 1) := by decide +kernel
theorem dX5_drift_21 : decode cX5_drift 21 = .ok (.iaload, 1) := by decide +kernel
theorem dX5_drift_22 : decode cX5_drift 22 = .ok (.istore_n 3, 1) := by decide +kernel
theorem dX5_drift_23 : decode cX5_drift 23 = .ok (.aload_n 0, 1) := by decide +kernel
theorem dX5_drift_24 : decode cX5_drift 24 = .ok (.getfield 19, 3) := by decide +kernel
theorem dX5_drift_27 : decode cX5_drift 27 = .ok (.iload_n 1, 1) := by decide +kernel
theorem dX5_drift_28 : decode cX5_drift 28 = .ok (.iload_n 2, 1) := by decide +kernel
theorem dX5_drift_29 : decode cX5_drift 29 = .ok (.iastore, 1) := by decide +kernel
theorem dX5_drift_30 : decode cX5_drift 30 = .ok (.iload_n 3, 1) := by decide +kernel
theorem dX5_drift_31 : decode cX5_drift 31 = .ok (.ireturn, 1) := by decide +kernel
theorem dX5_sort_0 : decode cX5_sort 0 = .ok (.iload_n 1, 1) := by decide +kernel
theorem dX5_sort_1 : decode cX5_sort 1 = .ok (.aload_n 0, 1) := by decide +kernel
theorem dX5_sort_2 : decode cX5_sort 2 = .ok (.getfield 19, 3) := by decide +kernel
theorem dX5_sort_5 : decode cX5_sort 5 = .ok (.arraylength, 1) := by decide +kernel
theorem dX5_sort_6 : decode cX5_sort 6 = .ok (.invokestatic 66, 3) := by decide +kernel
theorem dX5_sort_9 : decode cX5_sort 9 = .ok (.aload_n 0, 1) := by decide +kernel
theorem dX5_sort_10 : decode cX5_sort 10 = .ok (.iload_n 2, 1) := by decide +kernel
theorem dX5_sort_11 : decode cX5_sort 11 = .ok (.invokevirtual 105, 3) := by decide +kernel
theorem dX5_sort_14 : decode cX5_sort 14 = .ok (.astore_n 3, 1) := by decide +kernel
theorem dX5_sort_15 : decode cX5_sort 15 = .ok (.aload_n 3, 1) := by decide +kernel
theorem dX5_sort_16 : decode cX5_sort 16 = .ok (.getfield 109, 3) := by decide +kernel
theorem dX5_sort_19 : decode cX5_sort 19 = .ok (.ifCond .ne 24, 3) := by decide +kernel
theorem dX5_sort_22 : decode cX5_sort 22 = .ok (.aload_n 3, 1) := by decide +kernel
theorem dX5_sort_23 : decode cX5_sort 23 = .ok (.getfield 112, 3) := by decide +kernel
theorem dX5_sort_26 : decode cX5_sort 26 = .ok (.invokevirtual 116, 3) := by decide +kernel
theorem dX5_sort_29 : decode cX5_sort 29 = .ok (.ifCond .ne 14, 3) := by decide +kernel
theorem dX5_sort_32 : decode cX5_sort 32 = .ok (.aload_n 3, 1) := by decide +kernel
theorem dX5_sort_33 : decode cX5_sort 33 = .ok (.getfield 112, 3) := by decide +kernel
theorem dX5_sort_36 : decode cX5_sort 36 = .ok (.iload_n 1, 1) := by decide +kernel
theorem dX5_sort_37 : decode cX5_sort 37 = .ok (.invokevirtual 122, 3) := by decide +kernel
theorem dX5_sort_40 : decode cX5_sort 40 = .ok (.ifCond .eq 13, 3) := by decide +kernel
theorem dX5_sort_43 : decode cX5_sort 43 = .ok (.new 78, 3) := by decide +kernel
theorem dX5_sort_46 : decode cX5_sort 46 = .ok (.dup, 1) := by decide +kernel
theorem dX5_sort_47 : decode cX5_sort 47 = .ok (.ldc 126, 2) := by decide +kernel
theorem dX5_sort_49 : decode cX5_sort 49 = .ok (.invokespecial 82, 3) := by decide +kernel
theorem dX5_sort_52 : decode cX5_sort 52 = .ok (.athrow, 1) := by decide +kernel
theorem dX5_sort_53 : decode cX5_sort 53 = .ok (.aload_n 3, 1) := by decide +kernel
theorem dX5_sort_54 : decode cX5_sort 54 = .ok (.getfield 128, 3) := by decide +kernel
theorem dX5_sort_57 : decode cX5_sort 57 = .ok (.aload_n 3, 1) := by decide +kernel
theorem dX5_sort_58 : decode cX5_sort 58 = .ok (.getfield 131, 3) := by decide +kernel
theorem dX5_sort_61 : decode cX5_sort 61 = .ok (.iadd, 1) := by decide +kernel
theorem dX5_sort_62 : decode cX5_sort 62 = .ok (.aload_n 0, 1) := by decide +kernel
theorem dX5_sort_63 : decode cX5_sort 63 = .ok (.getfield 19, 3) := by decide +kernel
theorem dX5_sort_66 : decode cX5_sort 66 = .ok (.iload_n 1, 1) := by decide +kernel
theorem dX5_sort_67 : decode cX5_sort 67 = .ok (.iaload, 1) := by decide +kernel
theorem dX5_sort_68 : decode cX5_sort 68 = .ok (.iadd, 1) := by decide +kernel
theorem dX5_sort_69 : decode cX5_sort 69 = .ok (.iconst 0, 1) := by decide +kernel
theorem dX5_sort_70 : decode cX5_sort 70 = .ok (.bipush 18, 2) := by decide +kernel
theorem dX5_sort_72 : decode cX5_sort 72 = .ok (.invokestatic 134, 3) := by decide +kernel
theorem dX5_sort_75 : decode cX5_sort 75 = .ok (.istore 4, 2) := by decide +kernel
theorem dX5_sort_77 : decode cX5_sort 77 = .ok (.aload_n 3, 1) := by decide +kernel
theorem dX5_sort_78 : decode cX5_sort 78 = .ok (.getfield 112, 3) := by decide +kernel
theorem dX5_sort_81 : decode cX5_sort 81 = .ok (.iload_n 1, 1) := by decide +kernel
theorem dX5_sort_82 : decode cX5_sort 82 = .ok (.iload 4, 2) := by decide +kernel
theorem dX5_sort_84 : decode cX5_sort 84 = .ok (.invokevirtual 138, 3) := by decide +kernel
theorem dX5_sort_87 : decode cX5_sort 87 = .ok (.iload 4, 2) := by decide +kernel
theorem dX5_sort_89 : decode cX5_sort 89 = .ok (.ireturn, 1) := by decide +kernel
theorem dX5_price_0 : decode cX5_price 0 = .ok (.iload_n 1, 1) := by decide +kernel
theorem dX5_price_1 : decode cX5_price 1 = .ok (.iconst 4, 1) := by decide +kernel
theorem dX5_price_2 : decode cX5_price 2 = .ok (.invokestatic 66, 3) := by decide +kernel
theorem dX5_price_5 : decode cX5_price 5 = .ok (.iload_n 2, 1) := by decide +kernel
theorem dX5_price_6 : decode cX5_price 6 = .ok (.bipush 19, 2) := by decide +kernel
theorem dX5_price_8 : decode cX5_price 8 = .ok (.invokestatic 66, 3) := by decide +kernel
theorem dX5_price_11 : decode cX5_price 11 = .ok (.iload_n 3, 1) := by decide +kernel
theorem dX5_price_12 : decode cX5_price 12 = .ok (.iconst 1, 1) := by decide +kernel
theorem dX5_price_13 : decode cX5_price 13 = .ok (.ldc 141, 2) := by decide +kernel
theorem dX5_price_15 : decode cX5_price 15 = .ok (.invokestatic 85, 3) := by decide +kernel
theorem dX5_price_18 : decode cX5_price 18 = .ok (.aload_n 0, 1) := by decide +kernel
theorem dX5_price_19 : decode cX5_price 19 = .ok (.getfield 25, 3) := by decide +kernel
theorem dX5_price_22 : decode cX5_price 22 = .ok (.iload_n 1, 1) := by decide +kernel
theorem dX5_price_23 : decode cX5_price 23 = .ok (.iload_n 2, 1) := by decide +kernel
theorem dX5_price_24 : decode cX5_price 24 = .ok (.invokevirtual 142, 3) := by decide +kernel
theorem dX5_price_27 : decode cX5_price 27 = .ok (.istore 4, 2) := by decide +kernel
theorem dX5_price_29 : decode cX5_price 29 = .ok (.aload_n 0, 1) := by decide +kernel
theorem dX5_price_30 : decode cX5_price 30 = .ok (.getfield 25, 3) := by decide +kernel
theorem dX5_price_33 : decode cX5_price 33 = .ok (.iload_n 1, 1) := by decide +kernel
theorem dX5_price_34 : decode cX5_price 34 = .ok (.iload_n 2, 1) := by decide +kernel
theorem dX5_price_35 : decode cX5_price 35 = .ok (.iload_n 3, 1) := by decide +kernel
theorem dX5_price_36 : decode cX5_price 36 = .ok (.invokevirtual 146, 3) := by decide +kernel
theorem dX5_price_39 : decode cX5_price 39 = .ok (.iload 4, 2) := by decide +kernel
theorem dX5_price_41 : decode cX5_price 41 = .ok (.ireturn, 1) := by decide +kernel
theorem dX5_value_0 : decode cX5_value 0 = .ok (.aload_n 0, 1) := by decide +kernel
theorem dX5_value_1 : decode cX5_value 1 = .ok (.getfield 25, 3) := by decide +kernel
theorem dX5_value_4 : decode cX5_value 4 = .ok (.aload_n 0, 1) := by decide +kernel
theorem dX5_value_5 : decode cX5_value 5 = .ok (.iload_n 1, 1) := by decide +kernel
theorem dX5_value_6 : decode cX5_value 6 = .ok (.invokevirtual 105, 3) := by decide +kernel
theorem dX5_value_9 : decode cX5_value 9 = .ok (.invokevirtual 149, 3) := by decide +kernel
theorem dX5_value_12 : decode cX5_value 12 = .ok (.ireturn, 1) := by decide +kernel
theorem dX5_stoneIs_0 : decode cX5_stoneIs 0 = .ok (.aload_n 0, 1) := by decide +kernel
theorem dX5_stoneIs_1 : decode cX5_stoneIs 1 = .ok (.iload_n 1, 1) := by decide +kernel
theorem dX5_stoneIs_2 : decode cX5_stoneIs 2 = .ok (.invokevirtual 105, 3) := by decide +kernel
theorem dX5_stoneIs_5 : decode cX5_stoneIs 5 = .ok (.astore_n 3, 1) := by decide +kernel
theorem dX5_stoneIs_6 : decode cX5_stoneIs 6 = .ok (.iload_n 2, 1) := by decide +kernel
theorem dX5_stoneIs_7 : decode cX5_stoneIs 7 = .ok (.tableswitch 84 0 6 #[41, 46, 51, 64, 69, 74, 79], 41) := by decide +kernel
theorem dX5_stoneIs_48 : decode cX5_stoneIs 48 = .ok (.aload_n 3, 1) := by decide +kernel
theorem dX5_stoneIs_49 : decode cX5_stoneIs 49 = .ok (.getfield 109, 3) := by decide +kernel
theorem dX5_stoneIs_52 : decode cX5_stoneIs 52 = .ok (.ireturn, 1) := by decide +kernel
theorem dX5_stoneIs_53 : decode cX5_stoneIs 53 = .ok (.aload_n 3, 1) := by decide +kernel
theorem dX5_stoneIs_54 : decode cX5_stoneIs 54 = .ok (.invokevirtual 153, 3) := by decide +kernel
theorem dX5_stoneIs_57 : decode cX5_stoneIs 57 = .ok (.ireturn, 1) := by decide +kernel
theorem dX5_stoneIs_58 : decode cX5_stoneIs 58 = .ok (.aload_n 3, 1) := by decide +kernel
theorem dX5_stoneIs_59 : decode cX5_stoneIs 59 = .ok (.invokevirtual 157, 3) := by decide +kernel
theorem dX5_stoneIs_62 : decode cX5_stoneIs 62 = .ok (.ifCond .eq 7, 3) := by decide +kernel
theorem dX5_stoneIs_65 : decode cX5_stoneIs 65 = .ok (.iconst 1, 1) := by decide +kernel
theorem dX5_stoneIs_66 : decode cX5_stoneIs 66 = .ok (.goto 4, 3) := by decide +kernel
theorem dX5_stoneIs_69 : decode cX5_stoneIs 69 = .ok (.iconst 0, 1) := by decide +kernel
theorem dX5_stoneIs_70 : decode cX5_stoneIs 70 = .ok (.ireturn, 1) := by decide +kernel
theorem dX5_stoneIs_71 : decode cX5_stoneIs 71 = .ok (.aload_n 3, 1) := by decide +kernel
theorem dX5_stoneIs_72 : decode cX5_stoneIs 72 = .ok (.getfield 160, 3) := by decide +kernel
theorem dX5_stoneIs_75 : decode cX5_stoneIs 75 = .ok (.ireturn, 1) := by decide +kernel
theorem dX5_stoneIs_76 : decode cX5_stoneIs 76 = .ok (.aload_n 3, 1) := by decide +kernel
theorem dX5_stoneIs_77 : decode cX5_stoneIs 77 = .ok (.getfield 163, 3) := by decide +kernel
theorem dX5_stoneIs_80 : decode cX5_stoneIs 80 = .ok (.ireturn, 1) := by decide +kernel
theorem dX5_stoneIs_81 : decode cX5_stoneIs 81 = .ok (.aload_n 3, 1) := by decide +kernel
theorem dX5_stoneIs_82 : decode cX5_stoneIs 82 = .ok (.getfield 166, 3) := by decide +kernel
theorem dX5_stoneIs_85 : decode cX5_stoneIs 85 = .ok (.ireturn, 1) := by decide +kernel
theorem dX5_stoneIs_86 : decode cX5_stoneIs 86 = .ok (.aload_n 3, 1) := by decide +kernel
theorem dX5_stoneIs_87 : decode cX5_stoneIs 87 = .ok (.getfield 169, 3) := by decide +kernel
theorem dX5_stoneIs_90 : decode cX5_stoneIs 90 = .ok (.ireturn, 1) := by decide +kernel
theorem dX5_stoneIs_91 : decode cX5_stoneIs 91 = .ok (.new 172, 3) := by decide +kernel
theorem dX5_stoneIs_94 : decode cX5_stoneIs 94 = .ok (.dup, 1) := by decide +kernel
theorem dX5_stoneIs_95 : decode cX5_stoneIs 95 = .ok (.ldc 174, 2) := by decide +kernel
theorem dX5_stoneIs_97 : decode cX5_stoneIs 97 = .ok (.invokespecial 176, 3) := by decide +kernel
theorem dX5_stoneIs_100 : decode cX5_stoneIs 100 = .ok (.athrow, 1) := by decide +kernel
theorem dX5_boxes_0 : decode cX5_boxes 0 = .ok (.iload_n 1, 1) := by decide +kernel
theorem dX5_boxes_1 : decode cX5_boxes 1 = .ok (.iconst 1, 1) := by decide +kernel
theorem dX5_boxes_2 : decode cX5_boxes 2 = .ok (.iconst 5, 1) := by decide +kernel
theorem dX5_boxes_3 : decode cX5_boxes 3 = .ok (.invokestatic 85, 3) := by decide +kernel
theorem dX5_boxes_6 : decode cX5_boxes 6 = .ok (.aload_n 0, 1) := by decide +kernel
theorem dX5_boxes_7 : decode cX5_boxes 7 = .ok (.invokevirtual 177, 3) := by decide +kernel
theorem dX5_boxes_10 : decode cX5_boxes 10 = .ok (.aload_n 0, 1) := by decide +kernel
theorem dX5_boxes_11 : decode cX5_boxes 11 = .ok (.iload_n 1, 1) := by decide +kernel
theorem dX5_boxes_12 : decode cX5_boxes 12 = .ok (.putfield 180, 3) := by decide +kernel
theorem dX5_boxes_15 : decode cX5_boxes 15 = .ok (.aload_n 0, 1) := by decide +kernel
theorem dX5_boxes_16 : decode cX5_boxes 16 = .ok (.invokevirtual 183, 3) := by decide +kernel
theorem dX5_boxes_19 : decode cX5_boxes 19 = .ok (.istore_n 2, 1) := by decide +kernel
theorem dX5_boxes_20 : decode cX5_boxes 20 = .ok (.aload_n 0, 1) := by decide +kernel
theorem dX5_boxes_21 : decode cX5_boxes 21 = .ok (.invokevirtual 186, 3) := by decide +kernel
theorem dX5_boxes_24 : decode cX5_boxes 24 = .ok (.iload_n 2, 1) := by decide +kernel
theorem dX5_boxes_25 : decode cX5_boxes 25 = .ok (.ireturn, 1) := by decide +kernel
theorem dX5_boxValue_0 : decode cX5_boxValue 0 = .ok (.iload_n 1, 1) := by decide +kernel
theorem dX5_boxValue_1 : decode cX5_boxValue 1 = .ok (.aload_n 0, 1) := by decide +kernel
theorem dX5_boxValue_2 : decode cX5_boxValue 2 = .ok (.getfield 180, 3) := by decide +kernel
theorem dX5_boxValue_5 : decode cX5_boxValue 5 = .ok (.invokestatic 66, 3) := by decide +kernel
theorem dX5_boxValue_8 : decode cX5_boxValue 8 = .ok (.aload_n 0, 1) := by decide +kernel
theorem dX5_boxValue_9 : decode cX5_boxValue 9 = .ok (.iload_n 1, 1) := by decide +kernel
theorem dX5_boxValue_10 : decode cX5_boxValue 10 = .ok (.invokevirtual 189, 3) := by decide +kernel
theorem dX5_boxValue_13 : decode cX5_boxValue 13 = .ok (.ifCond .ne 5, 3) := by decide +kernel
theorem dX5_boxValue_16 : decode cX5_boxValue 16 = .ok (.iconst (-1), 1) := by decide +kernel
theorem dX5_boxValue_17 : decode cX5_boxValue 17 = .ok (.ireturn, 1) := by decide +kernel
theorem dX5_boxValue_18 : decode cX5_boxValue 18 = .ok (.iconst 0, 1) := by decide +kernel
theorem dX5_boxValue_19 : decode cX5_boxValue 19 = .ok (.istore_n 2, 1) := by decide +kernel
theorem dX5_boxValue_20 : decode cX5_boxValue 20 = .ok (.aload_n 0, 1) := by decide +kernel
theorem dX5_boxValue_21 : decode cX5_boxValue 21 = .ok (.getfield 15, 3) := by decide +kernel
theorem dX5_boxValue_24 : decode cX5_boxValue 24 = .ok (.astore_n 3, 1) := by decide +kernel
theorem dX5_boxValue_25 : decode cX5_boxValue 25 = .ok (.aload_n 3, 1) := by decide +kernel
theorem dX5_boxValue_26 : decode cX5_boxValue 26 = .ok (.arraylength, 1) := by decide +kernel
theorem dX5_boxValue_27 : decode cX5_boxValue 27 = .ok (.istore 4, 2) := by decide +kernel
theorem dX5_boxValue_29 : decode cX5_boxValue 29 = .ok (.iconst 0, 1) := by decide +kernel
theorem dX5_boxValue_30 : decode cX5_boxValue 30 = .ok (.istore 5, 2) := by decide +kernel
theorem dX5_boxValue_32 : decode cX5_boxValue 32 = .ok (.iload 5, 2) := by decide +kernel
theorem dX5_boxValue_34 : decode cX5_boxValue 34 = .ok (.iload 4, 2) := by decide +kernel
theorem dX5_boxValue_36 : decode cX5_boxValue 36 = .ok (.if_icmp .ge 41, 3) := by decide +kernel
theorem dX5_boxValue_39 : decode cX5_boxValue 39 = .ok (.aload_n 3, 1) := by decide +kernel
theorem dX5_boxValue_40 : decode cX5_boxValue 40 = .ok (.iload 5, 2) := by decide +kernel
theorem dX5_boxValue_42 : decode cX5_boxValue 42 = .ok (.aaload, 1) := by decide +kernel
theorem dX5_boxValue_43 : decode cX5_boxValue 43 = .ok (.astore 6, 2) := by decide +kernel
theorem dX5_boxValue_45 : decode cX5_boxValue 45 = .ok (.aload 6, 2) := by decide +kernel
theorem dX5_boxValue_47 : decode cX5_boxValue 47 = .ok (.ifnull 24, 3) := by decide +kernel
theorem dX5_boxValue_50 : decode cX5_boxValue 50 = .ok (.aload 6, 2) := by decide +kernel
theorem dX5_boxValue_52 : decode cX5_boxValue 52 = .ok (.getfield 163, 3) := by decide +kernel
theorem dX5_boxValue_55 : decode cX5_boxValue 55 = .ok (.iload_n 1, 1) := by decide +kernel
theorem dX5_boxValue_56 : decode cX5_boxValue 56 = .ok (.if_icmp .ne 15, 3) := by decide +kernel
theorem dX5_boxValue_59 : decode cX5_boxValue 59 = .ok (.iload_n 2, 1) := by decide +kernel
theorem dX5_boxValue_60 : decode cX5_boxValue 60 = .ok (.aload_n 0, 1) := by decide +kernel
theorem dX5_boxValue_61 : decode cX5_boxValue 61 = .ok (.getfield 25, 3) := by decide +kernel
theorem dX5_boxValue_64 : decode cX5_boxValue 64 = .ok (.aload 6, 2) := by decide +kernel
theorem dX5_boxValue_66 : decode cX5_boxValue 66 = .ok (.invokevirtual 149, 3) := by decide +kernel
theorem dX5_boxValue_69 : decode cX5_boxValue 69 = .ok (.iadd, 1) := by decide +kernel
theorem dX5_boxValue_70 : decode cX5_boxValue 70 = .ok (.istore_n 2, 1) := by decide +kernel
theorem dX5_boxValue_71 : decode cX5_boxValue 71 = .ok (.iinc 5 1, 3) := by decide +kernel
theorem dX5_boxValue_74 : decode cX5_boxValue 74 = .ok (.goto (-42), 3) := by decide +kernel
theorem dX5_boxValue_77 : decode cX5_boxValue 77 = .ok (.iload_n 2, 1) := by decide +kernel
theorem dX5_boxValue_78 : decode cX5_boxValue 78 = .ok (.ireturn, 1) := by decide +kernel
theorem dX5_offered_0 : decode cX5_offered 0 = .ok (.iload_n 1, 1) := by decide +kernel
theorem dX5_offered_1 : decode cX5_offered 1 = .ok (.aload_n 0, 1) := by decide +kernel
theorem dX5_offered_2 : decode cX5_offered 2 = .ok (.getfield 32, 3) := by decide +kernel
theorem dX5_offered_5 : decode cX5_offered 5 = .ok (.arraylength, 1) := by decide +kernel
theorem dX5_offered_6 : decode cX5_offered 6 = .ok (.invokestatic 66, 3) := by decide +kernel
theorem dX5_offered_9 : decode cX5_offered 9 = .ok (.aload_n 0, 1) := by decide +kernel
theorem dX5_offered_10 : decode cX5_offered 10 = .ok (.getfield 32, 3) := by decide +kernel
theorem dX5_offered_13 : decode cX5_offered 13 = .ok (.iload_n 1, 1) := by decide +kernel
theorem dX5_offered_14 : decode cX5_offered 14 = .ok (.iaload, 1) := by decide +kernel
theorem dX5_offered_15 : decode cX5_offered 15 = .ok (.ireturn, 1) := by decide +kernel
theorem dX5_take_0 : decode cX5_take 0 = .ok (.iload_n 1, 1) := by decide +kernel
theorem dX5_take_1 : decode cX5_take 1 = .ok (.aload_n 0, 1) := by decide +kernel
theorem dX5_take_2 : decode cX5_take 2 = .ok (.getfield 32, 3) := by decide +kernel
theorem dX5_take_5 : decode cX5_take 5 = .ok (.arraylength, 1) := by decide +kernel
theorem dX5_take_6 : decode cX5_take 6 = .ok (.invokestatic 66, 3) := by decide +kernel
theorem dX5_take_9 : decode cX5_take 9 = .ok (.aload_n 0, 1) := by decide +kernel
theorem dX5_take_10 : decode cX5_take 10 = .ok (.getfield 32, 3) := by decide +kernel
theorem dX5_take_13 : decode cX5_take 13 = .ok (.iload_n 1, 1) := by decide +kernel
theorem dX5_take_14 : decode cX5_take 14 = .ok (.iaload, 1) := by decide +kernel
theorem dX5_take_15 : decode cX5_take 15 = .ok (.istore_n 3, 1) := by decide +kernel
theorem dX5_take_16 : decode cX5_take 16 = .ok (.iload_n 3, 1) := by decide +kernel
theorem dX5_take_17 : decode cX5_take 17 = .ok (.iconst (-1), 1) := by decide +kernel
theorem dX5_take_18 : decode cX5_take 18 = .ok (.if_icmp .ne 13, 3) := by decide +kernel
theorem dX5_take_21 : decode cX5_take 21 = .ok (.new 78, 3) := by decide +kernel
theorem dX5_take_24 : decode cX5_take 24 = .ok (.dup, 1) := by decide +kernel
theorem dX5_take_25 : decode cX5_take 25 = .ok (.ldc 192, 2) := by decide +kernel
theorem dX5_take_27 : decode cX5_take 27 = .ok (.invokespecial 82, 3) := by decide +kernel
theorem dX5_take_30 : decode cX5_take 30 = .ok (.athrow, 1) := by decide +kernel
theorem dX5_take_31 : decode cX5_take 31 = .ok (.aload_n 0, 1) := by decide +kernel
theorem dX5_take_32 : decode cX5_take 32 = .ok (.getfield 15, 3) := by decide +kernel
theorem dX5_take_35 : decode cX5_take 35 = .ok (.astore 4, 2) := by decide +kernel
theorem dX5_take_37 : decode cX5_take 37 = .ok (.aload 4, 2) := by decide +kernel
theorem dX5_take_39 : decode cX5_take 39 = .ok (.arraylength, 1) := by decide +kernel
theorem dX5_take_40 : decode cX5_take 40 = .ok (.istore 5, 2) := by decide +kernel
theorem dX5_take_42 : decode cX5_take 42 = .ok (.iconst 0, 1) := by decide +kernel
theorem dX5_take_43 : decode cX5_take 43 = .ok (.istore 6, 2) := by decide +kernel
theorem dX5_take_45 : decode cX5_take 45 = .ok (.iload 6, 2) := by decide +kernel
theorem dX5_take_47 : decode cX5_take 47 = .ok (.iload 5, 2) := by decide +kernel
theorem dX5_take_49 : decode cX5_take 49 = .ok (.if_icmp .ge 45, 3) := by decide +kernel
theorem dX5_take_52 : decode cX5_take 52 = .ok (.aload 4, 2) := by decide +kernel
theorem dX5_take_54 : decode cX5_take 54 = .ok (.iload 6, 2) := by decide +kernel
theorem dX5_take_56 : decode cX5_take 56 = .ok (.aaload, 1) := by decide +kernel
theorem dX5_take_57 : decode cX5_take 57 = .ok (.astore 7, 2) := by decide +kernel
theorem dX5_take_59 : decode cX5_take 59 = .ok (.aload 7, 2) := by decide +kernel
theorem dX5_take_61 : decode cX5_take 61 = .ok (.ifnull 27, 3) := by decide +kernel
theorem dX5_take_64 : decode cX5_take 64 = .ok (.aload 7, 2) := by decide +kernel
theorem dX5_take_66 : decode cX5_take 66 = .ok (.getfield 163, 3) := by decide +kernel
theorem dX5_take_69 : decode cX5_take 69 = .ok (.iload_n 3, 1) := by decide +kernel
theorem dX5_take_70 : decode cX5_take 70 = .ok (.if_icmp .ne 18, 3) := by decide +kernel
theorem dX5_take_73 : decode cX5_take 73 = .ok (.aload 7, 2) := by decide +kernel
theorem dX5_take_75 : decode cX5_take 75 = .ok (.invokevirtual 194, 3) := by decide +kernel
theorem dX5_take_78 : decode cX5_take 78 = .ok (.iload_n 2, 1) := by decide +kernel
theorem dX5_take_79 : decode cX5_take 79 = .ok (.ifCond .eq 9, 3) := by decide +kernel
theorem dX5_take_82 : decode cX5_take 82 = .ok (.aload 7, 2) := by decide +kernel
theorem dX5_take_84 : decode cX5_take 84 = .ok (.iload_n 1, 1) := by decide +kernel
theorem dX5_take_85 : decode cX5_take 85 = .ok (.invokevirtual 197, 3) := by decide +kernel
theorem dX5_take_88 : decode cX5_take 88 = .ok (.iinc 6 1, 3) := by decide +kernel
theorem dX5_take_91 : decode cX5_take 91 = .ok (.goto (-46), 3) := by decide +kernel
theorem dX5_take_94 : decode cX5_take 94 = .ok (.aload_n 0, 1) := by decide +kernel
theorem dX5_take_95 : decode cX5_take 95 = .ok (.getfield 32, 3) := by decide +kernel
theorem dX5_take_98 : decode cX5_take 98 = .ok (.iload_n 1, 1) := by decide +kernel
theorem dX5_take_99 : decode cX5_take 99 = .ok (.iconst (-1), 1) := by decide +kernel
theorem dX5_take_100 : decode cX5_take 100 = .ok (.iastore, 1) := by decide +kernel
theorem dX5_take_101 : decode cX5_take 101 = .ok (.aload_n 0, 1) := by decide +kernel
theorem dX5_take_102 : decode cX5_take 102 = .ok (.iload_n 1, 1) := by decide +kernel
theorem dX5_take_103 : decode cX5_take 103 = .ok (.iload_n 2, 1) := by decide +kernel
theorem dX5_take_104 : decode cX5_take 104 = .ok (.ifCond .eq 7, 3) := by decide +kernel
theorem dX5_take_107 : decode cX5_take 107 = .ok (.iconst 5, 1) := by decide +kernel
theorem dX5_take_108 : decode cX5_take 108 = .ok (.goto 5, 3) := by decide +kernel
theorem dX5_take_111 : decode cX5_take 111 = .ok (.bipush (-10), 2) := by decide +kernel
theorem dX5_take_113 : decode cX5_take 113 = .ok (.invokevirtual 201, 3) := by decide +kernel
theorem dX5_take_116 : decode cX5_take 116 = .ok (.ireturn, 1) := by decide +kernel
theorem dX5_tender_0 : decode cX5_tender 0 = .ok (.aload_n 0, 1) := by decide +kernel
theorem dX5_tender_1 : decode cX5_tender 1 = .ok (.iload_n 1, 1) := by decide +kernel
theorem dX5_tender_2 : decode cX5_tender 2 = .ok (.invokevirtual 105, 3) := by decide +kernel
theorem dX5_tender_5 : decode cX5_tender 5 = .ok (.astore_n 3, 1) := by decide +kernel
theorem dX5_tender_6 : decode cX5_tender 6 = .ok (.iload_n 2, 1) := by decide +kernel
theorem dX5_tender_7 : decode cX5_tender 7 = .ok (.iconst 0, 1) := by decide +kernel
theorem dX5_tender_8 : decode cX5_tender 8 = .ok (.ldc 204, 2) := by decide +kernel
theorem dX5_tender_10 : decode cX5_tender 10 = .ok (.invokestatic 85, 3) := by decide +kernel
theorem dX5_tender_13 : decode cX5_tender 13 = .ok (.aload_n 3, 1) := by decide +kernel
theorem dX5_tender_14 : decode cX5_tender 14 = .ok (.getfield 109, 3) := by decide +kernel
theorem dX5_tender_17 : decode cX5_tender 17 = .ok (.ifCond .ne 13, 3) := by decide +kernel
theorem dX5_tender_20 : decode cX5_tender 20 = .ok (.aload_n 0, 1) := by decide +kernel
theorem dX5_tender_21 : decode cX5_tender 21 = .ok (.getfield 41, 3) := by decide +kernel
theorem dX5_tender_24 : decode cX5_tender 24 = .ok (.invokevirtual 205, 3) := by decide +kernel
theorem dX5_tender_27 : decode cX5_tender 27 = .ok (.ifCond .eq 13, 3) := by decide +kernel
theorem dX5_tender_30 : decode cX5_tender 30 = .ok (.new 78, 3) := by decide +kernel
theorem dX5_tender_33 : decode cX5_tender 33 = .ok (.dup, 1) := by decide +kernel
theorem dX5_tender_34 : decode cX5_tender 34 = .ok (.ldc 208, 2) := by decide +kernel
theorem dX5_tender_36 : decode cX5_tender 36 = .ok (.invokespecial 82, 3) := by decide +kernel
theorem dX5_tender_39 : decode cX5_tender 39 = .ok (.athrow, 1) := by decide +kernel
theorem dX5_tender_40 : decode cX5_tender 40 = .ok (.aload_n 0, 1) := by decide +kernel
theorem dX5_tender_41 : decode cX5_tender 41 = .ok (.getfield 41, 3) := by decide +kernel
theorem dX5_tender_44 : decode cX5_tender 44 = .ok (.aload_n 3, 1) := by decide +kernel
theorem dX5_tender_45 : decode cX5_tender 45 = .ok (.iload_n 2, 1) := by decide +kernel
theorem dX5_tender_46 : decode cX5_tender 46 = .ok (.invokevirtual 210, 3) := by decide +kernel
theorem dX5_tender_49 : decode cX5_tender 49 = .ok (.return_, 1) := by decide +kernel
theorem dX5_bid_0 : decode cX5_bid 0 = .ok (.iload_n 1, 1) := by decide +kernel
theorem dX5_bid_1 : decode cX5_bid 1 = .ok (.iconst 5, 1) := by decide +kernel
theorem dX5_bid_2 : decode cX5_bid 2 = .ok (.invokestatic 66, 3) := by decide +kernel
theorem dX5_bid_5 : decode cX5_bid 5 = .ok (.iload_n 2, 1) := by decide +kernel
theorem dX5_bid_6 : decode cX5_bid 6 = .ok (.iconst 1, 1) := by decide +kernel
theorem dX5_bid_7 : decode cX5_bid 7 = .ok (.ldc 204, 2) := by decide +kernel
theorem dX5_bid_9 : decode cX5_bid 9 = .ok (.invokestatic 85, 3) := by decide +kernel
theorem dX5_bid_12 : decode cX5_bid 12 = .ok (.aload_n 0, 1) := by decide +kernel
theorem dX5_bid_13 : decode cX5_bid 13 = .ok (.getfield 41, 3) := by decide +kernel
theorem dX5_bid_16 : decode cX5_bid 16 = .ok (.invokevirtual 205, 3) := by decide +kernel
theorem dX5_bid_19 : decode cX5_bid 19 = .ok (.ifCond .ne 13, 3) := by decide +kernel
theorem dX5_bid_22 : decode cX5_bid 22 = .ok (.new 78, 3) := by decide +kernel
theorem dX5_bid_25 : decode cX5_bid 25 = .ok (.dup, 1) := by decide +kernel
theorem dX5_bid_26 : decode cX5_bid 26 = .ok (.ldc 214, 2) := by decide +kernel
theorem dX5_bid_28 : decode cX5_bid 28 = .ok (.invokespecial 82, 3) := by decide +kernel
theorem dX5_bid_31 : decode cX5_bid 31 = .ok (.athrow, 1) := by decide +kernel
theorem dX5_bid_32 : decode cX5_bid 32 = .ok (.aload_n 0, 1) := by decide +kernel
theorem dX5_bid_33 : decode cX5_bid 33 = .ok (.getfield 41, 3) := by decide +kernel
theorem dX5_bid_36 : decode cX5_bid 36 = .ok (.iload_n 1, 1) := by decide +kernel
theorem dX5_bid_37 : decode cX5_bid 37 = .ok (.invokevirtual 216, 3) := by decide +kernel
theorem dX5_bid_40 : decode cX5_bid 40 = .ok (.istore_n 3, 1) := by decide +kernel
theorem dX5_bid_41 : decode cX5_bid 41 = .ok (.aload_n 0, 1) := by decide +kernel
theorem dX5_bid_42 : decode cX5_bid 42 = .ok (.getfield 41, 3) := by decide +kernel
theorem dX5_bid_45 : decode cX5_bid 45 = .ok (.iload_n 1, 1) := by decide +kernel
theorem dX5_bid_46 : decode cX5_bid 46 = .ok (.iload_n 2, 1) := by decide +kernel
theorem dX5_bid_47 : decode cX5_bid 47 = .ok (.invokevirtual 219, 3) := by decide +kernel
theorem dX5_bid_50 : decode cX5_bid 50 = .ok (.iload_n 3, 1) := by decide +kernel
theorem dX5_bid_51 : decode cX5_bid 51 = .ok (.ireturn, 1) := by decide +kernel
theorem dX5_close_0 : decode cX5_close 0 = .ok (.aload_n 0, 1) := by decide +kernel
theorem dX5_close_1 : decode cX5_close 1 = .ok (.getfield 41, 3) := by decide +kernel
theorem dX5_close_4 : decode cX5_close 4 = .ok (.getfield 222, 3) := by decide +kernel
theorem dX5_close_7 : decode cX5_close 7 = .ok (.astore_n 1, 1) := by decide +kernel
theorem dX5_close_8 : decode cX5_close 8 = .ok (.aload_n 1, 1) := by decide +kernel
theorem dX5_close_9 : decode cX5_close 9 = .ok (.ifnonnull 13, 3) := by decide +kernel
theorem dX5_close_12 : decode cX5_close 12 = .ok (.new 78, 3) := by decide +kernel
theorem dX5_close_15 : decode cX5_close 15 = .ok (.dup, 1) := by decide +kernel
theorem dX5_close_16 : decode cX5_close 16 = .ok (.ldc 214, 2) := by decide +kernel
theorem dX5_close_18 : decode cX5_close 18 = .ok (.invokespecial 82, 3) := by decide +kernel
theorem dX5_close_21 : decode cX5_close 21 = .ok (.athrow, 1) := by decide +kernel
theorem dX5_close_22 : decode cX5_close 22 = .ok (.aload_n 0, 1) := by decide +kernel
theorem dX5_close_23 : decode cX5_close 23 = .ok (.invokevirtual 226, 3) := by decide +kernel
theorem dX5_close_26 : decode cX5_close 26 = .ok (.istore_n 2, 1) := by decide +kernel
theorem dX5_close_27 : decode cX5_close 27 = .ok (.iload_n 2, 1) := by decide +kernel
theorem dX5_close_28 : decode cX5_close 28 = .ok (.iconst (-1), 1) := by decide +kernel
theorem dX5_close_29 : decode cX5_close 29 = .ok (.if_icmp .eq 20, 3) := by decide +kernel
theorem dX5_close_32 : decode cX5_close 32 = .ok (.aload_n 1, 1) := by decide +kernel
theorem dX5_close_33 : decode cX5_close 33 = .ok (.aload_n 0, 1) := by decide +kernel
theorem dX5_close_34 : decode cX5_close 34 = .ok (.getfield 41, 3) := by decide +kernel
theorem dX5_close_37 : decode cX5_close 37 = .ok (.iload_n 2, 1) := by decide +kernel
theorem dX5_close_38 : decode cX5_close 38 = .ok (.invokevirtual 229, 3) := by decide +kernel
theorem dX5_close_41 : decode cX5_close 41 = .ok (.putfield 169, 3) := by decide +kernel
theorem dX5_close_44 : decode cX5_close 44 = .ok (.aload_n 1, 1) := by decide +kernel
theorem dX5_close_45 : decode cX5_close 45 = .ok (.iload_n 2, 1) := by decide +kernel
theorem dX5_close_46 : decode cX5_close 46 = .ok (.invokevirtual 197, 3) := by decide +kernel
theorem dX5_close_49 : decode cX5_close 49 = .ok (.aload_n 0, 1) := by decide +kernel
theorem dX5_close_50 : decode cX5_close 50 = .ok (.getfield 41, 3) := by decide +kernel
theorem dX5_close_53 : decode cX5_close 53 = .ok (.invokevirtual 232, 3) := by decide +kernel
theorem dX5_close_56 : decode cX5_close 56 = .ok (.iload_n 2, 1) := by decide +kernel
theorem dX5_close_57 : decode cX5_close 57 = .ok (.ireturn, 1) := by decide +kernel
theorem dX5_plan_0 : decode cX5_plan 0 = .ok (.aload_n 0, 1) := by decide +kernel
theorem dX5_plan_1 : decode cX5_plan 1 = .ok (.iload_n 1, 1) := by decide +kernel
theorem dX5_plan_2 : decode cX5_plan 2 = .ok (.invokevirtual 105, 3) := by decide +kernel
theorem dX5_plan_5 : decode cX5_plan 5 = .ok (.getfield 235, 3) := by decide +kernel
theorem dX5_plan_8 : decode cX5_plan 8 = .ok (.istore_n 2, 1) := by decide +kernel
theorem dX5_plan_9 : decode cX5_plan 9 = .ok (.iconst 0, 1) := by decide +kernel
theorem dX5_plan_10 : decode cX5_plan 10 = .ok (.istore_n 3, 1) := by decide +kernel
theorem dX5_plan_11 : decode cX5_plan 11 = .ok (.iconst 0, 1) := by decide +kernel
theorem dX5_plan_12 : decode cX5_plan 12 = .ok (.istore 4, 2) := by decide +kernel
theorem dX5_plan_14 : decode cX5_plan 14 = .ok (.iload 4, 2) := by decide +kernel
theorem dX5_plan_16 : decode cX5_plan 16 = .ok (.bipush 12, 2) := by decide +kernel
theorem dX5_plan_18 : decode cX5_plan 18 = .ok (.if_icmp .ge 25, 3) := by decide +kernel
theorem dX5_plan_21 : decode cX5_plan 21 = .ok (.iload_n 2, 1) := by decide +kernel
theorem dX5_plan_22 : decode cX5_plan 22 = .ok (.iload 4, 2) := by decide +kernel
theorem dX5_plan_24 : decode cX5_plan 24 = .ok (.invokestatic 238, 3) := by decide +kernel
theorem dX5_plan_27 : decode cX5_plan 27 = .ok (.istore 5, 2) := by decide +kernel
theorem dX5_plan_29 : decode cX5_plan 29 = .ok (.iload_n 3, 1) := by decide +kernel
theorem dX5_plan_30 : decode cX5_plan 30 = .ok (.iload 5, 2) := by decide +kernel
theorem dX5_plan_32 : decode cX5_plan 32 = .ok (.iload 5, 2) := by decide +kernel
theorem dX5_plan_34 : decode cX5_plan 34 = .ok (.imul, 1) := by decide +kernel
theorem dX5_plan_35 : decode cX5_plan 35 = .ok (.iadd, 1) := by decide +kernel
theorem dX5_plan_36 : decode cX5_plan 36 = .ok (.istore_n 3, 1) := by decide +kernel
theorem dX5_plan_37 : decode cX5_plan 37 = .ok (.iinc 4 1, 3) := by decide +kernel
theorem dX5_plan_40 : decode cX5_plan 40 = .ok (.goto (-26), 3) := by decide +kernel
theorem dX5_plan_43 : decode cX5_plan 43 = .ok (.iload_n 3, 1) := by decide +kernel
theorem dX5_plan_44 : decode cX5_plan 44 = .ok (.ireturn, 1) := by decide +kernel
theorem dX5_planAnew_0 : decode cX5_planAnew 0 = .ok (.aload_n 0, 1) := by decide +kernel
theorem dX5_planAnew_1 : decode cX5_planAnew 1 = .ok (.iload_n 1, 1) := by decide +kernel
theorem dX5_planAnew_2 : decode cX5_planAnew 2 = .ok (.invokevirtual 105, 3) := by decide +kernel
theorem dX5_planAnew_5 : decode cX5_planAnew 5 = .ok (.getfield 235, 3) := by decide +kernel
theorem dX5_planAnew_8 : decode cX5_planAnew 8 = .ok (.istore_n 2, 1) := by decide +kernel
theorem dX5_planAnew_9 : decode cX5_planAnew 9 = .ok (.iconst 0, 1) := by decide +kernel
theorem dX5_planAnew_10 : decode cX5_planAnew 10 = .ok (.istore_n 3, 1) := by decide +kernel
theorem dX5_planAnew_11 : decode cX5_planAnew 11 = .ok (.iconst 0, 1) := by decide +kernel
theorem dX5_planAnew_12 : decode cX5_planAnew 12 = .ok (.istore 4, 2) := by decide +kernel
theorem dX5_planAnew_14 : decode cX5_planAnew 14 = .ok (.iload 4, 2) := by decide +kernel
theorem dX5_planAnew_16 : decode cX5_planAnew 16 = .ok (.sipush 4095, 3) := by decide +kernel
theorem dX5_planAnew_19 : decode cX5_planAnew 19 = .ok (.if_icmp .gt 27, 3) := by decide +kernel
theorem dX5_planAnew_22 : decode cX5_planAnew 22 = .ok (.iload 4, 2) := by decide +kernel
theorem dX5_planAnew_24 : decode cX5_planAnew 24 = .ok (.iload_n 2, 1) := by decide +kernel
theorem dX5_planAnew_25 : decode cX5_planAnew 25 = .ok (.iand, 1) := by decide +kernel
theorem dX5_planAnew_26 : decode cX5_planAnew 26 = .ok (.iload_n 2, 1) := by decide +kernel
theorem dX5_planAnew_27 : decode cX5_planAnew 27 = .ok (.if_icmp .ne 13, 3) := by decide +kernel
theorem dX5_planAnew_30 : decode cX5_planAnew 30 = .ok (.iload_n 3, 1) := by decide +kernel
theorem dX5_planAnew_31 : decode cX5_planAnew 31 = .ok (.iload 4, 2) := by decide +kernel
theorem dX5_planAnew_33 : decode cX5_planAnew 33 = .ok (.invokestatic 241, 3) := by decide +kernel
theorem dX5_planAnew_36 : decode cX5_planAnew 36 = .ok (.invokestatic 244, 3) := by decide +kernel
theorem dX5_planAnew_39 : decode cX5_planAnew 39 = .ok (.istore_n 3, 1) := by decide +kernel
theorem dX5_planAnew_40 : decode cX5_planAnew 40 = .ok (.iinc 4 1, 3) := by decide +kernel
theorem dX5_planAnew_43 : decode cX5_planAnew 43 = .ok (.goto (-29), 3) := by decide +kernel
theorem dX5_planAnew_46 : decode cX5_planAnew 46 = .ok (.iload_n 3, 1) := by decide +kernel
theorem dX5_planAnew_47 : decode cX5_planAnew 47 = .ok (.ireturn, 1) := by decide +kernel
theorem dX5_cut_0 : decode cX5_cut 0 = .ok (.aload_n 0, 1) := by decide +kernel
theorem dX5_cut_1 : decode cX5_cut 1 = .ok (.iload_n 1, 1) := by decide +kernel
theorem dX5_cut_2 : decode cX5_cut 2 = .ok (.invokevirtual 105, 3) := by decide +kernel
theorem dX5_cut_5 : decode cX5_cut 5 = .ok (.astore_n 2, 1) := by decide +kernel
theorem dX5_cut_6 : decode cX5_cut 6 = .ok (.aload_n 2, 1) := by decide +kernel
theorem dX5_cut_7 : decode cX5_cut 7 = .ok (.getfield 109, 3) := by decide +kernel
theorem dX5_cut_10 : decode cX5_cut 10 = .ok (.iconst 1, 1) := by decide +kernel
theorem dX5_cut_11 : decode cX5_cut 11 = .ok (.if_icmp .eq 11, 3) := by decide +kernel
theorem dX5_cut_14 : decode cX5_cut 14 = .ok (.aload_n 2, 1) := by decide +kernel
theorem dX5_cut_15 : decode cX5_cut 15 = .ok (.getfield 109, 3) := by decide +kernel
theorem dX5_cut_18 : decode cX5_cut 18 = .ok (.iconst 3, 1) := by decide +kernel
theorem dX5_cut_19 : decode cX5_cut 19 = .ok (.if_icmp .ne 13, 3) := by decide +kernel
theorem dX5_cut_22 : decode cX5_cut 22 = .ok (.new 78, 3) := by decide +kernel
theorem dX5_cut_25 : decode cX5_cut 25 = .ok (.dup, 1) := by decide +kernel
theorem dX5_cut_26 : decode cX5_cut 26 = .ok (.ldc 249, 2) := by decide +kernel
theorem dX5_cut_28 : decode cX5_cut 28 = .ok (.invokespecial 82, 3) := by decide +kernel
theorem dX5_cut_31 : decode cX5_cut 31 = .ok (.athrow, 1) := by decide +kernel
theorem dX5_cut_32 : decode cX5_cut 32 = .ok (.aload_n 2, 1) := by decide +kernel
theorem dX5_cut_33 : decode cX5_cut 33 = .ok (.getfield 235, 3) := by decide +kernel
theorem dX5_cut_36 : decode cX5_cut 36 = .ok (.invokestatic 251, 3) := by decide +kernel
theorem dX5_cut_39 : decode cX5_cut 39 = .ok (.istore_n 3, 1) := by decide +kernel
theorem dX5_cut_40 : decode cX5_cut 40 = .ok (.aload_n 0, 1) := by decide +kernel
theorem dX5_cut_41 : decode cX5_cut 41 = .ok (.getfield 254, 3) := by decide +kernel
theorem dX5_cut_44 : decode cX5_cut 44 = .ok (.iload_n 3, 1) := by decide +kernel
theorem dX5_cut_45 : decode cX5_cut 45 = .ok (.iadd, 1) := by decide +kernel
theorem dX5_cut_46 : decode cX5_cut 46 = .ok (.bipush 80, 2) := by decide +kernel
theorem dX5_cut_48 : decode cX5_cut 48 = .ok (.if_icmp .le 14, 3) := by decide +kernel
theorem dX5_cut_51 : decode cX5_cut 51 = .ok (.new 78, 3) := by decide +kernel
theorem dX5_cut_54 : decode cX5_cut 54 = .ok (.dup, 1) := by decide +kernel
theorem dX5_cut_55 : decode cX5_cut 55 = .ok (.ldc_w 257, 3) := by decide +kernel
theorem dX5_cut_58 : decode cX5_cut 58 = .ok (.invokespecial 82, 3) := by decide +kernel
theorem dX5_cut_61 : decode cX5_cut 61 = .ok (.athrow, 1) := by decide +kernel
theorem dX5_cut_62 : decode cX5_cut 62 = .ok (.aload_n 0, 1) := by decide +kernel
theorem dX5_cut_63 : decode cX5_cut 63 = .ok (.dup, 1) := by decide +kernel
theorem dX5_cut_64 : decode cX5_cut 64 = .ok (.getfield 259, 3) := by decide +kernel
theorem dX5_cut_67 : decode cX5_cut 67 = .ok (.aload_n 2, 1) := by decide +kernel
theorem dX5_cut_68 : decode cX5_cut 68 = .ok (.getfield 262, 3) := by decide +kernel
theorem dX5_cut_71 : decode cX5_cut 71 = .ok (.iadd, 1) := by decide +kernel
theorem dX5_cut_72 : decode cX5_cut 72 = .ok (.putfield 259, 3) := by decide +kernel
theorem dX5_cut_75 : decode cX5_cut 75 = .ok (.iconst 0, 1) := by decide +kernel
theorem dX5_cut_76 : decode cX5_cut 76 = .ok (.istore 4, 2) := by decide +kernel
theorem dX5_cut_78 : decode cX5_cut 78 = .ok (.iload 4, 2) := by decide +kernel
theorem dX5_cut_80 : decode cX5_cut 80 = .ok (.bipush 12, 2) := by decide +kernel
theorem dX5_cut_82 : decode cX5_cut 82 = .ok (.if_icmp .ge 41, 3) := by decide +kernel
theorem dX5_cut_85 : decode cX5_cut 85 = .ok (.aload_n 2, 1) := by decide +kernel
theorem dX5_cut_86 : decode cX5_cut 86 = .ok (.getfield 235, 3) := by decide +kernel
theorem dX5_cut_89 : decode cX5_cut 89 = .ok (.iload 4, 2) := by decide +kernel
theorem dX5_cut_91 : decode cX5_cut 91 = .ok (.invokestatic 238, 3) := by decide +kernel
theorem dX5_cut_94 : decode cX5_cut 94 = .ok (.istore 5, 2) := by decide +kernel
theorem dX5_cut_96 : decode cX5_cut 96 = .ok (.iload 5, 2) := by decide +kernel
theorem dX5_cut_98 : decode cX5_cut 98 = .ok (.ifCond .le 19, 3) := by decide +kernel
theorem dX5_cut_101 : decode cX5_cut 101 = .ok (.aload_n 0, 1) := by decide +kernel
theorem dX5_cut_102 : decode cX5_cut 102 = .ok (.new 45, 3) := by decide +kernel
theorem dX5_cut_105 : decode cX5_cut 105 = .ok (.dup, 1) := by decide +kernel
theorem dX5_cut_106 : decode cX5_cut 106 = .ok (.aload_n 2, 1) := by decide +kernel
theorem dX5_cut_107 : decode cX5_cut 107 = .ok (.iload 4, 2) := by decide +kernel
theorem dX5_cut_109 : decode cX5_cut 109 = .ok (.iload 5, 2) := by decide +kernel
theorem dX5_cut_111 : decode cX5_cut 111 = .ok (.invokespecial 265, 3) := by decide +kernel
theorem dX5_cut_114 : decode cX5_cut 114 = .ok (.invokevirtual 268, 3) := by decide +kernel
theorem dX5_cut_117 : decode cX5_cut 117 = .ok (.iinc 4 1, 3) := by decide +kernel
theorem dX5_cut_120 : decode cX5_cut 120 = .ok (.goto (-42), 3) := by decide +kernel
theorem dX5_cut_123 : decode cX5_cut 123 = .ok (.aload_n 2, 1) := by decide +kernel
theorem dX5_cut_124 : decode cX5_cut 124 = .ok (.iconst 3, 1) := by decide +kernel
theorem dX5_cut_125 : decode cX5_cut 125 = .ok (.putfield 109, 3) := by decide +kernel
theorem dX5_cut_128 : decode cX5_cut 128 = .ok (.aload_n 0, 1) := by decide +kernel
theorem dX5_cut_129 : decode cX5_cut 129 = .ok (.aload_n 2, 1) := by decide +kernel
theorem dX5_cut_130 : decode cX5_cut 130 = .ok (.invokevirtual 272, 3) := by decide +kernel
theorem dX5_cut_133 : decode cX5_cut 133 = .ok (.iload_n 3, 1) := by decide +kernel
theorem dX5_cut_134 : decode cX5_cut 134 = .ok (.ireturn, 1) := by decide +kernel
theorem dX5_recut_0 : decode cX5_recut 0 = .ok (.aload_n 0, 1) := by decide +kernel
theorem dX5_recut_1 : decode cX5_recut 1 = .ok (.iload_n 1, 1) := by decide +kernel
theorem dX5_recut_2 : decode cX5_recut 2 = .ok (.invokevirtual 276, 3) := by decide +kernel
theorem dX5_recut_5 : decode cX5_recut 5 = .ok (.astore_n 3, 1) := by decide +kernel
theorem dX5_recut_6 : decode cX5_recut 6 = .ok (.iload_n 2, 1) := by decide +kernel
theorem dX5_recut_7 : decode cX5_recut 7 = .ok (.iconst 1, 1) := by decide +kernel
theorem dX5_recut_8 : decode cX5_recut 8 = .ok (.aload_n 3, 1) := by decide +kernel
theorem dX5_recut_9 : decode cX5_recut 9 = .ok (.getfield 280, 3) := by decide +kernel
theorem dX5_recut_12 : decode cX5_recut 12 = .ok (.iconst 1, 1) := by decide +kernel
theorem dX5_recut_13 : decode cX5_recut 13 = .ok (.isub, 1) := by decide +kernel
theorem dX5_recut_14 : decode cX5_recut 14 = .ok (.invokestatic 85, 3) := by decide +kernel
theorem dX5_recut_17 : decode cX5_recut 17 = .ok (.aload_n 3, 1) := by decide +kernel
theorem dX5_recut_18 : decode cX5_recut 18 = .ok (.getfield 280, 3) := by decide +kernel
theorem dX5_recut_21 : decode cX5_recut 21 = .ok (.iload_n 2, 1) := by decide +kernel
theorem dX5_recut_22 : decode cX5_recut 22 = .ok (.isub, 1) := by decide +kernel
theorem dX5_recut_23 : decode cX5_recut 23 = .ok (.istore 4, 2) := by decide +kernel
theorem dX5_recut_25 : decode cX5_recut 25 = .ok (.aload_n 3, 1) := by decide +kernel
theorem dX5_recut_26 : decode cX5_recut 26 = .ok (.iload_n 2, 1) := by decide +kernel
theorem dX5_recut_27 : decode cX5_recut 27 = .ok (.putfield 280, 3) := by decide +kernel
theorem dX5_recut_30 : decode cX5_recut 30 = .ok (.aload_n 0, 1) := by decide +kernel
theorem dX5_recut_31 : decode cX5_recut 31 = .ok (.dup, 1) := by decide +kernel
theorem dX5_recut_32 : decode cX5_recut 32 = .ok (.getfield 259, 3) := by decide +kernel
theorem dX5_recut_35 : decode cX5_recut 35 = .ok (.iload 4, 2) := by decide +kernel
theorem dX5_recut_37 : decode cX5_recut 37 = .ok (.iadd, 1) := by decide +kernel
theorem dX5_recut_38 : decode cX5_recut 38 = .ok (.putfield 259, 3) := by decide +kernel
theorem dX5_recut_41 : decode cX5_recut 41 = .ok (.iload 4, 2) := by decide +kernel
theorem dX5_recut_43 : decode cX5_recut 43 = .ok (.ireturn, 1) := by decide +kernel
theorem dX5_polished_0 : decode cX5_polished 0 = .ok (.aload_n 0, 1) := by decide +kernel
theorem dX5_polished_1 : decode cX5_polished 1 = .ok (.iload_n 1, 1) := by decide +kernel
theorem dX5_polished_2 : decode cX5_polished 2 = .ok (.invokevirtual 276, 3) := by decide +kernel
theorem dX5_polished_5 : decode cX5_polished 5 = .ok (.astore_n 3, 1) := by decide +kernel
theorem dX5_polished_6 : decode cX5_polished 6 = .ok (.iload_n 2, 1) := by decide +kernel
theorem dX5_polished_7 : decode cX5_polished 7 = .ok (.tableswitch 94 0 8 #[49, 54, 59, 64, 69, 74, 79, 84, 89], 49) := by decide +kernel
theorem dX5_polished_56 : decode cX5_polished 56 = .ok (.aload_n 3, 1) := by decide +kernel
theorem dX5_polished_57 : decode cX5_polished 57 = .ok (.getfield 281, 3) := by decide +kernel
theorem dX5_polished_60 : decode cX5_polished 60 = .ok (.ireturn, 1) := by decide +kernel
theorem dX5_polished_61 : decode cX5_polished 61 = .ok (.aload_n 3, 1) := by decide +kernel
theorem dX5_polished_62 : decode cX5_polished 62 = .ok (.getfield 280, 3) := by decide +kernel
theorem dX5_polished_65 : decode cX5_polished 65 = .ok (.ireturn, 1) := by decide +kernel
theorem dX5_polished_66 : decode cX5_polished 66 = .ok (.aload_n 3, 1) := by decide +kernel
theorem dX5_polished_67 : decode cX5_polished 67 = .ok (.getfield 283, 3) := by decide +kernel
theorem dX5_polished_70 : decode cX5_polished 70 = .ok (.ireturn, 1) := by decide +kernel
theorem dX5_polished_71 : decode cX5_polished 71 = .ok (.aload_n 3, 1) := by decide +kernel
theorem dX5_polished_72 : decode cX5_polished 72 = .ok (.getfield 286, 3) := by decide +kernel
theorem dX5_polished_75 : decode cX5_polished 75 = .ok (.ireturn, 1) := by decide +kernel
theorem dX5_polished_76 : decode cX5_polished 76 = .ok (.aload_n 3, 1) := by decide +kernel
theorem dX5_polished_77 : decode cX5_polished 77 = .ok (.getfield 289, 3) := by decide +kernel
theorem dX5_polished_80 : decode cX5_polished 80 = .ok (.ireturn, 1) := by decide +kernel
theorem dX5_polished_81 : decode cX5_polished 81 = .ok (.aload_n 3, 1) := by decide +kernel
theorem dX5_polished_82 : decode cX5_polished 82 = .ok (.invokevirtual 290, 3) := by decide +kernel
theorem dX5_polished_85 : decode cX5_polished 85 = .ok (.ireturn, 1) := by decide +kernel
theorem dX5_polished_86 : decode cX5_polished 86 = .ok (.aload_n 3, 1) := by decide +kernel
theorem dX5_polished_87 : decode cX5_polished 87 = .ok (.invokevirtual 293, 3) := by decide +kernel
theorem dX5_polished_90 : decode cX5_polished 90 = .ok (.ireturn, 1) := by decide +kernel
theorem dX5_polished_91 : decode cX5_polished 91 = .ok (.aload_n 3, 1) := by decide +kernel
theorem dX5_polished_92 : decode cX5_polished 92 = .ok (.getfield 296, 3) := by decide +kernel
theorem dX5_polished_95 : decode cX5_polished 95 = .ok (.ireturn, 1) := by decide +kernel
theorem dX5_polished_96 : decode cX5_polished 96 = .ok (.aload_n 3, 1) := by decide +kernel
theorem dX5_polished_97 : decode cX5_polished 97 = .ok (.getfield 299, 3) := by decide +kernel
theorem dX5_polished_100 : decode cX5_polished 100 = .ok (.ireturn, 1) := by decide +kernel
theorem dX5_polished_101 : decode cX5_polished 101 = .ok (.new 172, 3) := by decide +kernel
theorem dX5_polished_104 : decode cX5_polished 104 = .ok (.dup, 1) := by decide +kernel
theorem dX5_polished_105 : decode cX5_polished 105 = .ok (.ldc_w 302, 3) := by decide +kernel
theorem dX5_polished_108 : decode cX5_polished 108 = .ok (.invokespecial 176, 3) := by decide +kernel
theorem dX5_polished_111 : decode cX5_polished 111 = .ok (.athrow, 1) := by decide +kernel
theorem dX5_scale_0 : decode cX5_scale 0 = .ok (.iload_n 1, 1) := by decide +kernel
theorem dX5_scale_1 : decode cX5_scale 1 = .ok (.aload_n 0, 1) := by decide +kernel
theorem dX5_scale_2 : decode cX5_scale 2 = .ok (.getfield 51, 3) := by decide +kernel
theorem dX5_scale_5 : decode cX5_scale 5 = .ok (.arraylength, 1) := by decide +kernel
theorem dX5_scale_6 : decode cX5_scale 6 = .ok (.invokestatic 66, 3) := by decide +kernel
theorem dX5_scale_9 : decode cX5_scale 9 = .ok (.iload_n 2, 1) := by decide +kernel
theorem dX5_scale_10 : decode cX5_scale 10 = .ok (.iconst (-1), 1) := by decide +kernel
theorem dX5_scale_11 : decode cX5_scale 11 = .ok (.iconst 1, 1) := by decide +kernel
theorem dX5_scale_12 : decode cX5_scale 12 = .ok (.invokestatic 85, 3) := by decide +kernel
theorem dX5_scale_15 : decode cX5_scale 15 = .ok (.aload_n 0, 1) := by decide +kernel
theorem dX5_scale_16 : decode cX5_scale 16 = .ok (.getfield 51, 3) := by decide +kernel
theorem dX5_scale_19 : decode cX5_scale 19 = .ok (.iload_n 1, 1) := by decide +kernel
theorem dX5_scale_20 : decode cX5_scale 20 = .ok (.iaload, 1) := by decide +kernel
theorem dX5_scale_21 : decode cX5_scale 21 = .ok (.istore_n 3, 1) := by decide +kernel
theorem dX5_scale_22 : decode cX5_scale 22 = .ok (.aload_n 0, 1) := by decide +kernel
theorem dX5_scale_23 : decode cX5_scale 23 = .ok (.getfield 51, 3) := by decide +kernel
theorem dX5_scale_26 : decode cX5_scale 26 = .ok (.iload_n 1, 1) := by decide +kernel
theorem dX5_scale_27 : decode cX5_scale 27 = .ok (.iload_n 2, 1) := by decide +kernel
theorem dX5_scale_28 : decode cX5_scale 28 = .ok (.iastore, 1) := by decide +kernel
theorem dX5_scale_29 : decode cX5_scale 29 = .ok (.iload_n 3, 1) := by decide +kernel
theorem dX5_scale_30 : decode cX5_scale 30 = .ok (.ireturn, 1) := by decide +kernel
theorem dX5_look_0 : decode cX5_look 0 = .ok (.iload_n 1, 1) := by decide +kernel
theorem dX5_look_1 : decode cX5_look 1 = .ok (.aload_n 0, 1) := by decide +kernel
theorem dX5_look_2 : decode cX5_look 2 = .ok (.getfield 51, 3) := by decide +kernel
theorem dX5_look_5 : decode cX5_look 5 = .ok (.arraylength, 1) := by decide +kernel
theorem dX5_look_6 : decode cX5_look 6 = .ok (.invokestatic 66, 3) := by decide +kernel
theorem dX5_look_9 : decode cX5_look 9 = .ok (.aload_n 0, 1) := by decide +kernel
theorem dX5_look_10 : decode cX5_look 10 = .ok (.iload_n 2, 1) := by decide +kernel
theorem dX5_look_11 : decode cX5_look 11 = .ok (.invokevirtual 276, 3) := by decide +kernel
theorem dX5_look_14 : decode cX5_look 14 = .ok (.astore_n 3, 1) := by decide +kernel
theorem dX5_look_15 : decode cX5_look 15 = .ok (.aload_n 3, 1) := by decide +kernel
theorem dX5_look_16 : decode cX5_look 16 = .ok (.getfield 304, 3) := by decide +kernel
theorem dX5_look_19 : decode cX5_look 19 = .ok (.iload_n 1, 1) := by decide +kernel
theorem dX5_look_20 : decode cX5_look 20 = .ok (.invokevirtual 122, 3) := by decide +kernel
theorem dX5_look_23 : decode cX5_look 23 = .ok (.ifCond .ne 11, 3) := by decide +kernel
theorem dX5_look_26 : decode cX5_look 26 = .ok (.aload_n 3, 1) := by decide +kernel
theorem dX5_look_27 : decode cX5_look 27 = .ok (.invokevirtual 290, 3) := by decide +kernel
theorem dX5_look_30 : decode cX5_look 30 = .ok (.iconst (-1), 1) := by decide +kernel
theorem dX5_look_31 : decode cX5_look 31 = .ok (.if_icmp .eq 14, 3) := by decide +kernel
theorem dX5_look_34 : decode cX5_look 34 = .ok (.new 78, 3) := by decide +kernel
theorem dX5_look_37 : decode cX5_look 37 = .ok (.dup, 1) := by decide +kernel
theorem dX5_look_38 : decode cX5_look 38 = .ok (.ldc_w 307, 3) := by decide +kernel
theorem dX5_look_41 : decode cX5_look 41 = .ok (.invokespecial 82, 3) := by decide +kernel
theorem dX5_look_44 : decode cX5_look 44 = .ok (.athrow, 1) := by decide +kernel
theorem dX5_look_45 : decode cX5_look 45 = .ok (.aload_n 3, 1) := by decide +kernel
theorem dX5_look_46 : decode cX5_look 46 = .ok (.getfield 309, 3) := by decide +kernel
theorem dX5_look_49 : decode cX5_look 49 = .ok (.aload_n 0, 1) := by decide +kernel
theorem dX5_look_50 : decode cX5_look 50 = .ok (.getfield 51, 3) := by decide +kernel
theorem dX5_look_53 : decode cX5_look 53 = .ok (.iload_n 1, 1) := by decide +kernel
theorem dX5_look_54 : decode cX5_look 54 = .ok (.iaload, 1) := by decide +kernel
theorem dX5_look_55 : decode cX5_look 55 = .ok (.iadd, 1) := by decide +kernel
theorem dX5_look_56 : decode cX5_look 56 = .ok (.iconst 0, 1) := by decide +kernel
theorem dX5_look_57 : decode cX5_look 57 = .ok (.bipush 9, 2) := by decide +kernel
theorem dX5_look_59 : decode cX5_look 59 = .ok (.invokestatic 134, 3) := by decide +kernel
theorem dX5_look_62 : decode cX5_look 62 = .ok (.istore 4, 2) := by decide +kernel
theorem dX5_look_64 : decode cX5_look 64 = .ok (.aload_n 3, 1) := by decide +kernel
theorem dX5_look_65 : decode cX5_look 65 = .ok (.getfield 304, 3) := by decide +kernel
theorem dX5_look_68 : decode cX5_look 68 = .ok (.iload_n 1, 1) := by decide +kernel
theorem dX5_look_69 : decode cX5_look 69 = .ok (.iload 4, 2) := by decide +kernel
theorem dX5_look_71 : decode cX5_look 71 = .ok (.invokevirtual 138, 3) := by decide +kernel
theorem dX5_look_74 : decode cX5_look 74 = .ok (.iload 4, 2) := by decide +kernel
theorem dX5_look_76 : decode cX5_look 76 = .ok (.ireturn, 1) := by decide +kernel
theorem dX5_paper_0 : decode cX5_paper 0 = .ok (.aload_n 0, 1) := by decide +kernel
theorem dX5_paper_1 : decode cX5_paper 1 = .ok (.iload_n 1, 1) := by decide +kernel
theorem dX5_paper_2 : decode cX5_paper 2 = .ok (.invokevirtual 276, 3) := by decide +kernel
theorem dX5_paper_5 : decode cX5_paper 5 = .ok (.astore_n 3, 1) := by decide +kernel
theorem dX5_paper_6 : decode cX5_paper 6 = .ok (.iload_n 2, 1) := by decide +kernel
theorem dX5_paper_7 : decode cX5_paper 7 = .ok (.aload_n 0, 1) := by decide +kernel
theorem dX5_paper_8 : decode cX5_paper 8 = .ok (.getfield 57, 3) := by decide +kernel
theorem dX5_paper_11 : decode cX5_paper 11 = .ok (.arraylength, 1) := by decide +kernel
theorem dX5_paper_12 : decode cX5_paper 12 = .ok (.invokestatic 66, 3) := by decide +kernel
theorem dX5_paper_15 : decode cX5_paper 15 = .ok (.aload_n 0, 1) := by decide +kernel
theorem dX5_paper_16 : decode cX5_paper 16 = .ok (.getfield 54, 3) := by decide +kernel
theorem dX5_paper_19 : decode cX5_paper 19 = .ok (.iload_n 2, 1) := by decide +kernel
theorem dX5_paper_20 : decode cX5_paper 20 = .ok (.iaload, 1) := by decide +kernel
theorem dX5_paper_21 : decode cX5_paper 21 = .ok (.aload_n 0, 1) := by decide +kernel
theorem dX5_paper_22 : decode cX5_paper 22 = .ok (.getfield 57, 3) := by decide +kernel
theorem dX5_paper_25 : decode cX5_paper 25 = .ok (.iload_n 2, 1) := by decide +kernel
theorem dX5_paper_26 : decode cX5_paper 26 = .ok (.iaload, 1) := by decide +kernel
theorem dX5_paper_27 : decode cX5_paper 27 = .ok (.isub, 1) := by decide +kernel
theorem dX5_paper_28 : decode cX5_paper 28 = .ok (.aload_n 3, 1) := by decide +kernel
theorem dX5_paper_29 : decode cX5_paper 29 = .ok (.getfield 280, 3) := by decide +kernel
theorem dX5_paper_32 : decode cX5_paper 32 = .ok (.isub, 1) := by decide +kernel
theorem dX5_paper_33 : decode cX5_paper 33 = .ok (.istore 4, 2) := by decide +kernel
theorem dX5_paper_35 : decode cX5_paper 35 = .ok (.aload_n 3, 1) := by decide +kernel
theorem dX5_paper_36 : decode cX5_paper 36 = .ok (.getfield 296, 3) := by decide +kernel
theorem dX5_paper_39 : decode cX5_paper 39 = .ok (.iconst (-1), 1) := by decide +kernel
theorem dX5_paper_40 : decode cX5_paper 40 = .ok (.if_icmp .ne 8, 3) := by decide +kernel
theorem dX5_paper_43 : decode cX5_paper 43 = .ok (.iload 4, 2) := by decide +kernel
theorem dX5_paper_45 : decode cX5_paper 45 = .ok (.ifCond .ge 14, 3) := by decide +kernel
theorem dX5_paper_48 : decode cX5_paper 48 = .ok (.new 78, 3) := by decide +kernel
theorem dX5_paper_51 : decode cX5_paper 51 = .ok (.dup, 1) := by decide +kernel
theorem dX5_paper_52 : decode cX5_paper 52 = .ok (.ldc_w 310, 3) := by decide +kernel
theorem dX5_paper_55 : decode cX5_paper 55 = .ok (.invokespecial 82, 3) := by decide +kernel
theorem dX5_paper_58 : decode cX5_paper 58 = .ok (.athrow, 1) := by decide +kernel
theorem dX5_paper_59 : decode cX5_paper 59 = .ok (.aload_n 3, 1) := by decide +kernel
theorem dX5_paper_60 : decode cX5_paper 60 = .ok (.iload_n 2, 1) := by decide +kernel
theorem dX5_paper_61 : decode cX5_paper 61 = .ok (.putfield 296, 3) := by decide +kernel
theorem dX5_paper_64 : decode cX5_paper 64 = .ok (.aload_n 0, 1) := by decide +kernel
theorem dX5_paper_65 : decode cX5_paper 65 = .ok (.getfield 57, 3) := by decide +kernel
theorem dX5_paper_68 : decode cX5_paper 68 = .ok (.iload_n 2, 1) := by decide +kernel
theorem dX5_paper_69 : decode cX5_paper 69 = .ok (.dup2, 1) := by decide +kernel
theorem dX5_paper_70 : decode cX5_paper 70 = .ok (.iaload, 1) := by decide +kernel
theorem dX5_paper_71 : decode cX5_paper 71 = .ok (.aload_n 3, 1) := by decide +kernel
theorem dX5_paper_72 : decode cX5_paper 72 = .ok (.getfield 280, 3) := by decide +kernel
theorem dX5_paper_75 : decode cX5_paper 75 = .ok (.iadd, 1) := by decide +kernel
theorem dX5_paper_76 : decode cX5_paper 76 = .ok (.iastore, 1) := by decide +kernel
theorem dX5_paper_77 : decode cX5_paper 77 = .ok (.iload 4, 2) := by decide +kernel
theorem dX5_paper_79 : decode cX5_paper 79 = .ok (.ireturn, 1) := by decide +kernel
theorem dX5_all_0 : decode cX5_all 0 = .ok (.iload_n 1, 1) := by decide +kernel
theorem dX5_all_1 : decode cX5_all 1 = .ok (.tableswitch 75 0 5 #[39, 47, 52, 57, 62, 70], 39) := by decide +kernel
theorem dX5_all_40 : decode cX5_all 40 = .ok (.aload_n 0, 1) := by decide +kernel
theorem dX5_all_41 : decode cX5_all 41 = .ok (.getfield 54, 3) := by decide +kernel
theorem dX5_all_44 : decode cX5_all 44 = .ok (.invokestatic 312, 3) := by decide +kernel
theorem dX5_all_47 : decode cX5_all 47 = .ok (.ireturn, 1) := by decide +kernel
theorem dX5_all_48 : decode cX5_all 48 = .ok (.aload_n 0, 1) := by decide +kernel
theorem dX5_all_49 : decode cX5_all 49 = .ok (.invokevirtual 316, 3) := by decide +kernel
theorem dX5_all_52 : decode cX5_all 52 = .ok (.ireturn, 1) := by decide +kernel
theorem dX5_all_53 : decode cX5_all 53 = .ok (.aload_n 0, 1) := by decide +kernel
theorem dX5_all_54 : decode cX5_all 54 = .ok (.invokevirtual 319, 3) := by decide +kernel
theorem dX5_all_57 : decode cX5_all 57 = .ok (.ireturn, 1) := by decide +kernel
theorem dX5_all_58 : decode cX5_all 58 = .ok (.aload_n 0, 1) := by decide +kernel
theorem dX5_all_59 : decode cX5_all 59 = .ok (.getfield 259, 3) := by decide +kernel
theorem dX5_all_62 : decode cX5_all 62 = .ok (.ireturn, 1) := by decide +kernel
theorem dX5_all_63 : decode cX5_all 63 = .ok (.aload_n 0, 1) := by decide +kernel
theorem dX5_all_64 : decode cX5_all 64 = .ok (.getfield 57, 3) := by decide +kernel
theorem dX5_all_67 : decode cX5_all 67 = .ok (.invokestatic 312, 3) := by decide +kernel
theorem dX5_all_70 : decode cX5_all 70 = .ok (.ireturn, 1) := by decide +kernel
theorem dX5_all_71 : decode cX5_all 71 = .ok (.aload_n 0, 1) := by decide +kernel
theorem dX5_all_72 : decode cX5_all 72 = .ok (.invokevirtual 322, 3) := by decide +kernel
theorem dX5_all_75 : decode cX5_all 75 = .ok (.ireturn, 1) := by decide +kernel
theorem dX5_all_76 : decode cX5_all 76 = .ok (.new 172, 3) := by decide +kernel
theorem dX5_all_79 : decode cX5_all 79 = .ok (.dup, 1) := by decide +kernel
theorem dX5_all_80 : decode cX5_all 80 = .ok (.ldc_w 325, 3) := by decide +kernel
theorem dX5_all_83 : decode cX5_all 83 = .ok (.invokespecial 176, 3) := by decide +kernel
theorem dX5_all_86 : decode cX5_all 86 = .ok (.athrow, 1) := by decide +kernel
theorem dX5_isIn_0 : decode cX5_isIn 0 = .ok (.iload_n 0, 1) := by decide +kernel
theorem dX5_isIn_1 : decode cX5_isIn 1 = .ok (.ifCond .lt 12, 3) := by decide +kernel
theorem dX5_isIn_4 : decode cX5_isIn 4 = .ok (.iload_n 0, 1) := by decide +kernel
theorem dX5_isIn_5 : decode cX5_isIn 5 = .ok (.iload_n 1, 1) := by decide +kernel
theorem dX5_isIn_6 : decode cX5_isIn 6 = .ok (.if_icmp .ge 7, 3) := by decide +kernel
theorem dX5_isIn_9 : decode cX5_isIn 9 = .ok (.iconst 1, 1) := by decide +kernel
theorem dX5_isIn_10 : decode cX5_isIn 10 = .ok (.goto 4, 3) := by decide +kernel
theorem dX5_isIn_13 : decode cX5_isIn 13 = .ok (.iconst 0, 1) := by decide +kernel
theorem dX5_isIn_14 : decode cX5_isIn 14 = .ok (.ireturn, 1) := by decide +kernel
theorem dX5_needIndex_0 : decode cX5_needIndex 0 = .ok (.iload_n 0, 1) := by decide +kernel
theorem dX5_needIndex_1 : decode cX5_needIndex 1 = .ok (.iload_n 1, 1) := by decide +kernel
theorem dX5_needIndex_2 : decode cX5_needIndex 2 = .ok (.invokestatic 74, 3) := by decide +kernel
theorem dX5_needIndex_5 : decode cX5_needIndex 5 = .ok (.ifCond .ne 14, 3) := by decide +kernel
theorem dX5_needIndex_8 : decode cX5_needIndex 8 = .ok (.new 327, 3) := by decide +kernel
theorem dX5_needIndex_11 : decode cX5_needIndex 11 = .ok (.dup, 1) := by decide +kernel
theorem dX5_needIndex_12 : decode cX5_needIndex 12 = .ok (.ldc_w 329, 3) := by decide +kernel
theorem dX5_needIndex_15 : decode cX5_needIndex 15 = .ok (.invokespecial 331, 3) := by decide +kernel
theorem dX5_needIndex_18 : decode cX5_needIndex 18 = .ok (.athrow, 1) := by decide +kernel
theorem dX5_needIndex_19 : decode cX5_needIndex 19 = .ok (.return_, 1) := by decide +kernel
theorem dX5_needRange_0 : decode cX5_needRange 0 = .ok (.iload_n 0, 1) := by decide +kernel
theorem dX5_needRange_1 : decode cX5_needRange 1 = .ok (.iload_n 1, 1) := by decide +kernel
theorem dX5_needRange_2 : decode cX5_needRange 2 = .ok (.if_icmp .lt 8, 3) := by decide +kernel
theorem dX5_needRange_5 : decode cX5_needRange 5 = .ok (.iload_n 0, 1) := by decide +kernel
theorem dX5_needRange_6 : decode cX5_needRange 6 = .ok (.iload_n 2, 1) := by decide +kernel
theorem dX5_needRange_7 : decode cX5_needRange 7 = .ok (.if_icmp .le 14, 3) := by decide +kernel
theorem dX5_needRange_10 : decode cX5_needRange 10 = .ok (.new 172, 3) := by decide +kernel
theorem dX5_needRange_13 : decode cX5_needRange 13 = .ok (.dup, 1) := by decide +kernel
theorem dX5_needRange_14 : decode cX5_needRange 14 = .ok (.ldc_w 332, 3) := by decide +kernel
theorem dX5_needRange_17 : decode cX5_needRange 17 = .ok (.invokespecial 176, 3) := by decide +kernel
theorem dX5_needRange_20 : decode cX5_needRange 20 = .ok (.athrow, 1) := by decide +kernel
theorem dX5_needRange_21 : decode cX5_needRange 21 = .ok (.return_, 1) := by decide +kernel
theorem dX5_within_0 : decode cX5_within 0 = .ok (.iload_n 1, 1) := by decide +kernel
theorem dX5_within_1 : decode cX5_within 1 = .ok (.iload_n 2, 1) := by decide +kernel
theorem dX5_within_2 : decode cX5_within 2 = .ok (.iload_n 0, 1) := by decide +kernel
theorem dX5_within_3 : decode cX5_within 3 = .ok (.invokestatic 334, 3) := by decide +kernel
theorem dX5_within_6 : decode cX5_within 6 = .ok (.invokestatic 244, 3) := by decide +kernel
theorem dX5_within_9 : decode cX5_within 9 = .ok (.ireturn, 1) := by decide +kernel
theorem dX5_knownStone_0 : decode cX5_knownStone 0 = .ok (.iload_n 1, 1) := by decide +kernel
theorem dX5_knownStone_1 : decode cX5_knownStone 1 = .ok (.aload_n 0, 1) := by decide +kernel
theorem dX5_knownStone_2 : decode cX5_knownStone 2 = .ok (.getfield 15, 3) := by decide +kernel
theorem dX5_knownStone_5 : decode cX5_knownStone 5 = .ok (.arraylength, 1) := by decide +kernel
theorem dX5_knownStone_6 : decode cX5_knownStone 6 = .ok (.invokestatic 74, 3) := by decide +kernel
theorem dX5_knownStone_9 : decode cX5_knownStone 9 = .ok (.ifCond .eq 12, 3) := by decide +kernel
theorem dX5_knownStone_12 : decode cX5_knownStone 12 = .ok (.aload_n 0, 1) := by decide +kernel
theorem dX5_knownStone_13 : decode cX5_knownStone 13 = .ok (.getfield 15, 3) := by decide +kernel
theorem dX5_knownStone_16 : decode cX5_knownStone 16 = .ok (.iload_n 1, 1) := by decide +kernel
theorem dX5_knownStone_17 : decode cX5_knownStone 17 = .ok (.aaload, 1) := by decide +kernel
theorem dX5_knownStone_18 : decode cX5_knownStone 18 = .ok (.goto 4, 3) := by decide +kernel
theorem dX5_knownStone_21 : decode cX5_knownStone 21 = .ok (.aconst_null, 1) := by decide +kernel
theorem dX5_knownStone_22 : decode cX5_knownStone 22 = .ok (.astore_n 2, 1) := by decide +kernel
theorem dX5_knownStone_23 : decode cX5_knownStone 23 = .ok (.aload_n 2, 1) := by decide +kernel
theorem dX5_knownStone_24 : decode cX5_knownStone 24 = .ok (.ifnonnull 14, 3) := by decide +kernel
theorem dX5_knownStone_27 : decode cX5_knownStone 27 = .ok (.new 327, 3) := by decide +kernel
theorem dX5_knownStone_30 : decode cX5_knownStone 30 = .ok (.dup, 1) := by decide +kernel
theorem dX5_knownStone_31 : decode cX5_knownStone 31 = .ok (.ldc_w 337, 3) := by decide +kernel
theorem dX5_knownStone_34 : decode cX5_knownStone 34 = .ok (.invokespecial 331, 3) := by decide +kernel
theorem dX5_knownStone_37 : decode cX5_knownStone 37 = .ok (.athrow, 1) := by decide +kernel
theorem dX5_knownStone_38 : decode cX5_knownStone 38 = .ok (.aload_n 2, 1) := by decide +kernel
theorem dX5_knownStone_39 : decode cX5_knownStone 39 = .ok (.areturn, 1) := by decide +kernel
theorem dX5_knownGem_0 : decode cX5_knownGem 0 = .ok (.iload_n 1, 1) := by decide +kernel
theorem dX5_knownGem_1 : decode cX5_knownGem 1 = .ok (.aload_n 0, 1) := by decide +kernel
theorem dX5_knownGem_2 : decode cX5_knownGem 2 = .ok (.getfield 47, 3) := by decide +kernel
theorem dX5_knownGem_5 : decode cX5_knownGem 5 = .ok (.arraylength, 1) := by decide +kernel
theorem dX5_knownGem_6 : decode cX5_knownGem 6 = .ok (.invokestatic 74, 3) := by decide +kernel
theorem dX5_knownGem_9 : decode cX5_knownGem 9 = .ok (.ifCond .eq 12, 3) := by decide +kernel
theorem dX5_knownGem_12 : decode cX5_knownGem 12 = .ok (.aload_n 0, 1) := by decide +kernel
theorem dX5_knownGem_13 : decode cX5_knownGem 13 = .ok (.getfield 47, 3) := by decide +kernel
theorem dX5_knownGem_16 : decode cX5_knownGem 16 = .ok (.iload_n 1, 1) := by decide +kernel
theorem dX5_knownGem_17 : decode cX5_knownGem 17 = .ok (.aaload, 1) := by decide +kernel
theorem dX5_knownGem_18 : decode cX5_knownGem 18 = .ok (.goto 4, 3) := by decide +kernel
theorem dX5_knownGem_21 : decode cX5_knownGem 21 = .ok (.aconst_null, 1) := by decide +kernel
theorem dX5_knownGem_22 : decode cX5_knownGem 22 = .ok (.astore_n 2, 1) := by decide +kernel
theorem dX5_knownGem_23 : decode cX5_knownGem 23 = .ok (.aload_n 2, 1) := by decide +kernel
theorem dX5_knownGem_24 : decode cX5_knownGem 24 = .ok (.ifnonnull 14, 3) := by decide +kernel
theorem dX5_knownGem_27 : decode cX5_knownGem 27 = .ok (.new 327, 3) := by decide +kernel
theorem dX5_knownGem_30 : decode cX5_knownGem 30 = .ok (.dup, 1) := by decide +kernel
theorem dX5_knownGem_31 : decode cX5_knownGem 31 = .ok (.ldc_w 339, 3) := by decide +kernel
theorem dX5_knownGem_34 : decode cX5_knownGem 34 = .ok (.invokespecial 331, 3) := by decide +kernel
theorem dX5_knownGem_37 : decode cX5_knownGem 37 = .ok (.athrow, 1) := by decide +kernel
theorem dX5_knownGem_38 : decode cX5_knownGem 38 = .ok (.aload_n 2, 1) := by decide +kernel
theorem dX5_knownGem_39 : decode cX5_knownGem 39 = .ok (.areturn, 1) := by decide +kernel
theorem dX5_pitOf_0 : decode cX5_pitOf 0 = .ok (.iload_n 1, 1) := by decide +kernel
theorem dX5_pitOf_1 : decode cX5_pitOf 1 = .ok (.aload_n 0, 1) := by decide +kernel
theorem dX5_pitOf_2 : decode cX5_pitOf 2 = .ok (.getfield 9, 3) := by decide +kernel
theorem dX5_pitOf_5 : decode cX5_pitOf 5 = .ok (.arraylength, 1) := by decide +kernel
theorem dX5_pitOf_6 : decode cX5_pitOf 6 = .ok (.invokestatic 74, 3) := by decide +kernel
theorem dX5_pitOf_9 : decode cX5_pitOf 9 = .ok (.ifCond .eq 12, 3) := by decide +kernel
theorem dX5_pitOf_12 : decode cX5_pitOf 12 = .ok (.aload_n 0, 1) := by decide +kernel
theorem dX5_pitOf_13 : decode cX5_pitOf 13 = .ok (.getfield 9, 3) := by decide +kernel
theorem dX5_pitOf_16 : decode cX5_pitOf 16 = .ok (.iload_n 1, 1) := by decide +kernel
theorem dX5_pitOf_17 : decode cX5_pitOf 17 = .ok (.iaload, 1) := by decide +kernel
theorem dX5_pitOf_18 : decode cX5_pitOf 18 = .ok (.goto 4, 3) := by decide +kernel
theorem dX5_pitOf_21 : decode cX5_pitOf 21 = .ok (.iconst (-1), 1) := by decide +kernel
theorem dX5_pitOf_22 : decode cX5_pitOf 22 = .ok (.ireturn, 1) := by decide +kernel
theorem dX5_addTo_0 : decode cX5_addTo 0 = .ok (.iload_n 1, 1) := by decide +kernel
theorem dX5_addTo_1 : decode cX5_addTo 1 = .ok (.aload_n 0, 1) := by decide +kernel
theorem dX5_addTo_2 : decode cX5_addTo 2 = .ok (.arraylength, 1) := by decide +kernel
theorem dX5_addTo_3 : decode cX5_addTo 3 = .ok (.invokestatic 74, 3) := by decide +kernel
theorem dX5_addTo_6 : decode cX5_addTo 6 = .ok (.ifCond .eq 10, 3) := by decide +kernel
theorem dX5_addTo_9 : decode cX5_addTo 9 = .ok (.aload_n 0, 1) := by decide +kernel
theorem dX5_addTo_10 : decode cX5_addTo 10 = .ok (.iload_n 1, 1) := by decide +kernel
theorem dX5_addTo_11 : decode cX5_addTo 11 = .ok (.dup2, 1) := by decide +kernel
theorem dX5_addTo_12 : decode cX5_addTo 12 = .ok (.iaload, 1) := by decide +kernel
theorem dX5_addTo_13 : decode cX5_addTo 13 = .ok (.iload_n 2, 1) := by decide +kernel
theorem dX5_addTo_14 : decode cX5_addTo 14 = .ok (.iadd, 1) := by decide +kernel
theorem dX5_addTo_15 : decode cX5_addTo 15 = .ok (.iastore, 1) := by decide +kernel
theorem dX5_addTo_16 : decode cX5_addTo 16 = .ok (.return_, 1) := by decide +kernel
theorem dX5_sumOf_0 : decode cX5_sumOf 0 = .ok (.iconst 0, 1) := by decide +kernel
theorem dX5_sumOf_1 : decode cX5_sumOf 1 = .ok (.istore_n 1, 1) := by decide +kernel
theorem dX5_sumOf_2 : decode cX5_sumOf 2 = .ok (.aload_n 0, 1) := by decide +kernel
theorem dX5_sumOf_3 : decode cX5_sumOf 3 = .ok (.astore_n 2, 1) := by decide +kernel
theorem dX5_sumOf_4 : decode cX5_sumOf 4 = .ok (.aload_n 2, 1) := by decide +kernel
theorem dX5_sumOf_5 : decode cX5_sumOf 5 = .ok (.arraylength, 1) := by decide +kernel
theorem dX5_sumOf_6 : decode cX5_sumOf 6 = .ok (.istore_n 3, 1) := by decide +kernel
theorem dX5_sumOf_7 : decode cX5_sumOf 7 = .ok (.iconst 0, 1) := by decide +kernel
theorem dX5_sumOf_8 : decode cX5_sumOf 8 = .ok (.istore 4, 2) := by decide +kernel
theorem dX5_sumOf_10 : decode cX5_sumOf 10 = .ok (.iload 4, 2) := by decide +kernel
theorem dX5_sumOf_12 : decode cX5_sumOf 12 = .ok (.iload_n 3, 1) := by decide +kernel
theorem dX5_sumOf_13 : decode cX5_sumOf 13 = .ok (.if_icmp .ge 20, 3) := by decide +kernel
theorem dX5_sumOf_16 : decode cX5_sumOf 16 = .ok (.aload_n 2, 1) := by decide +kernel
theorem dX5_sumOf_17 : decode cX5_sumOf 17 = .ok (.iload 4, 2) := by decide +kernel
theorem dX5_sumOf_19 : decode cX5_sumOf 19 = .ok (.iaload, 1) := by decide +kernel
theorem dX5_sumOf_20 : decode cX5_sumOf 20 = .ok (.istore 5, 2) := by decide +kernel
theorem dX5_sumOf_22 : decode cX5_sumOf 22 = .ok (.iload_n 1, 1) := by decide +kernel
theorem dX5_sumOf_23 : decode cX5_sumOf 23 = .ok (.iload 5, 2) := by decide +kernel
theorem dX5_sumOf_25 : decode cX5_sumOf 25 = .ok (.iadd, 1) := by decide +kernel
theorem dX5_sumOf_26 : decode cX5_sumOf 26 = .ok (.istore_n 1, 1) := by decide +kernel
theorem dX5_sumOf_27 : decode cX5_sumOf 27 = .ok (.iinc 4 1, 3) := by decide +kernel
theorem dX5_sumOf_30 : decode cX5_sumOf 30 = .ok (.goto (-20), 3) := by decide +kernel
theorem dX5_sumOf_33 : decode cX5_sumOf 33 = .ok (.iload_n 1, 1) := by decide +kernel
theorem dX5_sumOf_34 : decode cX5_sumOf 34 = .ok (.ireturn, 1) := by decide +kernel
theorem dX5_roughWeight_0 : decode cX5_roughWeight 0 = .ok (.iconst 0, 1) := by decide +kernel
theorem dX5_roughWeight_1 : decode cX5_roughWeight 1 = .ok (.istore_n 1, 1) := by decide +kernel
theorem dX5_roughWeight_2 : decode cX5_roughWeight 2 = .ok (.aload_n 0, 1) := by decide +kernel
theorem dX5_roughWeight_3 : decode cX5_roughWeight 3 = .ok (.getfield 15, 3) := by decide +kernel
theorem dX5_roughWeight_6 : decode cX5_roughWeight 6 = .ok (.astore_n 2, 1) := by decide +kernel
theorem dX5_roughWeight_7 : decode cX5_roughWeight 7 = .ok (.aload_n 2, 1) := by decide +kernel
theorem dX5_roughWeight_8 : decode cX5_roughWeight 8 = .ok (.arraylength, 1) := by decide +kernel
theorem dX5_roughWeight_9 : decode cX5_roughWeight 9 = .ok (.istore_n 3, 1) := by decide +kernel
theorem dX5_roughWeight_10 : decode cX5_roughWeight 10 = .ok (.iconst 0, 1) := by decide +kernel
theorem dX5_roughWeight_11 : decode cX5_roughWeight 11 = .ok (.istore 4, 2) := by decide +kernel
theorem dX5_roughWeight_13 : decode cX5_roughWeight 13 = .ok (.iload 4, 2) := by decide +kernel
theorem dX5_roughWeight_15 : decode cX5_roughWeight 15 = .ok (.iload_n 3, 1) := by decide +kernel
theorem dX5_roughWeight_16 : decode cX5_roughWeight 16 = .ok (.if_icmp .ge 37, 3) := by decide +kernel
theorem dX5_roughWeight_19 : decode cX5_roughWeight 19 = .ok (.aload_n 2, 1) := by decide +kernel
theorem dX5_roughWeight_20 : decode cX5_roughWeight 20 = .ok (.iload 4, 2) := by decide +kernel
theorem dX5_roughWeight_22 : decode cX5_roughWeight 22 = .ok (.aaload, 1) := by decide +kernel
theorem dX5_roughWeight_23 : decode cX5_roughWeight 23 = .ok (.astore 5, 2) := by decide +kernel
theorem dX5_roughWeight_25 : decode cX5_roughWeight 25 = .ok (.aload 5, 2) := by decide +kernel
theorem dX5_roughWeight_27 : decode cX5_roughWeight 27 = .ok (.ifnull 20, 3) := by decide +kernel
theorem dX5_roughWeight_30 : decode cX5_roughWeight 30 = .ok (.aload 5, 2) := by decide +kernel
theorem dX5_roughWeight_32 : decode cX5_roughWeight 32 = .ok (.getfield 109, 3) := by decide +kernel
theorem dX5_roughWeight_35 : decode cX5_roughWeight 35 = .ok (.iconst 3, 1) := by decide +kernel
theorem dX5_roughWeight_36 : decode cX5_roughWeight 36 = .ok (.if_icmp .eq 11, 3) := by decide +kernel
theorem dX5_roughWeight_39 : decode cX5_roughWeight 39 = .ok (.iload_n 1, 1) := by decide +kernel
theorem dX5_roughWeight_40 : decode cX5_roughWeight 40 = .ok (.aload 5, 2) := by decide +kernel
theorem dX5_roughWeight_42 : decode cX5_roughWeight 42 = .ok (.getfield 262, 3) := by decide +kernel
theorem dX5_roughWeight_45 : decode cX5_roughWeight 45 = .ok (.iadd, 1) := by decide +kernel
theorem dX5_roughWeight_46 : decode cX5_roughWeight 46 = .ok (.istore_n 1, 1) := by decide +kernel
theorem dX5_roughWeight_47 : decode cX5_roughWeight 47 = .ok (.iinc 4 1, 3) := by decide +kernel
theorem dX5_roughWeight_50 : decode cX5_roughWeight 50 = .ok (.goto (-37), 3) := by decide +kernel
theorem dX5_roughWeight_53 : decode cX5_roughWeight 53 = .ok (.iload_n 1, 1) := by decide +kernel
theorem dX5_roughWeight_54 : decode cX5_roughWeight 54 = .ok (.ireturn, 1) := by decide +kernel
theorem dX5_polishedWeight_0 : decode cX5_polishedWeight 0 = .ok (.iconst 0, 1) := by decide +kernel
theorem dX5_polishedWeight_1 : decode cX5_polishedWeight 1 = .ok (.istore_n 1, 1) := by decide +kernel
theorem dX5_polishedWeight_2 : decode cX5_polishedWeight 2 = .ok (.aload_n 0, 1) := by decide +kernel
theorem dX5_polishedWeight_3 : decode cX5_polishedWeight 3 = .ok (.getfield 47, 3) := by decide +kernel
theorem dX5_polishedWeight_6 : decode cX5_polishedWeight 6 = .ok (.astore_n 2, 1) := by decide +kernel
theorem dX5_polishedWeight_7 : decode cX5_polishedWeight 7 = .ok (.aload_n 2, 1) := by decide +kernel
theorem dX5_polishedWeight_8 : decode cX5_polishedWeight 8 = .ok (.arraylength, 1) := by decide +kernel
theorem dX5_polishedWeight_9 : decode cX5_polishedWeight 9 = .ok (.istore_n 3, 1) := by decide +kernel
theorem dX5_polishedWeight_10 : decode cX5_polishedWeight 10 = .ok (.iconst 0, 1) := by decide +kernel
theorem dX5_polishedWeight_11 : decode cX5_polishedWeight 11 = .ok (.istore 4, 2) := by decide +kernel
theorem dX5_polishedWeight_13 : decode cX5_polishedWeight 13 = .ok (.iload 4, 2) := by decide +kernel
theorem dX5_polishedWeight_15 : decode cX5_polishedWeight 15 = .ok (.iload_n 3, 1) := by decide +kernel
theorem dX5_polishedWeight_16 : decode cX5_polishedWeight 16 = .ok (.if_icmp .ge 28, 3) := by decide +kernel
theorem dX5_polishedWeight_19 : decode cX5_polishedWeight 19 = .ok (.aload_n 2, 1) := by decide +kernel
theorem dX5_polishedWeight_20 : decode cX5_polishedWeight 20 = .ok (.iload 4, 2) := by decide +kernel
theorem dX5_polishedWeight_22 : decode cX5_polishedWeight 22 = .ok (.aaload, 1) := by decide +kernel
theorem dX5_polishedWeight_23 : decode cX5_polishedWeight 23 = .ok (.astore 5, 2) := by decide +kernel
theorem dX5_polishedWeight_25 : decode cX5_polishedWeight 25 = .ok (.aload 5, 2) := by decide +kernel
theorem dX5_polishedWeight_27 : decode cX5_polishedWeight 27 = .ok (.ifnull 11, 3) := by decide +kernel
theorem dX5_polishedWeight_30 : decode cX5_polishedWeight 30 = .ok (.iload_n 1, 1) := by decide +kernel
theorem dX5_polishedWeight_31 : decode cX5_polishedWeight 31 = .ok (.aload 5, 2) := by decide +kernel
theorem dX5_polishedWeight_33 : decode cX5_polishedWeight 33 = .ok (.getfield 280, 3) := by decide +kernel
theorem dX5_polishedWeight_36 : decode cX5_polishedWeight 36 = .ok (.iadd, 1) := by decide +kernel
theorem dX5_polishedWeight_37 : decode cX5_polishedWeight 37 = .ok (.istore_n 1, 1) := by decide +kernel
theorem dX5_polishedWeight_38 : decode cX5_polishedWeight 38 = .ok (.iinc 4 1, 3) := by decide +kernel
theorem dX5_polishedWeight_41 : decode cX5_polishedWeight 41 = .ok (.goto (-28), 3) := by decide +kernel
theorem dX5_polishedWeight_44 : decode cX5_polishedWeight 44 = .ok (.iload_n 1, 1) := by decide +kernel
theorem dX5_polishedWeight_45 : decode cX5_polishedWeight 45 = .ok (.ireturn, 1) := by decide +kernel
theorem dX5_wrongPapers_0 : decode cX5_wrongPapers 0 = .ok (.iconst 0, 1) := by decide +kernel
theorem dX5_wrongPapers_1 : decode cX5_wrongPapers 1 = .ok (.istore_n 1, 1) := by decide +kernel
theorem dX5_wrongPapers_2 : decode cX5_wrongPapers 2 = .ok (.aload_n 0, 1) := by decide +kernel
theorem dX5_wrongPapers_3 : decode cX5_wrongPapers 3 = .ok (.getfield 47, 3) := by decide +kernel
theorem dX5_wrongPapers_6 : decode cX5_wrongPapers 6 = .ok (.astore_n 2, 1) := by decide +kernel
theorem dX5_wrongPapers_7 : decode cX5_wrongPapers 7 = .ok (.aload_n 2, 1) := by decide +kernel
theorem dX5_wrongPapers_8 : decode cX5_wrongPapers 8 = .ok (.arraylength, 1) := by decide +kernel
theorem dX5_wrongPapers_9 : decode cX5_wrongPapers 9 = .ok (.istore_n 3, 1) := by decide +kernel
theorem dX5_wrongPapers_10 : decode cX5_wrongPapers 10 = .ok (.iconst 0, 1) := by decide +kernel
theorem dX5_wrongPapers_11 : decode cX5_wrongPapers 11 = .ok (.istore 4, 2) := by decide +kernel
theorem dX5_wrongPapers_13 : decode cX5_wrongPapers 13 = .ok (.iload 4, 2) := by decide +kernel
theorem dX5_wrongPapers_15 : decode cX5_wrongPapers 15 = .ok (.iload_n 3, 1) := by decide +kernel
theorem dX5_wrongPapers_16 : decode cX5_wrongPapers 16 = .ok (.if_icmp .ge 45, 3) := by decide +kernel
theorem dX5_wrongPapers_19 : decode cX5_wrongPapers 19 = .ok (.aload_n 2, 1) := by decide +kernel
theorem dX5_wrongPapers_20 : decode cX5_wrongPapers 20 = .ok (.iload 4, 2) := by decide +kernel
theorem dX5_wrongPapers_22 : decode cX5_wrongPapers 22 = .ok (.aaload, 1) := by decide +kernel
theorem dX5_wrongPapers_23 : decode cX5_wrongPapers 23 = .ok (.astore 5, 2) := by decide +kernel
theorem dX5_wrongPapers_25 : decode cX5_wrongPapers 25 = .ok (.aload 5, 2) := by decide +kernel
theorem dX5_wrongPapers_27 : decode cX5_wrongPapers 27 = .ok (.ifnull 28, 3) := by decide +kernel
theorem dX5_wrongPapers_30 : decode cX5_wrongPapers 30 = .ok (.aload 5, 2) := by decide +kernel
theorem dX5_wrongPapers_32 : decode cX5_wrongPapers 32 = .ok (.getfield 296, 3) := by decide +kernel
theorem dX5_wrongPapers_35 : decode cX5_wrongPapers 35 = .ok (.iconst (-1), 1) := by decide +kernel
theorem dX5_wrongPapers_36 : decode cX5_wrongPapers 36 = .ok (.if_icmp .eq 19, 3) := by decide +kernel
theorem dX5_wrongPapers_39 : decode cX5_wrongPapers 39 = .ok (.aload 5, 2) := by decide +kernel
theorem dX5_wrongPapers_41 : decode cX5_wrongPapers 41 = .ok (.getfield 296, 3) := by decide +kernel
theorem dX5_wrongPapers_44 : decode cX5_wrongPapers 44 = .ok (.aload 5, 2) := by decide +kernel
theorem dX5_wrongPapers_46 : decode cX5_wrongPapers 46 = .ok (.getfield 299, 3) := by decide +kernel
theorem dX5_wrongPapers_49 : decode cX5_wrongPapers 49 = .ok (.if_icmp .eq 6, 3) := by decide +kernel
theorem dX5_wrongPapers_52 : decode cX5_wrongPapers 52 = .ok (.iinc 1 1, 3) := by decide +kernel
theorem dX5_wrongPapers_55 : decode cX5_wrongPapers 55 = .ok (.iinc 4 1, 3) := by decide +kernel
theorem dX5_wrongPapers_58 : decode cX5_wrongPapers 58 = .ok (.goto (-45), 3) := by decide +kernel
theorem dX5_wrongPapers_61 : decode cX5_wrongPapers 61 = .ok (.iload_n 1, 1) := by decide +kernel
theorem dX5_wrongPapers_62 : decode cX5_wrongPapers 62 = .ok (.ireturn, 1) := by decide +kernel
theorem dX5_openBoxes_0 : decode cX5_openBoxes 0 = .ok (.aload_n 0, 1) := by decide +kernel
theorem dX5_openBoxes_1 : decode cX5_openBoxes 1 = .ok (.getfield 15, 3) := by decide +kernel
theorem dX5_openBoxes_4 : decode cX5_openBoxes 4 = .ok (.astore_n 1, 1) := by decide +kernel
theorem dX5_openBoxes_5 : decode cX5_openBoxes 5 = .ok (.aload_n 1, 1) := by decide +kernel
theorem dX5_openBoxes_6 : decode cX5_openBoxes 6 = .ok (.arraylength, 1) := by decide +kernel
theorem dX5_openBoxes_7 : decode cX5_openBoxes 7 = .ok (.istore_n 2, 1) := by decide +kernel
theorem dX5_openBoxes_8 : decode cX5_openBoxes 8 = .ok (.iconst 0, 1) := by decide +kernel
theorem dX5_openBoxes_9 : decode cX5_openBoxes 9 = .ok (.istore_n 3, 1) := by decide +kernel
theorem dX5_openBoxes_10 : decode cX5_openBoxes 10 = .ok (.iload_n 3, 1) := by decide +kernel
theorem dX5_openBoxes_11 : decode cX5_openBoxes 11 = .ok (.iload_n 2, 1) := by decide +kernel
theorem dX5_openBoxes_12 : decode cX5_openBoxes 12 = .ok (.if_icmp .ge 33, 3) := by decide +kernel
theorem dX5_openBoxes_15 : decode cX5_openBoxes 15 = .ok (.aload_n 1, 1) := by decide +kernel
theorem dX5_openBoxes_16 : decode cX5_openBoxes 16 = .ok (.iload_n 3, 1) := by decide +kernel
theorem dX5_openBoxes_17 : decode cX5_openBoxes 17 = .ok (.aaload, 1) := by decide +kernel
theorem dX5_openBoxes_18 : decode cX5_openBoxes 18 = .ok (.astore 4, 2) := by decide +kernel
theorem dX5_openBoxes_20 : decode cX5_openBoxes 20 = .ok (.aload 4, 2) := by decide +kernel
theorem dX5_openBoxes_22 : decode cX5_openBoxes 22 = .ok (.ifnull 17, 3) := by decide +kernel
theorem dX5_openBoxes_25 : decode cX5_openBoxes 25 = .ok (.aload 4, 2) := by decide +kernel
theorem dX5_openBoxes_27 : decode cX5_openBoxes 27 = .ok (.getfield 109, 3) := by decide +kernel
theorem dX5_openBoxes_30 : decode cX5_openBoxes 30 = .ok (.iconst 1, 1) := by decide +kernel
theorem dX5_openBoxes_31 : decode cX5_openBoxes 31 = .ok (.if_icmp .ne 8, 3) := by decide +kernel
theorem dX5_openBoxes_34 : decode cX5_openBoxes 34 = .ok (.aload 4, 2) := by decide +kernel
theorem dX5_openBoxes_36 : decode cX5_openBoxes 36 = .ok (.invokevirtual 194, 3) := by decide +kernel
theorem dX5_openBoxes_39 : decode cX5_openBoxes 39 = .ok (.iinc 3 1, 3) := by decide +kernel
theorem dX5_openBoxes_42 : decode cX5_openBoxes 42 = .ok (.goto (-32), 3) := by decide +kernel
theorem dX5_openBoxes_45 : decode cX5_openBoxes 45 = .ok (.aload_n 0, 1) := by decide +kernel
theorem dX5_openBoxes_46 : decode cX5_openBoxes 46 = .ok (.getfield 32, 3) := by decide +kernel
theorem dX5_openBoxes_49 : decode cX5_openBoxes 49 = .ok (.iconst (-1), 1) := by decide +kernel
theorem dX5_openBoxes_50 : decode cX5_openBoxes 50 = .ok (.invokestatic 60, 3) := by decide +kernel
theorem dX5_openBoxes_53 : decode cX5_openBoxes 53 = .ok (.aload_n 0, 1) := by decide +kernel
theorem dX5_openBoxes_54 : decode cX5_openBoxes 54 = .ok (.getfield 35, 3) := by decide +kernel
theorem dX5_openBoxes_57 : decode cX5_openBoxes 57 = .ok (.iconst 0, 1) := by decide +kernel
theorem dX5_openBoxes_58 : decode cX5_openBoxes 58 = .ok (.invokestatic 60, 3) := by decide +kernel
theorem dX5_openBoxes_61 : decode cX5_openBoxes 61 = .ok (.return_, 1) := by decide +kernel
theorem dX5_fillBoxes_0 : decode cX5_fillBoxes 0 = .ok (.iconst 0, 1) := by decide +kernel
theorem dX5_fillBoxes_1 : decode cX5_fillBoxes 1 = .ok (.istore_n 1, 1) := by decide +kernel
theorem dX5_fillBoxes_2 : decode cX5_fillBoxes 2 = .ok (.iload_n 1, 1) := by decide +kernel
theorem dX5_fillBoxes_3 : decode cX5_fillBoxes 3 = .ok (.bipush 40, 2) := by decide +kernel
theorem dX5_fillBoxes_5 : decode cX5_fillBoxes 5 = .ok (.if_icmp .ge 52, 3) := by decide +kernel
theorem dX5_fillBoxes_8 : decode cX5_fillBoxes 8 = .ok (.aload_n 0, 1) := by decide +kernel
theorem dX5_fillBoxes_9 : decode cX5_fillBoxes 9 = .ok (.invokevirtual 341, 3) := by decide +kernel
theorem dX5_fillBoxes_12 : decode cX5_fillBoxes 12 = .ok (.astore_n 2, 1) := by decide +kernel
theorem dX5_fillBoxes_13 : decode cX5_fillBoxes 13 = .ok (.aload_n 2, 1) := by decide +kernel
theorem dX5_fillBoxes_14 : decode cX5_fillBoxes 14 = .ok (.ifnonnull 6, 3) := by decide +kernel
theorem dX5_fillBoxes_17 : decode cX5_fillBoxes 17 = .ok (.goto 40, 3) := by decide +kernel
theorem dX5_fillBoxes_20 : decode cX5_fillBoxes 20 = .ok (.aload_n 0, 1) := by decide +kernel
theorem dX5_fillBoxes_21 : decode cX5_fillBoxes 21 = .ok (.invokevirtual 345, 3) := by decide +kernel
theorem dX5_fillBoxes_24 : decode cX5_fillBoxes 24 = .ok (.istore_n 3, 1) := by decide +kernel
theorem dX5_fillBoxes_25 : decode cX5_fillBoxes 25 = .ok (.aload_n 0, 1) := by decide +kernel
theorem dX5_fillBoxes_26 : decode cX5_fillBoxes 26 = .ok (.getfield 35, 3) := by decide +kernel
theorem dX5_fillBoxes_29 : decode cX5_fillBoxes 29 = .ok (.iload_n 3, 1) := by decide +kernel
theorem dX5_fillBoxes_30 : decode cX5_fillBoxes 30 = .ok (.aload_n 0, 1) := by decide +kernel
theorem dX5_fillBoxes_31 : decode cX5_fillBoxes 31 = .ok (.getfield 25, 3) := by decide +kernel
theorem dX5_fillBoxes_34 : decode cX5_fillBoxes 34 = .ok (.aload_n 2, 1) := by decide +kernel
theorem dX5_fillBoxes_35 : decode cX5_fillBoxes 35 = .ok (.invokevirtual 149, 3) := by decide +kernel
theorem dX5_fillBoxes_38 : decode cX5_fillBoxes 38 = .ok (.invokestatic 101, 3) := by decide +kernel
theorem dX5_fillBoxes_41 : decode cX5_fillBoxes 41 = .ok (.aload_n 2, 1) := by decide +kernel
theorem dX5_fillBoxes_42 : decode cX5_fillBoxes 42 = .ok (.iload_n 3, 1) := by decide +kernel
theorem dX5_fillBoxes_43 : decode cX5_fillBoxes 43 = .ok (.invokevirtual 348, 3) := by decide +kernel
theorem dX5_fillBoxes_46 : decode cX5_fillBoxes 46 = .ok (.aload_n 0, 1) := by decide +kernel
theorem dX5_fillBoxes_47 : decode cX5_fillBoxes 47 = .ok (.aload_n 2, 1) := by decide +kernel
theorem dX5_fillBoxes_48 : decode cX5_fillBoxes 48 = .ok (.invokevirtual 272, 3) := by decide +kernel
theorem dX5_fillBoxes_51 : decode cX5_fillBoxes 51 = .ok (.iinc 1 1, 3) := by decide +kernel
theorem dX5_fillBoxes_54 : decode cX5_fillBoxes 54 = .ok (.goto (-52), 3) := by decide +kernel
theorem dX5_fillBoxes_57 : decode cX5_fillBoxes 57 = .ok (.iload_n 1, 1) := by decide +kernel
theorem dX5_fillBoxes_58 : decode cX5_fillBoxes 58 = .ok (.ireturn, 1) := by decide +kernel
theorem dX5_dearestToBox_0 : decode cX5_dearestToBox 0 = .ok (.aconst_null, 1) := by decide +kernel
theorem dX5_dearestToBox_1 : decode cX5_dearestToBox 1 = .ok (.astore_n 1, 1) := by decide +kernel
theorem dX5_dearestToBox_2 : decode cX5_dearestToBox 2 = .ok (.aload_n 0, 1) := by decide +kernel
theorem dX5_dearestToBox_3 : decode cX5_dearestToBox 3 = .ok (.getfield 15, 3) := by decide +kernel
theorem dX5_dearestToBox_6 : decode cX5_dearestToBox 6 = .ok (.astore_n 2, 1) := by decide +kernel
theorem dX5_dearestToBox_7 : decode cX5_dearestToBox 7 = .ok (.aload_n 2, 1) := by decide +kernel
theorem dX5_dearestToBox_8 : decode cX5_dearestToBox 8 = .ok (.arraylength, 1) := by decide +kernel
theorem dX5_dearestToBox_9 : decode cX5_dearestToBox 9 = .ok (.istore_n 3, 1) := by decide +kernel
theorem dX5_dearestToBox_10 : decode cX5_dearestToBox 10 = .ok (.iconst 0, 1) := by decide +kernel
theorem dX5_dearestToBox_11 : decode cX5_dearestToBox 11 = .ok (.istore 4, 2) := by decide +kernel
theorem dX5_dearestToBox_13 : decode cX5_dearestToBox 13 = .ok (.iload 4, 2) := by decide +kernel
theorem dX5_dearestToBox_15 : decode cX5_dearestToBox 15 = .ok (.iload_n 3, 1) := by decide +kernel
theorem dX5_dearestToBox_16 : decode cX5_dearestToBox 16 = .ok (.if_icmp .ge 55, 3) := by decide +kernel
theorem dX5_dearestToBox_19 : decode cX5_dearestToBox 19 = .ok (.aload_n 2, 1) := by decide +kernel
theorem dX5_dearestToBox_20 : decode cX5_dearestToBox 20 = .ok (.iload 4, 2) := by decide +kernel
theorem dX5_dearestToBox_22 : decode cX5_dearestToBox 22 = .ok (.aaload, 1) := by decide +kernel
theorem dX5_dearestToBox_23 : decode cX5_dearestToBox 23 = .ok (.astore 5, 2) := by decide +kernel
theorem dX5_dearestToBox_25 : decode cX5_dearestToBox 25 = .ok (.aload 5, 2) := by decide +kernel
theorem dX5_dearestToBox_27 : decode cX5_dearestToBox 27 = .ok (.ifnull 38, 3) := by decide +kernel
theorem dX5_dearestToBox_30 : decode cX5_dearestToBox 30 = .ok (.aload 5, 2) := by decide +kernel
theorem dX5_dearestToBox_32 : decode cX5_dearestToBox 32 = .ok (.invokevirtual 351, 3) := by decide +kernel
theorem dX5_dearestToBox_35 : decode cX5_dearestToBox 35 = .ok (.ifCond .eq 30, 3) := by decide +kernel
theorem dX5_dearestToBox_38 : decode cX5_dearestToBox 38 = .ok (.aload_n 1, 1) := by decide +kernel
theorem dX5_dearestToBox_39 : decode cX5_dearestToBox 39 = .ok (.ifnull 23, 3) := by decide +kernel
theorem dX5_dearestToBox_42 : decode cX5_dearestToBox 42 = .ok (.aload_n 0, 1) := by decide +kernel
theorem dX5_dearestToBox_43 : decode cX5_dearestToBox 43 = .ok (.getfield 25, 3) := by decide +kernel
theorem dX5_dearestToBox_46 : decode cX5_dearestToBox 46 = .ok (.aload 5, 2) := by decide +kernel
theorem dX5_dearestToBox_48 : decode cX5_dearestToBox 48 = .ok (.invokevirtual 149, 3) := by decide +kernel
theorem dX5_dearestToBox_51 : decode cX5_dearestToBox 51 = .ok (.aload_n 0, 1) := by decide +kernel
theorem dX5_dearestToBox_52 : decode cX5_dearestToBox 52 = .ok (.getfield 25, 3) := by decide +kernel
theorem dX5_dearestToBox_55 : decode cX5_dearestToBox 55 = .ok (.aload_n 1, 1) := by decide +kernel
theorem dX5_dearestToBox_56 : decode cX5_dearestToBox 56 = .ok (.invokevirtual 149, 3) := by decide +kernel
theorem dX5_dearestToBox_59 : decode cX5_dearestToBox 59 = .ok (.if_icmp .le 6, 3) := by decide +kernel
theorem dX5_dearestToBox_62 : decode cX5_dearestToBox 62 = .ok (.aload 5, 2) := by decide +kernel
theorem dX5_dearestToBox_64 : decode cX5_dearestToBox 64 = .ok (.astore_n 1, 1) := by decide +kernel
theorem dX5_dearestToBox_65 : decode cX5_dearestToBox 65 = .ok (.iinc 4 1, 3) := by decide +kernel
theorem dX5_dearestToBox_68 : decode cX5_dearestToBox 68 = .ok (.goto (-55), 3) := by decide +kernel
theorem dX5_dearestToBox_71 : decode cX5_dearestToBox 71 = .ok (.aload_n 1, 1) := by decide +kernel
theorem dX5_dearestToBox_72 : decode cX5_dearestToBox 72 = .ok (.areturn, 1) := by decide +kernel
theorem dX5_poorestBox_0 : decode cX5_poorestBox 0 = .ok (.iconst 0, 1) := by decide +kernel
theorem dX5_poorestBox_1 : decode cX5_poorestBox 1 = .ok (.istore_n 1, 1) := by decide +kernel
theorem dX5_poorestBox_2 : decode cX5_poorestBox 2 = .ok (.iconst 1, 1) := by decide +kernel
theorem dX5_poorestBox_3 : decode cX5_poorestBox 3 = .ok (.istore_n 2, 1) := by decide +kernel
theorem dX5_poorestBox_4 : decode cX5_poorestBox 4 = .ok (.iload_n 2, 1) := by decide +kernel
theorem dX5_poorestBox_5 : decode cX5_poorestBox 5 = .ok (.aload_n 0, 1) := by decide +kernel
theorem dX5_poorestBox_6 : decode cX5_poorestBox 6 = .ok (.getfield 180, 3) := by decide +kernel
theorem dX5_poorestBox_9 : decode cX5_poorestBox 9 = .ok (.if_icmp .ge 35, 3) := by decide +kernel
theorem dX5_poorestBox_12 : decode cX5_poorestBox 12 = .ok (.iload_n 2, 1) := by decide +kernel
theorem dX5_poorestBox_13 : decode cX5_poorestBox 13 = .ok (.aload_n 0, 1) := by decide +kernel
theorem dX5_poorestBox_14 : decode cX5_poorestBox 14 = .ok (.getfield 35, 3) := by decide +kernel
theorem dX5_poorestBox_17 : decode cX5_poorestBox 17 = .ok (.arraylength, 1) := by decide +kernel
theorem dX5_poorestBox_18 : decode cX5_poorestBox 18 = .ok (.if_icmp .ge 26, 3) := by decide +kernel
theorem dX5_poorestBox_21 : decode cX5_poorestBox 21 = .ok (.aload_n 0, 1) := by decide +kernel
theorem dX5_poorestBox_22 : decode cX5_poorestBox 22 = .ok (.getfield 35, 3) := by decide +kernel
theorem dX5_poorestBox_25 : decode cX5_poorestBox 25 = .ok (.iload_n 2, 1) := by decide +kernel
theorem dX5_poorestBox_26 : decode cX5_poorestBox 26 = .ok (.iaload, 1) := by decide +kernel
theorem dX5_poorestBox_27 : decode cX5_poorestBox 27 = .ok (.aload_n 0, 1) := by decide +kernel
theorem dX5_poorestBox_28 : decode cX5_poorestBox 28 = .ok (.getfield 35, 3) := by decide +kernel
theorem dX5_poorestBox_31 : decode cX5_poorestBox 31 = .ok (.iload_n 1, 1) := by decide +kernel
theorem dX5_poorestBox_32 : decode cX5_poorestBox 32 = .ok (.iaload, 1) := by decide +kernel
theorem dX5_poorestBox_33 : decode cX5_poorestBox 33 = .ok (.if_icmp .ge 5, 3) := by decide +kernel
theorem dX5_poorestBox_36 : decode cX5_poorestBox 36 = .ok (.iload_n 2, 1) := by decide +kernel
theorem dX5_poorestBox_37 : decode cX5_poorestBox 37 = .ok (.istore_n 1, 1) := by decide +kernel
theorem dX5_poorestBox_38 : decode cX5_poorestBox 38 = .ok (.iinc 2 1, 3) := by decide +kernel
theorem dX5_poorestBox_41 : decode cX5_poorestBox 41 = .ok (.goto (-37), 3) := by decide +kernel
theorem dX5_poorestBox_44 : decode cX5_poorestBox 44 = .ok (.iload_n 1, 1) := by decide +kernel
theorem dX5_poorestBox_45 : decode cX5_poorestBox 45 = .ok (.ireturn, 1) := by decide +kernel
theorem dX5_offerBoxes_0 : decode cX5_offerBoxes 0 = .ok (.iconst 0, 1) := by decide +kernel
theorem dX5_offerBoxes_1 : decode cX5_offerBoxes 1 = .ok (.istore_n 1, 1) := by decide +kernel
theorem dX5_offerBoxes_2 : decode cX5_offerBoxes 2 = .ok (.iload_n 1, 1) := by decide +kernel
theorem dX5_offerBoxes_3 : decode cX5_offerBoxes 3 = .ok (.aload_n 0, 1) := by decide +kernel
theorem dX5_offerBoxes_4 : decode cX5_offerBoxes 4 = .ok (.getfield 180, 3) := by decide +kernel
theorem dX5_offerBoxes_7 : decode cX5_offerBoxes 7 = .ok (.if_icmp .ge 38, 3) := by decide +kernel
theorem dX5_offerBoxes_10 : decode cX5_offerBoxes 10 = .ok (.aload_n 0, 1) := by decide +kernel
theorem dX5_offerBoxes_11 : decode cX5_offerBoxes 11 = .ok (.invokevirtual 354, 3) := by decide +kernel
theorem dX5_offerBoxes_14 : decode cX5_offerBoxes 14 = .ok (.istore_n 2, 1) := by decide +kernel
theorem dX5_offerBoxes_15 : decode cX5_offerBoxes 15 = .ok (.aload_n 0, 1) := by decide +kernel
theorem dX5_offerBoxes_16 : decode cX5_offerBoxes 16 = .ok (.invokevirtual 357, 3) := by decide +kernel
theorem dX5_offerBoxes_19 : decode cX5_offerBoxes 19 = .ok (.istore_n 3, 1) := by decide +kernel
theorem dX5_offerBoxes_20 : decode cX5_offerBoxes 20 = .ok (.iload_n 2, 1) := by decide +kernel
theorem dX5_offerBoxes_21 : decode cX5_offerBoxes 21 = .ok (.aload_n 0, 1) := by decide +kernel
theorem dX5_offerBoxes_22 : decode cX5_offerBoxes 22 = .ok (.getfield 32, 3) := by decide +kernel
theorem dX5_offerBoxes_25 : decode cX5_offerBoxes 25 = .ok (.arraylength, 1) := by decide +kernel
theorem dX5_offerBoxes_26 : decode cX5_offerBoxes 26 = .ok (.invokestatic 74, 3) := by decide +kernel
theorem dX5_offerBoxes_29 : decode cX5_offerBoxes 29 = .ok (.ifCond .eq 10, 3) := by decide +kernel
theorem dX5_offerBoxes_32 : decode cX5_offerBoxes 32 = .ok (.aload_n 0, 1) := by decide +kernel
theorem dX5_offerBoxes_33 : decode cX5_offerBoxes 33 = .ok (.getfield 32, 3) := by decide +kernel
theorem dX5_offerBoxes_36 : decode cX5_offerBoxes 36 = .ok (.iload_n 2, 1) := by decide +kernel
theorem dX5_offerBoxes_37 : decode cX5_offerBoxes 37 = .ok (.iload_n 3, 1) := by decide +kernel
theorem dX5_offerBoxes_38 : decode cX5_offerBoxes 38 = .ok (.iastore, 1) := by decide +kernel
theorem dX5_offerBoxes_39 : decode cX5_offerBoxes 39 = .ok (.iinc 1 1, 3) := by decide +kernel
theorem dX5_offerBoxes_42 : decode cX5_offerBoxes 42 = .ok (.goto (-40), 3) := by decide +kernel
theorem dX5_offerBoxes_45 : decode cX5_offerBoxes 45 = .ok (.return_, 1) := by decide +kernel
theorem dX5_bestFreeBuyer_0 : decode cX5_bestFreeBuyer 0 = .ok (.iconst (-1), 1) := by decide +kernel
theorem dX5_bestFreeBuyer_1 : decode cX5_bestFreeBuyer 1 = .ok (.istore_n 1, 1) := by decide +kernel
theorem dX5_bestFreeBuyer_2 : decode cX5_bestFreeBuyer 2 = .ok (.iconst 0, 1) := by decide +kernel
theorem dX5_bestFreeBuyer_3 : decode cX5_bestFreeBuyer 3 = .ok (.istore_n 2, 1) := by decide +kernel
theorem dX5_bestFreeBuyer_4 : decode cX5_bestFreeBuyer 4 = .ok (.iload_n 2, 1) := by decide +kernel
theorem dX5_bestFreeBuyer_5 : decode cX5_bestFreeBuyer 5 = .ok (.iconst 5, 1) := by decide +kernel
theorem dX5_bestFreeBuyer_6 : decode cX5_bestFreeBuyer 6 = .ok (.if_icmp .ge 41, 3) := by decide +kernel
theorem dX5_bestFreeBuyer_9 : decode cX5_bestFreeBuyer 9 = .ok (.aload_n 0, 1) := by decide +kernel
theorem dX5_bestFreeBuyer_10 : decode cX5_bestFreeBuyer 10 = .ok (.getfield 32, 3) := by decide +kernel
theorem dX5_bestFreeBuyer_13 : decode cX5_bestFreeBuyer 13 = .ok (.iload_n 2, 1) := by decide +kernel
theorem dX5_bestFreeBuyer_14 : decode cX5_bestFreeBuyer 14 = .ok (.iaload, 1) := by decide +kernel
theorem dX5_bestFreeBuyer_15 : decode cX5_bestFreeBuyer 15 = .ok (.iconst (-1), 1) := by decide +kernel
theorem dX5_bestFreeBuyer_16 : decode cX5_bestFreeBuyer 16 = .ok (.if_icmp .ne 25, 3) := by decide +kernel
theorem dX5_bestFreeBuyer_19 : decode cX5_bestFreeBuyer 19 = .ok (.iload_n 1, 1) := by decide +kernel
theorem dX5_bestFreeBuyer_20 : decode cX5_bestFreeBuyer 20 = .ok (.iconst (-1), 1) := by decide +kernel
theorem dX5_bestFreeBuyer_21 : decode cX5_bestFreeBuyer 21 = .ok (.if_icmp .eq 18, 3) := by decide +kernel
theorem dX5_bestFreeBuyer_24 : decode cX5_bestFreeBuyer 24 = .ok (.aload_n 0, 1) := by decide +kernel
theorem dX5_bestFreeBuyer_25 : decode cX5_bestFreeBuyer 25 = .ok (.getfield 29, 3) := by decide +kernel
theorem dX5_bestFreeBuyer_28 : decode cX5_bestFreeBuyer 28 = .ok (.iload_n 2, 1) := by decide +kernel
theorem dX5_bestFreeBuyer_29 : decode cX5_bestFreeBuyer 29 = .ok (.iaload, 1) := by decide +kernel
theorem dX5_bestFreeBuyer_30 : decode cX5_bestFreeBuyer 30 = .ok (.aload_n 0, 1) := by decide +kernel
theorem dX5_bestFreeBuyer_31 : decode cX5_bestFreeBuyer 31 = .ok (.getfield 29, 3) := by decide +kernel
theorem dX5_bestFreeBuyer_34 : decode cX5_bestFreeBuyer 34 = .ok (.iload_n 1, 1) := by decide +kernel
theorem dX5_bestFreeBuyer_35 : decode cX5_bestFreeBuyer 35 = .ok (.iaload, 1) := by decide +kernel
theorem dX5_bestFreeBuyer_36 : decode cX5_bestFreeBuyer 36 = .ok (.if_icmp .le 5, 3) := by decide +kernel
theorem dX5_bestFreeBuyer_39 : decode cX5_bestFreeBuyer 39 = .ok (.iload_n 2, 1) := by decide +kernel
theorem dX5_bestFreeBuyer_40 : decode cX5_bestFreeBuyer 40 = .ok (.istore_n 1, 1) := by decide +kernel
theorem dX5_bestFreeBuyer_41 : decode cX5_bestFreeBuyer 41 = .ok (.iinc 2 1, 3) := by decide +kernel
theorem dX5_bestFreeBuyer_44 : decode cX5_bestFreeBuyer 44 = .ok (.goto (-40), 3) := by decide +kernel
theorem dX5_bestFreeBuyer_47 : decode cX5_bestFreeBuyer 47 = .ok (.iload_n 1, 1) := by decide +kernel
theorem dX5_bestFreeBuyer_48 : decode cX5_bestFreeBuyer 48 = .ok (.ireturn, 1) := by decide +kernel
theorem dX5_richestFreeBox_0 : decode cX5_richestFreeBox 0 = .ok (.iconst (-1), 1) := by decide +kernel
theorem dX5_richestFreeBox_1 : decode cX5_richestFreeBox 1 = .ok (.istore_n 1, 1) := by decide +kernel
theorem dX5_richestFreeBox_2 : decode cX5_richestFreeBox 2 = .ok (.iconst 0, 1) := by decide +kernel
theorem dX5_richestFreeBox_3 : decode cX5_richestFreeBox 3 = .ok (.istore_n 2, 1) := by decide +kernel
theorem dX5_richestFreeBox_4 : decode cX5_richestFreeBox 4 = .ok (.iload_n 2, 1) := by decide +kernel
theorem dX5_richestFreeBox_5 : decode cX5_richestFreeBox 5 = .ok (.aload_n 0, 1) := by decide +kernel
theorem dX5_richestFreeBox_6 : decode cX5_richestFreeBox 6 = .ok (.getfield 180, 3) := by decide +kernel
theorem dX5_richestFreeBox_9 : decode cX5_richestFreeBox 9 = .ok (.if_icmp .ge 48, 3) := by decide +kernel
theorem dX5_richestFreeBox_12 : decode cX5_richestFreeBox 12 = .ok (.iload_n 2, 1) := by decide +kernel
theorem dX5_richestFreeBox_13 : decode cX5_richestFreeBox 13 = .ok (.aload_n 0, 1) := by decide +kernel
theorem dX5_richestFreeBox_14 : decode cX5_richestFreeBox 14 = .ok (.getfield 35, 3) := by decide +kernel
theorem dX5_richestFreeBox_17 : decode cX5_richestFreeBox 17 = .ok (.arraylength, 1) := by decide +kernel
theorem dX5_richestFreeBox_18 : decode cX5_richestFreeBox 18 = .ok (.if_icmp .ge 39, 3) := by decide +kernel
theorem dX5_richestFreeBox_21 : decode cX5_richestFreeBox 21 = .ok (.aload_n 0, 1) := by decide +kernel
theorem dX5_richestFreeBox_22 : decode cX5_richestFreeBox 22 = .ok (.iload_n 2, 1) := by decide +kernel
theorem dX5_richestFreeBox_23 : decode cX5_richestFreeBox 23 = .ok (.invokevirtual 189, 3) := by decide +kernel
theorem dX5_richestFreeBox_26 : decode cX5_richestFreeBox 26 = .ok (.ifCond .ne 25, 3) := by decide +kernel
theorem dX5_richestFreeBox_29 : decode cX5_richestFreeBox 29 = .ok (.iload_n 1, 1) := by decide +kernel
theorem dX5_richestFreeBox_30 : decode cX5_richestFreeBox 30 = .ok (.iconst (-1), 1) := by decide +kernel
theorem dX5_richestFreeBox_31 : decode cX5_richestFreeBox 31 = .ok (.if_icmp .eq 18, 3) := by decide +kernel
theorem dX5_richestFreeBox_34 : decode cX5_richestFreeBox 34 = .ok (.aload_n 0, 1) := by decide +kernel
theorem dX5_richestFreeBox_35 : decode cX5_richestFreeBox 35 = .ok (.getfield 35, 3) := by decide +kernel
theorem dX5_richestFreeBox_38 : decode cX5_richestFreeBox 38 = .ok (.iload_n 2, 1) := by decide +kernel
theorem dX5_richestFreeBox_39 : decode cX5_richestFreeBox 39 = .ok (.iaload, 1) := by decide +kernel
theorem dX5_richestFreeBox_40 : decode cX5_richestFreeBox 40 = .ok (.aload_n 0, 1) := by decide +kernel
theorem dX5_richestFreeBox_41 : decode cX5_richestFreeBox 41 = .ok (.getfield 35, 3) := by decide +kernel
theorem dX5_richestFreeBox_44 : decode cX5_richestFreeBox 44 = .ok (.iload_n 1, 1) := by decide +kernel
theorem dX5_richestFreeBox_45 : decode cX5_richestFreeBox 45 = .ok (.iaload, 1) := by decide +kernel
theorem dX5_richestFreeBox_46 : decode cX5_richestFreeBox 46 = .ok (.if_icmp .le 5, 3) := by decide +kernel
theorem dX5_richestFreeBox_49 : decode cX5_richestFreeBox 49 = .ok (.iload_n 2, 1) := by decide +kernel
theorem dX5_richestFreeBox_50 : decode cX5_richestFreeBox 50 = .ok (.istore_n 1, 1) := by decide +kernel
theorem dX5_richestFreeBox_51 : decode cX5_richestFreeBox 51 = .ok (.iinc 2 1, 3) := by decide +kernel
theorem dX5_richestFreeBox_54 : decode cX5_richestFreeBox 54 = .ok (.goto (-50), 3) := by decide +kernel
theorem dX5_richestFreeBox_57 : decode cX5_richestFreeBox 57 = .ok (.iload_n 1, 1) := by decide +kernel
theorem dX5_richestFreeBox_58 : decode cX5_richestFreeBox 58 = .ok (.ireturn, 1) := by decide +kernel
theorem dX5_isOffered_0 : decode cX5_isOffered 0 = .ok (.aload_n 0, 1) := by decide +kernel
theorem dX5_isOffered_1 : decode cX5_isOffered 1 = .ok (.getfield 32, 3) := by decide +kernel
theorem dX5_isOffered_4 : decode cX5_isOffered 4 = .ok (.astore_n 2, 1) := by decide +kernel
theorem dX5_isOffered_5 : decode cX5_isOffered 5 = .ok (.aload_n 2, 1) := by decide +kernel
theorem dX5_isOffered_6 : decode cX5_isOffered 6 = .ok (.arraylength, 1) := by decide +kernel
theorem dX5_isOffered_7 : decode cX5_isOffered 7 = .ok (.istore_n 3, 1) := by decide +kernel
theorem dX5_isOffered_8 : decode cX5_isOffered 8 = .ok (.iconst 0, 1) := by decide +kernel
theorem dX5_isOffered_9 : decode cX5_isOffered 9 = .ok (.istore 4, 2) := by decide +kernel
theorem dX5_isOffered_11 : decode cX5_isOffered 11 = .ok (.iload 4, 2) := by decide +kernel
theorem dX5_isOffered_13 : decode cX5_isOffered 13 = .ok (.iload_n 3, 1) := by decide +kernel
theorem dX5_isOffered_14 : decode cX5_isOffered 14 = .ok (.if_icmp .ge 23, 3) := by decide +kernel
theorem dX5_isOffered_17 : decode cX5_isOffered 17 = .ok (.aload_n 2, 1) := by decide +kernel
theorem dX5_isOffered_18 : decode cX5_isOffered 18 = .ok (.iload 4, 2) := by decide +kernel
theorem dX5_isOffered_20 : decode cX5_isOffered 20 = .ok (.iaload, 1) := by decide +kernel
theorem dX5_isOffered_21 : decode cX5_isOffered 21 = .ok (.istore 5, 2) := by decide +kernel
theorem dX5_isOffered_23 : decode cX5_isOffered 23 = .ok (.iload 5, 2) := by decide +kernel
theorem dX5_isOffered_25 : decode cX5_isOffered 25 = .ok (.iload_n 1, 1) := by decide +kernel
theorem dX5_isOffered_26 : decode cX5_isOffered 26 = .ok (.if_icmp .ne 5, 3) := by decide +kernel
theorem dX5_isOffered_29 : decode cX5_isOffered 29 = .ok (.iconst 1, 1) := by decide +kernel
theorem dX5_isOffered_30 : decode cX5_isOffered 30 = .ok (.ireturn, 1) := by decide +kernel
theorem dX5_isOffered_31 : decode cX5_isOffered 31 = .ok (.iinc 4 1, 3) := by decide +kernel
theorem dX5_isOffered_34 : decode cX5_isOffered 34 = .ok (.goto (-23), 3) := by decide +kernel
theorem dX5_isOffered_37 : decode cX5_isOffered 37 = .ok (.iconst 0, 1) := by decide +kernel
theorem dX5_isOffered_38 : decode cX5_isOffered 38 = .ok (.ireturn, 1) := by decide +kernel
theorem dX5_changeConduct_0 : decode cX5_changeConduct 0 = .ok (.iload_n 1, 1) := by decide +kernel
theorem dX5_changeConduct_1 : decode cX5_changeConduct 1 = .ok (.aload_n 0, 1) := by decide +kernel
theorem dX5_changeConduct_2 : decode cX5_changeConduct 2 = .ok (.getfield 29, 3) := by decide +kernel
theorem dX5_changeConduct_5 : decode cX5_changeConduct 5 = .ok (.arraylength, 1) := by decide +kernel
theorem dX5_changeConduct_6 : decode cX5_changeConduct 6 = .ok (.invokestatic 74, 3) := by decide +kernel
theorem dX5_changeConduct_9 : decode cX5_changeConduct 9 = .ok (.ifCond .ne 5, 3) := by decide +kernel
theorem dX5_changeConduct_12 : decode cX5_changeConduct 12 = .ok (.iconst (-1), 1) := by decide +kernel
theorem dX5_changeConduct_13 : decode cX5_changeConduct 13 = .ok (.ireturn, 1) := by decide +kernel
theorem dX5_changeConduct_14 : decode cX5_changeConduct 14 = .ok (.aload_n 0, 1) := by decide +kernel
theorem dX5_changeConduct_15 : decode cX5_changeConduct 15 = .ok (.getfield 29, 3) := by decide +kernel
theorem dX5_changeConduct_18 : decode cX5_changeConduct 18 = .ok (.iload_n 1, 1) := by decide +kernel
theorem dX5_changeConduct_19 : decode cX5_changeConduct 19 = .ok (.aload_n 0, 1) := by decide +kernel
theorem dX5_changeConduct_20 : decode cX5_changeConduct 20 = .ok (.getfield 29, 3) := by decide +kernel
theorem dX5_changeConduct_23 : decode cX5_changeConduct 23 = .ok (.iload_n 1, 1) := by decide +kernel
theorem dX5_changeConduct_24 : decode cX5_changeConduct 24 = .ok (.iaload, 1) := by decide +kernel
theorem dX5_changeConduct_25 : decode cX5_changeConduct 25 = .ok (.iload_n 2, 1) := by decide +kernel
theorem dX5_changeConduct_26 : decode cX5_changeConduct 26 = .ok (.iadd, 1) := by decide +kernel
theorem dX5_changeConduct_27 : decode cX5_changeConduct 27 = .ok (.iconst 0, 1) := by decide +kernel
theorem dX5_changeConduct_28 : decode cX5_changeConduct 28 = .ok (.bipush 100, 2) := by decide +kernel
theorem dX5_changeConduct_30 : decode cX5_changeConduct 30 = .ok (.invokestatic 134, 3) := by decide +kernel
theorem dX5_changeConduct_33 : decode cX5_changeConduct 33 = .ok (.iastore, 1) := by decide +kernel
theorem dX5_changeConduct_34 : decode cX5_changeConduct 34 = .ok (.aload_n 0, 1) := by decide +kernel
theorem dX5_changeConduct_35 : decode cX5_changeConduct 35 = .ok (.getfield 29, 3) := by decide +kernel
theorem dX5_changeConduct_38 : decode cX5_changeConduct 38 = .ok (.iload_n 1, 1) := by decide +kernel
theorem dX5_changeConduct_39 : decode cX5_changeConduct 39 = .ok (.iaload, 1) := by decide +kernel
theorem dX5_changeConduct_40 : decode cX5_changeConduct 40 = .ok (.ireturn, 1) := by decide +kernel
theorem dX5_endTenderOf_0 : decode cX5_endTenderOf 0 = .ok (.aload_n 0, 1) := by decide +kernel
theorem dX5_endTenderOf_1 : decode cX5_endTenderOf 1 = .ok (.getfield 41, 3) := by decide +kernel
theorem dX5_endTenderOf_4 : decode cX5_endTenderOf 4 = .ok (.getfield 222, 3) := by decide +kernel
theorem dX5_endTenderOf_7 : decode cX5_endTenderOf 7 = .ok (.aload_n 1, 1) := by decide +kernel
theorem dX5_endTenderOf_8 : decode cX5_endTenderOf 8 = .ok (.if_acmp .ne 10, 3) := by decide +kernel
theorem dX5_endTenderOf_11 : decode cX5_endTenderOf 11 = .ok (.aload_n 0, 1) := by decide +kernel
theorem dX5_endTenderOf_12 : decode cX5_endTenderOf 12 = .ok (.getfield 41, 3) := by decide +kernel
theorem dX5_endTenderOf_15 : decode cX5_endTenderOf 15 = .ok (.invokevirtual 232, 3) := by decide +kernel
theorem dX5_endTenderOf_18 : decode cX5_endTenderOf 18 = .ok (.return_, 1) := by decide +kernel
theorem dX5_tenderWinner_0 : decode cX5_tenderWinner 0 = .ok (.iconst (-1), 1) := by decide +kernel
theorem dX5_tenderWinner_1 : decode cX5_tenderWinner 1 = .ok (.istore_n 1, 1) := by decide +kernel
theorem dX5_tenderWinner_2 : decode cX5_tenderWinner 2 = .ok (.iconst 0, 1) := by decide +kernel
theorem dX5_tenderWinner_3 : decode cX5_tenderWinner 3 = .ok (.istore_n 2, 1) := by decide +kernel
theorem dX5_tenderWinner_4 : decode cX5_tenderWinner 4 = .ok (.iload_n 2, 1) := by decide +kernel
theorem dX5_tenderWinner_5 : decode cX5_tenderWinner 5 = .ok (.iconst 5, 1) := by decide +kernel
theorem dX5_tenderWinner_6 : decode cX5_tenderWinner 6 = .ok (.if_icmp .ge 43, 3) := by decide +kernel
theorem dX5_tenderWinner_9 : decode cX5_tenderWinner 9 = .ok (.aload_n 0, 1) := by decide +kernel
theorem dX5_tenderWinner_10 : decode cX5_tenderWinner 10 = .ok (.getfield 41, 3) := by decide +kernel
theorem dX5_tenderWinner_13 : decode cX5_tenderWinner 13 = .ok (.iload_n 2, 1) := by decide +kernel
theorem dX5_tenderWinner_14 : decode cX5_tenderWinner 14 = .ok (.invokevirtual 216, 3) := by decide +kernel
theorem dX5_tenderWinner_17 : decode cX5_tenderWinner 17 = .ok (.aload_n 0, 1) := by decide +kernel
theorem dX5_tenderWinner_18 : decode cX5_tenderWinner 18 = .ok (.getfield 41, 3) := by decide +kernel
theorem dX5_tenderWinner_21 : decode cX5_tenderWinner 21 = .ok (.getfield 360, 3) := by decide +kernel
theorem dX5_tenderWinner_24 : decode cX5_tenderWinner 24 = .ok (.if_icmp .lt 19, 3) := by decide +kernel
theorem dX5_tenderWinner_27 : decode cX5_tenderWinner 27 = .ok (.iload_n 1, 1) := by decide +kernel
theorem dX5_tenderWinner_28 : decode cX5_tenderWinner 28 = .ok (.iconst (-1), 1) := by decide +kernel
theorem dX5_tenderWinner_29 : decode cX5_tenderWinner 29 = .ok (.if_icmp .eq 12, 3) := by decide +kernel
theorem dX5_tenderWinner_32 : decode cX5_tenderWinner 32 = .ok (.aload_n 0, 1) := by decide +kernel
theorem dX5_tenderWinner_33 : decode cX5_tenderWinner 33 = .ok (.iload_n 2, 1) := by decide +kernel
theorem dX5_tenderWinner_34 : decode cX5_tenderWinner 34 = .ok (.iload_n 1, 1) := by decide +kernel
theorem dX5_tenderWinner_35 : decode cX5_tenderWinner 35 = .ok (.invokevirtual 363, 3) := by decide +kernel
theorem dX5_tenderWinner_38 : decode cX5_tenderWinner 38 = .ok (.ifCond .eq 5, 3) := by decide +kernel
theorem dX5_tenderWinner_41 : decode cX5_tenderWinner 41 = .ok (.iload_n 2, 1) := by decide +kernel
theorem dX5_tenderWinner_42 : decode cX5_tenderWinner 42 = .ok (.istore_n 1, 1) := by decide +kernel
theorem dX5_tenderWinner_43 : decode cX5_tenderWinner 43 = .ok (.iinc 2 1, 3) := by decide +kernel
theorem dX5_tenderWinner_46 : decode cX5_tenderWinner 46 = .ok (.goto (-42), 3) := by decide +kernel
theorem dX5_tenderWinner_49 : decode cX5_tenderWinner 49 = .ok (.iload_n 1, 1) := by decide +kernel
theorem dX5_tenderWinner_50 : decode cX5_tenderWinner 50 = .ok (.ireturn, 1) := by decide +kernel
theorem dX5_outbids_0 : decode cX5_outbids 0 = .ok (.aload_n 0, 1) := by decide +kernel
theorem dX5_outbids_1 : decode cX5_outbids 1 = .ok (.getfield 41, 3) := by decide +kernel
theorem dX5_outbids_4 : decode cX5_outbids 4 = .ok (.iload_n 1, 1) := by decide +kernel
theorem dX5_outbids_5 : decode cX5_outbids 5 = .ok (.invokevirtual 216, 3) := by decide +kernel
theorem dX5_outbids_8 : decode cX5_outbids 8 = .ok (.istore_n 3, 1) := by decide +kernel
theorem dX5_outbids_9 : decode cX5_outbids 9 = .ok (.aload_n 0, 1) := by decide +kernel
theorem dX5_outbids_10 : decode cX5_outbids 10 = .ok (.getfield 41, 3) := by decide +kernel
theorem dX5_outbids_13 : decode cX5_outbids 13 = .ok (.iload_n 2, 1) := by decide +kernel
theorem dX5_outbids_14 : decode cX5_outbids 14 = .ok (.invokevirtual 216, 3) := by decide +kernel
theorem dX5_outbids_17 : decode cX5_outbids 17 = .ok (.istore 4, 2) := by decide +kernel
theorem dX5_outbids_19 : decode cX5_outbids 19 = .ok (.iload_n 3, 1) := by decide +kernel
theorem dX5_outbids_20 : decode cX5_outbids 20 = .ok (.iload 4, 2) := by decide +kernel
theorem dX5_outbids_22 : decode cX5_outbids 22 = .ok (.if_icmp .ne 27, 3) := by decide +kernel
theorem dX5_outbids_25 : decode cX5_outbids 25 = .ok (.iload_n 1, 1) := by decide +kernel
theorem dX5_outbids_26 : decode cX5_outbids 26 = .ok (.aload_n 0, 1) := by decide +kernel
theorem dX5_outbids_27 : decode cX5_outbids 27 = .ok (.getfield 29, 3) := by decide +kernel
theorem dX5_outbids_30 : decode cX5_outbids 30 = .ok (.arraylength, 1) := by decide +kernel
theorem dX5_outbids_31 : decode cX5_outbids 31 = .ok (.invokestatic 74, 3) := by decide +kernel
theorem dX5_outbids_34 : decode cX5_outbids 34 = .ok (.ifCond .eq 15, 3) := by decide +kernel
theorem dX5_outbids_37 : decode cX5_outbids 37 = .ok (.iload_n 2, 1) := by decide +kernel
theorem dX5_outbids_38 : decode cX5_outbids 38 = .ok (.aload_n 0, 1) := by decide +kernel
theorem dX5_outbids_39 : decode cX5_outbids 39 = .ok (.getfield 29, 3) := by decide +kernel
theorem dX5_outbids_42 : decode cX5_outbids 42 = .ok (.arraylength, 1) := by decide +kernel
theorem dX5_outbids_43 : decode cX5_outbids 43 = .ok (.invokestatic 74, 3) := by decide +kernel
theorem dX5_outbids_46 : decode cX5_outbids 46 = .ok (.ifCond .ne 15, 3) := by decide +kernel
theorem dX5_outbids_49 : decode cX5_outbids 49 = .ok (.iload_n 3, 1) := by decide +kernel
theorem dX5_outbids_50 : decode cX5_outbids 50 = .ok (.iload 4, 2) := by decide +kernel
theorem dX5_outbids_52 : decode cX5_outbids 52 = .ok (.if_icmp .le 7, 3) := by decide +kernel
theorem dX5_outbids_55 : decode cX5_outbids 55 = .ok (.iconst 1, 1) := by decide +kernel
theorem dX5_outbids_56 : decode cX5_outbids 56 = .ok (.goto 4, 3) := by decide +kernel
theorem dX5_outbids_59 : decode cX5_outbids 59 = .ok (.iconst 0, 1) := by decide +kernel
theorem dX5_outbids_60 : decode cX5_outbids 60 = .ok (.ireturn, 1) := by decide +kernel
theorem dX5_outbids_61 : decode cX5_outbids 61 = .ok (.aload_n 0, 1) := by decide +kernel
theorem dX5_outbids_62 : decode cX5_outbids 62 = .ok (.getfield 29, 3) := by decide +kernel
theorem dX5_outbids_65 : decode cX5_outbids 65 = .ok (.iload_n 1, 1) := by decide +kernel
theorem dX5_outbids_66 : decode cX5_outbids 66 = .ok (.iaload, 1) := by decide +kernel
theorem dX5_outbids_67 : decode cX5_outbids 67 = .ok (.aload_n 0, 1) := by decide +kernel
theorem dX5_outbids_68 : decode cX5_outbids 68 = .ok (.getfield 29, 3) := by decide +kernel
theorem dX5_outbids_71 : decode cX5_outbids 71 = .ok (.iload_n 2, 1) := by decide +kernel
theorem dX5_outbids_72 : decode cX5_outbids 72 = .ok (.iaload, 1) := by decide +kernel
theorem dX5_outbids_73 : decode cX5_outbids 73 = .ok (.if_icmp .le 7, 3) := by decide +kernel
theorem dX5_outbids_76 : decode cX5_outbids 76 = .ok (.iconst 1, 1) := by decide +kernel
theorem dX5_outbids_77 : decode cX5_outbids 77 = .ok (.goto 4, 3) := by decide +kernel
theorem dX5_outbids_80 : decode cX5_outbids 80 = .ok (.iconst 0, 1) := by decide +kernel
theorem dX5_outbids_81 : decode cX5_outbids 81 = .ok (.ireturn, 1) := by decide +kernel
theorem dX5_isClear_0 : decode cX5_isClear 0 = .ok (.iload_n 0, 1) := by decide +kernel
theorem dX5_isClear_1 : decode cX5_isClear 1 = .ok (.iload_n 1, 1) := by decide +kernel
theorem dX5_isClear_2 : decode cX5_isClear 2 = .ok (.ishr, 1) := by decide +kernel
theorem dX5_isClear_3 : decode cX5_isClear 3 = .ok (.iconst 1, 1) := by decide +kernel
theorem dX5_isClear_4 : decode cX5_isClear 4 = .ok (.iand, 1) := by decide +kernel
theorem dX5_isClear_5 : decode cX5_isClear 5 = .ok (.ifCond .ne 7, 3) := by decide +kernel
theorem dX5_isClear_8 : decode cX5_isClear 8 = .ok (.iconst 1, 1) := by decide +kernel
theorem dX5_isClear_9 : decode cX5_isClear 9 = .ok (.goto 4, 3) := by decide +kernel
theorem dX5_isClear_12 : decode cX5_isClear 12 = .ok (.iconst 0, 1) := by decide +kernel
theorem dX5_isClear_13 : decode cX5_isClear 13 = .ok (.ireturn, 1) := by decide +kernel
theorem dX5_plannedAt_0 : decode cX5_plannedAt 0 = .ok (.iload_n 1, 1) := by decide +kernel
theorem dX5_plannedAt_1 : decode cX5_plannedAt 1 = .ok (.ifCond .le 15, 3) := by decide +kernel
theorem dX5_plannedAt_4 : decode cX5_plannedAt 4 = .ok (.iload_n 0, 1) := by decide +kernel
theorem dX5_plannedAt_5 : decode cX5_plannedAt 5 = .ok (.iload_n 1, 1) := by decide +kernel
theorem dX5_plannedAt_6 : decode cX5_plannedAt 6 = .ok (.iconst 1, 1) := by decide +kernel
theorem dX5_plannedAt_7 : decode cX5_plannedAt 7 = .ok (.isub, 1) := by decide +kernel
theorem dX5_plannedAt_8 : decode cX5_plannedAt 8 = .ok (.invokestatic 366, 3) := by decide +kernel
theorem dX5_plannedAt_11 : decode cX5_plannedAt 11 = .ok (.ifCond .eq 5, 3) := by decide +kernel
theorem dX5_plannedAt_14 : decode cX5_plannedAt 14 = .ok (.iconst 0, 1) := by decide +kernel
theorem dX5_plannedAt_15 : decode cX5_plannedAt 15 = .ok (.ireturn, 1) := by decide +kernel
theorem dX5_plannedAt_16 : decode cX5_plannedAt 16 = .ok (.iload_n 1, 1) := by decide +kernel
theorem dX5_plannedAt_17 : decode cX5_plannedAt 17 = .ok (.istore_n 2, 1) := by decide +kernel
theorem dX5_plannedAt_18 : decode cX5_plannedAt 18 = .ok (.iload_n 2, 1) := by decide +kernel
theorem dX5_plannedAt_19 : decode cX5_plannedAt 19 = .ok (.bipush 12, 2) := by decide +kernel
theorem dX5_plannedAt_21 : decode cX5_plannedAt 21 = .ok (.if_icmp .ge 17, 3) := by decide +kernel
theorem dX5_plannedAt_24 : decode cX5_plannedAt 24 = .ok (.iload_n 0, 1) := by decide +kernel
theorem dX5_plannedAt_25 : decode cX5_plannedAt 25 = .ok (.iload_n 2, 1) := by decide +kernel
theorem dX5_plannedAt_26 : decode cX5_plannedAt 26 = .ok (.invokestatic 366, 3) := by decide +kernel
theorem dX5_plannedAt_29 : decode cX5_plannedAt 29 = .ok (.ifCond .eq 9, 3) := by decide +kernel
theorem dX5_plannedAt_32 : decode cX5_plannedAt 32 = .ok (.iinc 2 1, 3) := by decide +kernel
theorem dX5_plannedAt_35 : decode cX5_plannedAt 35 = .ok (.goto (-17), 3) := by decide +kernel
theorem dX5_plannedAt_38 : decode cX5_plannedAt 38 = .ok (.iload_n 2, 1) := by decide +kernel
theorem dX5_plannedAt_39 : decode cX5_plannedAt 39 = .ok (.iload_n 1, 1) := by decide +kernel
theorem dX5_plannedAt_40 : decode cX5_plannedAt 40 = .ok (.isub, 1) := by decide +kernel
theorem dX5_plannedAt_41 : decode cX5_plannedAt 41 = .ok (.invokestatic 369, 3) := by decide +kernel
theorem dX5_plannedAt_44 : decode cX5_plannedAt 44 = .ok (.ireturn, 1) := by decide +kernel
theorem dX5_plannedCount_0 : decode cX5_plannedCount 0 = .ok (.iconst 0, 1) := by decide +kernel
theorem dX5_plannedCount_1 : decode cX5_plannedCount 1 = .ok (.istore_n 1, 1) := by decide +kernel
theorem dX5_plannedCount_2 : decode cX5_plannedCount 2 = .ok (.iconst 0, 1) := by decide +kernel
theorem dX5_plannedCount_3 : decode cX5_plannedCount 3 = .ok (.istore_n 2, 1) := by decide +kernel
theorem dX5_plannedCount_4 : decode cX5_plannedCount 4 = .ok (.iload_n 2, 1) := by decide +kernel
theorem dX5_plannedCount_5 : decode cX5_plannedCount 5 = .ok (.bipush 12, 2) := by decide +kernel
theorem dX5_plannedCount_7 : decode cX5_plannedCount 7 = .ok (.if_icmp .ge 20, 3) := by decide +kernel
theorem dX5_plannedCount_10 : decode cX5_plannedCount 10 = .ok (.iload_n 0, 1) := by decide +kernel
theorem dX5_plannedCount_11 : decode cX5_plannedCount 11 = .ok (.iload_n 2, 1) := by decide +kernel
theorem dX5_plannedCount_12 : decode cX5_plannedCount 12 = .ok (.invokestatic 238, 3) := by decide +kernel
theorem dX5_plannedCount_15 : decode cX5_plannedCount 15 = .ok (.ifCond .le 6, 3) := by decide +kernel
theorem dX5_plannedCount_18 : decode cX5_plannedCount 18 = .ok (.iinc 1 1, 3) := by decide +kernel
theorem dX5_plannedCount_21 : decode cX5_plannedCount 21 = .ok (.iinc 2 1, 3) := by decide +kernel
theorem dX5_plannedCount_24 : decode cX5_plannedCount 24 = .ok (.goto (-20), 3) := by decide +kernel
theorem dX5_plannedCount_27 : decode cX5_plannedCount 27 = .ok (.iload_n 1, 1) := by decide +kernel
theorem dX5_plannedCount_28 : decode cX5_plannedCount 28 = .ok (.ireturn, 1) := by decide +kernel
theorem dX5_worthwhile_0 : decode cX5_worthwhile 0 = .ok (.iload_n 0, 1) := by decide +kernel
theorem dX5_worthwhile_1 : decode cX5_worthwhile 1 = .ok (.iconst 2, 1) := by decide +kernel
theorem dX5_worthwhile_2 : decode cX5_worthwhile 2 = .ok (.if_icmp .lt 7, 3) := by decide +kernel
theorem dX5_worthwhile_5 : decode cX5_worthwhile 5 = .ok (.iload_n 0, 1) := by decide +kernel
theorem dX5_worthwhile_6 : decode cX5_worthwhile 6 = .ok (.goto 4, 3) := by decide +kernel
theorem dX5_worthwhile_9 : decode cX5_worthwhile 9 = .ok (.iconst 0, 1) := by decide +kernel
theorem dX5_worthwhile_10 : decode cX5_worthwhile 10 = .ok (.ireturn, 1) := by decide +kernel
theorem dX5_worthBetween_0 : decode cX5_worthBetween 0 = .ok (.iconst 0, 1) := by decide +kernel
theorem dX5_worthBetween_1 : decode cX5_worthBetween 1 = .ok (.istore_n 1, 1) := by decide +kernel
theorem dX5_worthBetween_2 : decode cX5_worthBetween 2 = .ok (.iconst 0, 1) := by decide +kernel
theorem dX5_worthBetween_3 : decode cX5_worthBetween 3 = .ok (.istore_n 2, 1) := by decide +kernel
theorem dX5_worthBetween_4 : decode cX5_worthBetween 4 = .ok (.iconst 0, 1) := by decide +kernel
theorem dX5_worthBetween_5 : decode cX5_worthBetween 5 = .ok (.istore_n 3, 1) := by decide +kernel
theorem dX5_worthBetween_6 : decode cX5_worthBetween 6 = .ok (.iload_n 3, 1) := by decide +kernel
theorem dX5_worthBetween_7 : decode cX5_worthBetween 7 = .ok (.bipush 12, 2) := by decide +kernel
theorem dX5_worthBetween_9 : decode cX5_worthBetween 9 = .ok (.if_icmp .ge 34, 3) := by decide +kernel
theorem dX5_worthBetween_12 : decode cX5_worthBetween 12 = .ok (.iload_n 0, 1) := by decide +kernel
theorem dX5_worthBetween_13 : decode cX5_worthBetween 13 = .ok (.iload_n 3, 1) := by decide +kernel
theorem dX5_worthBetween_14 : decode cX5_worthBetween 14 = .ok (.invokestatic 366, 3) := by decide +kernel
theorem dX5_worthBetween_17 : decode cX5_worthBetween 17 = .ok (.ifCond .eq 9, 3) := by decide +kernel
theorem dX5_worthBetween_20 : decode cX5_worthBetween 20 = .ok (.iinc 2 1, 3) := by decide +kernel
theorem dX5_worthBetween_23 : decode cX5_worthBetween 23 = .ok (.goto 14, 3) := by decide +kernel
theorem dX5_worthBetween_26 : decode cX5_worthBetween 26 = .ok (.iload_n 1, 1) := by decide +kernel
theorem dX5_worthBetween_27 : decode cX5_worthBetween 27 = .ok (.iload_n 2, 1) := by decide +kernel
theorem dX5_worthBetween_28 : decode cX5_worthBetween 28 = .ok (.invokestatic 369, 3) := by decide +kernel
theorem dX5_worthBetween_31 : decode cX5_worthBetween 31 = .ok (.iload_n 2, 1) := by decide +kernel
theorem dX5_worthBetween_32 : decode cX5_worthBetween 32 = .ok (.imul, 1) := by decide +kernel
theorem dX5_worthBetween_33 : decode cX5_worthBetween 33 = .ok (.iadd, 1) := by decide +kernel
theorem dX5_worthBetween_34 : decode cX5_worthBetween 34 = .ok (.istore_n 1, 1) := by decide +kernel
theorem dX5_worthBetween_35 : decode cX5_worthBetween 35 = .ok (.iconst 0, 1) := by decide +kernel
theorem dX5_worthBetween_36 : decode cX5_worthBetween 36 = .ok (.istore_n 2, 1) := by decide +kernel
theorem dX5_worthBetween_37 : decode cX5_worthBetween 37 = .ok (.iinc 3 1, 3) := by decide +kernel
theorem dX5_worthBetween_40 : decode cX5_worthBetween 40 = .ok (.goto (-34), 3) := by decide +kernel
theorem dX5_worthBetween_43 : decode cX5_worthBetween 43 = .ok (.iload_n 1, 1) := by decide +kernel
theorem dX5_worthBetween_44 : decode cX5_worthBetween 44 = .ok (.iload_n 2, 1) := by decide +kernel
theorem dX5_worthBetween_45 : decode cX5_worthBetween 45 = .ok (.invokestatic 369, 3) := by decide +kernel
theorem dX5_worthBetween_48 : decode cX5_worthBetween 48 = .ok (.iload_n 2, 1) := by decide +kernel
theorem dX5_worthBetween_49 : decode cX5_worthBetween 49 = .ok (.imul, 1) := by decide +kernel
theorem dX5_worthBetween_50 : decode cX5_worthBetween 50 = .ok (.iadd, 1) := by decide +kernel
theorem dX5_worthBetween_51 : decode cX5_worthBetween 51 = .ok (.ireturn, 1) := by decide +kernel
theorem dX5_keepGem_0 : decode cX5_keepGem 0 = .ok (.aload_n 0, 1) := by decide +kernel
theorem dX5_keepGem_1 : decode cX5_keepGem 1 = .ok (.getfield 254, 3) := by decide +kernel
theorem dX5_keepGem_4 : decode cX5_keepGem 4 = .ok (.aload_n 0, 1) := by decide +kernel
theorem dX5_keepGem_5 : decode cX5_keepGem 5 = .ok (.getfield 47, 3) := by decide +kernel
theorem dX5_keepGem_8 : decode cX5_keepGem 8 = .ok (.arraylength, 1) := by decide +kernel
theorem dX5_keepGem_9 : decode cX5_keepGem 9 = .ok (.invokestatic 74, 3) := by decide +kernel
theorem dX5_keepGem_12 : decode cX5_keepGem 12 = .ok (.ifCond .eq 36, 3) := by decide +kernel
theorem dX5_keepGem_15 : decode cX5_keepGem 15 = .ok (.aload_n 0, 1) := by decide +kernel
theorem dX5_keepGem_16 : decode cX5_keepGem 16 = .ok (.getfield 47, 3) := by decide +kernel
theorem dX5_keepGem_19 : decode cX5_keepGem 19 = .ok (.aload_n 0, 1) := by decide +kernel
theorem dX5_keepGem_20 : decode cX5_keepGem 20 = .ok (.getfield 254, 3) := by decide +kernel
theorem dX5_keepGem_23 : decode cX5_keepGem 23 = .ok (.aload_n 1, 1) := by decide +kernel
theorem dX5_keepGem_24 : decode cX5_keepGem 24 = .ok (.aastore, 1) := by decide +kernel
theorem dX5_keepGem_25 : decode cX5_keepGem 25 = .ok (.aload_n 0, 1) := by decide +kernel
theorem dX5_keepGem_26 : decode cX5_keepGem 26 = .ok (.dup, 1) := by decide +kernel
theorem dX5_keepGem_27 : decode cX5_keepGem 27 = .ok (.getfield 254, 3) := by decide +kernel
theorem dX5_keepGem_30 : decode cX5_keepGem 30 = .ok (.iconst 1, 1) := by decide +kernel
theorem dX5_keepGem_31 : decode cX5_keepGem 31 = .ok (.iadd, 1) := by decide +kernel
theorem dX5_keepGem_32 : decode cX5_keepGem 32 = .ok (.putfield 254, 3) := by decide +kernel
theorem dX5_keepGem_35 : decode cX5_keepGem 35 = .ok (.aload_n 0, 1) := by decide +kernel
theorem dX5_keepGem_36 : decode cX5_keepGem 36 = .ok (.dup, 1) := by decide +kernel
theorem dX5_keepGem_37 : decode cX5_keepGem 37 = .ok (.getfield 259, 3) := by decide +kernel
theorem dX5_keepGem_40 : decode cX5_keepGem 40 = .ok (.aload_n 1, 1) := by decide +kernel
theorem dX5_keepGem_41 : decode cX5_keepGem 41 = .ok (.getfield 280, 3) := by decide +kernel
theorem dX5_keepGem_44 : decode cX5_keepGem 44 = .ok (.isub, 1) := by decide +kernel
theorem dX5_keepGem_45 : decode cX5_keepGem 45 = .ok (.putfield 259, 3) := by decide +kernel
theorem dX5_keepGem_48 : decode cX5_keepGem 48 = .ok (.return_, 1) := by decide +kernel
