theorem dX0_init_0 : decode cX0_init 0 = .ok (.aload_n 0, 1) := by decide +kernel
theorem dX0_init_1 : decode cX0_init 1 = .ok (.iload_n 1, 1) := by decide +kernel
theorem dX0_init_2 : decode cX0_init 2 = .ok (.iconst 4, 1) := by decide +kernel
theorem dX0_init_3 : decode cX0_init 3 = .ok (.aload_n 2, 1) := by decide +kernel
theorem dX0_init_4 : decode cX0_init 4 = .ok (.getfield 3, 3) := by decide +kernel
theorem dX0_init_7 : decode cX0_init 7 = .ok (.aload_n 2, 1) := by decide +kernel
theorem dX0_init_8 : decode cX0_init 8 = .ok (.getfield 9, 3) := by decide +kernel
theorem dX0_init_11 : decode cX0_init 11 = .ok (.invokespecial 13, 3) := by decide +kernel
theorem dX0_init_14 : decode cX0_init 14 = .ok (.aload_n 0, 1) := by decide +kernel
theorem dX0_init_15 : decode cX0_init 15 = .ok (.aload_n 2, 1) := by decide +kernel
theorem dX0_init_16 : decode cX0_init 16 = .ok (.putfield 17, 3) := by decide +kernel
theorem dX0_init_19 : decode cX0_init 19 = .ok (.return_, 1) := by decide +kernel
theorem dX0_madeOf_0 : decode cX0_madeOf 0 = .ok (.iconst 1, 1) := by decide +kernel
theorem dX0_madeOf_1 : decode cX0_madeOf 1 = .ok (.ireturn, 1) := by decide +kernel
theorem dX0_place_0 : decode cX0_place 0 = .ok (.aload_n 0, 1) := by decide +kernel
theorem dX0_place_1 : decode cX0_place 1 = .ok (.getfield 17, 3) := by decide +kernel
theorem dX0_place_4 : decode cX0_place 4 = .ok (.aload_n 1, 1) := by decide +kernel
theorem dX0_place_5 : decode cX0_place 5 = .ok (.iload_n 2, 1) := by decide +kernel
theorem dX0_place_6 : decode cX0_place 6 = .ok (.iload_n 3, 1) := by decide +kernel
theorem dX0_place_7 : decode cX0_place 7 = .ok (.iconst 1, 1) := by decide +kernel
theorem dX0_place_8 : decode cX0_place 8 = .ok (.iadd, 1) := by decide +kernel
theorem dX0_place_9 : decode cX0_place 9 = .ok (.aload 4, 2) := by decide +kernel
theorem dX0_place_11 : decode cX0_place 11 = .ok (.invokevirtual 23, 3) := by decide +kernel
theorem dX0_place_14 : decode cX0_place 14 = .ok (.lstore 5, 2) := by decide +kernel
theorem dX0_place_16 : decode cX0_place 16 = .ok (.lload 5, 2) := by decide +kernel
theorem dX0_place_18 : decode cX0_place 18 = .ok (.ldc2_w 27, 3) := by decide +kernel
theorem dX0_place_21 : decode cX0_place 21 = .ok (.lcmp, 1) := by decide +kernel
theorem dX0_place_22 : decode cX0_place 22 = .ok (.ifCond .ne 9, 3) := by decide +kernel
theorem dX0_place_25 : decode cX0_place 25 = .ok (.ldc2_w 27, 3) := by decide +kernel
theorem dX0_place_28 : decode cX0_place 28 = .ok (.goto 12, 3) := by decide +kernel
theorem dX0_place_31 : decode cX0_place 31 = .ok (.aload_n 0, 1) := by decide +kernel
theorem dX0_place_32 : decode cX0_place 32 = .ok (.getfield 29, 3) := by decide +kernel
theorem dX0_place_35 : decode cX0_place 35 = .ok (.lconst 1, 1) := by decide +kernel
theorem dX0_place_36 : decode cX0_place 36 = .ok (.lsub, 1) := by decide +kernel
theorem dX0_place_37 : decode cX0_place 37 = .ok (.lload 5, 2) := by decide +kernel
theorem dX0_place_39 : decode cX0_place 39 = .ok (.lsub, 1) := by decide +kernel
theorem dX0_place_40 : decode cX0_place 40 = .ok (.lreturn, 1) := by decide +kernel
theorem dX0_fill_0 : decode cX0_fill 0 = .ok (.aload_n 0, 1) := by decide +kernel
theorem dX0_fill_1 : decode cX0_fill 1 = .ok (.getfield 17, 3) := by decide +kernel
theorem dX0_fill_4 : decode cX0_fill 4 = .ok (.aload_n 1, 1) := by decide +kernel
theorem dX0_fill_5 : decode cX0_fill 5 = .ok (.iload_n 2, 1) := by decide +kernel
theorem dX0_fill_6 : decode cX0_fill 6 = .ok (.aload_n 0, 1) := by decide +kernel
theorem dX0_fill_7 : decode cX0_fill 7 = .ok (.getfield 29, 3) := by decide +kernel
theorem dX0_fill_10 : decode cX0_fill 10 = .ok (.lconst 1, 1) := by decide +kernel
theorem dX0_fill_11 : decode cX0_fill 11 = .ok (.lsub, 1) := by decide +kernel
theorem dX0_fill_12 : decode cX0_fill 12 = .ok (.lload_n 3, 1) := by decide +kernel
theorem dX0_fill_13 : decode cX0_fill 13 = .ok (.lsub, 1) := by decide +kernel
theorem dX0_fill_14 : decode cX0_fill 14 = .ok (.invokevirtual 30, 3) := by decide +kernel
theorem dX0_fill_17 : decode cX0_fill 17 = .ok (.return_, 1) := by decide +kernel
theorem dX0_singleAt_0 : decode cX0_singleAt 0 = .ok (.aload_n 0, 1) := by decide +kernel
theorem dX0_singleAt_1 : decode cX0_singleAt 1 = .ok (.getfield 17, 3) := by decide +kernel
theorem dX0_singleAt_4 : decode cX0_singleAt 4 = .ok (.iload_n 1, 1) := by decide +kernel
theorem dX0_singleAt_5 : decode cX0_singleAt 5 = .ok (.invokevirtual 34, 3) := by decide +kernel
theorem dX0_singleAt_8 : decode cX0_singleAt 8 = .ok (.areturn, 1) := by decide +kernel
theorem dX1_init_0 : decode cX1_init 0 = .ok (.aload_n 0, 1) := by decide +kernel
theorem dX1_init_1 : decode cX1_init 1 = .ok (.iload_n 1, 1) := by decide +kernel
theorem dX1_init_2 : decode cX1_init 2 = .ok (.iload_n 2, 1) := by decide +kernel
theorem dX1_init_3 : decode cX1_init 3 = .ok (.iload_n 3, 1) := by decide +kernel
theorem dX1_init_4 : decode cX1_init 4 = .ok (.lload 4, 2) := by decide +kernel
theorem dX1_init_6 : decode cX1_init 6 = .ok (.invokespecial 3, 3) := by decide +kernel
theorem dX1_init_9 : decode cX1_init 9 = .ok (.aload_n 0, 1) := by decide +kernel
theorem dX1_init_10 : decode cX1_init 10 = .ok (.aload 6, 2) := by decide +kernel
theorem dX1_init_12 : decode cX1_init 12 = .ok (.putfield 9, 3) := by decide +kernel
theorem dX1_init_15 : decode cX1_init 15 = .ok (.return_, 1) := by decide +kernel
theorem dX1_madeOf_0 : decode cX1_madeOf 0 = .ok (.aload_n 0, 1) := by decide +kernel
theorem dX1_madeOf_1 : decode cX1_madeOf 1 = .ok (.getfield 9, 3) := by decide +kernel
theorem dX1_madeOf_4 : decode cX1_madeOf 4 = .ok (.arraylength, 1) := by decide +kernel
theorem dX1_madeOf_5 : decode cX1_madeOf 5 = .ok (.ireturn, 1) := by decide +kernel
theorem dX1_place_0 : decode cX1_place 0 = .ok (.lconst 0, 1) := by decide +kernel
theorem dX1_place_1 : decode cX1_place 1 = .ok (.lstore 5, 2) := by decide +kernel
theorem dX1_place_3 : decode cX1_place 3 = .ok (.iload_n 2, 1) := by decide +kernel
theorem dX1_place_4 : decode cX1_place 4 = .ok (.istore 7, 2) := by decide +kernel
theorem dX1_place_6 : decode cX1_place 6 = .ok (.aload_n 0, 1) := by decide +kernel
theorem dX1_place_7 : decode cX1_place 7 = .ok (.getfield 9, 3) := by decide +kernel
theorem dX1_place_10 : decode cX1_place 10 = .ok (.astore 8, 2) := by decide +kernel
theorem dX1_place_12 : decode cX1_place 12 = .ok (.aload 8, 2) := by decide +kernel
theorem dX1_place_14 : decode cX1_place 14 = .ok (.arraylength, 1) := by decide +kernel
theorem dX1_place_15 : decode cX1_place 15 = .ok (.istore 9, 2) := by decide +kernel
theorem dX1_place_17 : decode cX1_place 17 = .ok (.iconst 0, 1) := by decide +kernel
theorem dX1_place_18 : decode cX1_place 18 = .ok (.istore 10, 2) := by decide +kernel
theorem dX1_place_20 : decode cX1_place 20 = .ok (.iload 10, 2) := by decide +kernel
theorem dX1_place_22 : decode cX1_place 22 = .ok (.iload 9, 2) := by decide +kernel
theorem dX1_place_24 : decode cX1_place 24 = .ok (.if_icmp .ge 71, 3) := by decide +kernel
theorem dX1_place_27 : decode cX1_place 27 = .ok (.aload 8, 2) := by decide +kernel
theorem dX1_place_29 : decode cX1_place 29 = .ok (.iload 10, 2) := by decide +kernel
theorem dX1_place_31 : decode cX1_place 31 = .ok (.aaload, 1) := by decide +kernel
theorem dX1_place_32 : decode cX1_place 32 = .ok (.astore 11, 2) := by decide +kernel
theorem dX1_place_34 : decode cX1_place 34 = .ok (.aload 11, 2) := by decide +kernel
theorem dX1_place_36 : decode cX1_place 36 = .ok (.aload_n 1, 1) := by decide +kernel
theorem dX1_place_37 : decode cX1_place 37 = .ok (.iload 7, 2) := by decide +kernel
theorem dX1_place_39 : decode cX1_place 39 = .ok (.iload_n 3, 1) := by decide +kernel
theorem dX1_place_40 : decode cX1_place 40 = .ok (.iconst 1, 1) := by decide +kernel
theorem dX1_place_41 : decode cX1_place 41 = .ok (.iadd, 1) := by decide +kernel
theorem dX1_place_42 : decode cX1_place 42 = .ok (.aload 4, 2) := by decide +kernel
theorem dX1_place_44 : decode cX1_place 44 = .ok (.invokevirtual 15, 3) := by decide +kernel
theorem dX1_place_47 : decode cX1_place 47 = .ok (.lstore 12, 2) := by decide +kernel
theorem dX1_place_49 : decode cX1_place 49 = .ok (.lload 12, 2) := by decide +kernel
theorem dX1_place_51 : decode cX1_place 51 = .ok (.ldc2_w 19, 3) := by decide +kernel
theorem dX1_place_54 : decode cX1_place 54 = .ok (.lcmp, 1) := by decide +kernel
theorem dX1_place_55 : decode cX1_place 55 = .ok (.ifCond .ne 7, 3) := by decide +kernel
theorem dX1_place_58 : decode cX1_place 58 = .ok (.ldc2_w 19, 3) := by decide +kernel
theorem dX1_place_61 : decode cX1_place 61 = .ok (.lreturn, 1) := by decide +kernel
theorem dX1_place_62 : decode cX1_place 62 = .ok (.lload 5, 2) := by decide +kernel
theorem dX1_place_64 : decode cX1_place 64 = .ok (.aload 11, 2) := by decide +kernel
theorem dX1_place_66 : decode cX1_place 66 = .ok (.getfield 21, 3) := by decide +kernel
theorem dX1_place_69 : decode cX1_place 69 = .ok (.invokestatic 25, 3) := by decide +kernel
theorem dX1_place_72 : decode cX1_place 72 = .ok (.lload 12, 2) := by decide +kernel
theorem dX1_place_74 : decode cX1_place 74 = .ok (.invokestatic 29, 3) := by decide +kernel
theorem dX1_place_77 : decode cX1_place 77 = .ok (.lstore 5, 2) := by decide +kernel
theorem dX1_place_79 : decode cX1_place 79 = .ok (.iload 7, 2) := by decide +kernel
theorem dX1_place_81 : decode cX1_place 81 = .ok (.aload 11, 2) := by decide +kernel
theorem dX1_place_83 : decode cX1_place 83 = .ok (.getfield 32, 3) := by decide +kernel
theorem dX1_place_86 : decode cX1_place 86 = .ok (.iadd, 1) := by decide +kernel
theorem dX1_place_87 : decode cX1_place 87 = .ok (.istore 7, 2) := by decide +kernel
theorem dX1_place_89 : decode cX1_place 89 = .ok (.iinc 10 1, 3) := by decide +kernel
theorem dX1_place_92 : decode cX1_place 92 = .ok (.goto (-72), 3) := by decide +kernel
theorem dX1_place_95 : decode cX1_place 95 = .ok (.lload 5, 2) := by decide +kernel
theorem dX1_place_97 : decode cX1_place 97 = .ok (.lreturn, 1) := by decide +kernel
theorem dX1_fill_0 : decode cX1_fill 0 = .ok (.lload_n 3, 1) := by decide +kernel
theorem dX1_fill_1 : decode cX1_fill 1 = .ok (.lstore 5, 2) := by decide +kernel
theorem dX1_fill_3 : decode cX1_fill 3 = .ok (.iload_n 2, 1) := by decide +kernel
theorem dX1_fill_4 : decode cX1_fill 4 = .ok (.aload_n 0, 1) := by decide +kernel
theorem dX1_fill_5 : decode cX1_fill 5 = .ok (.getfield 36, 3) := by decide +kernel
theorem dX1_fill_8 : decode cX1_fill 8 = .ok (.iadd, 1) := by decide +kernel
theorem dX1_fill_9 : decode cX1_fill 9 = .ok (.istore 7, 2) := by decide +kernel
theorem dX1_fill_11 : decode cX1_fill 11 = .ok (.aload_n 0, 1) := by decide +kernel
theorem dX1_fill_12 : decode cX1_fill 12 = .ok (.getfield 9, 3) := by decide +kernel
theorem dX1_fill_15 : decode cX1_fill 15 = .ok (.arraylength, 1) := by decide +kernel
theorem dX1_fill_16 : decode cX1_fill 16 = .ok (.iconst 1, 1) := by decide +kernel
theorem dX1_fill_17 : decode cX1_fill 17 = .ok (.isub, 1) := by decide +kernel
theorem dX1_fill_18 : decode cX1_fill 18 = .ok (.istore 8, 2) := by decide +kernel
theorem dX1_fill_20 : decode cX1_fill 20 = .ok (.iload 8, 2) := by decide +kernel
theorem dX1_fill_22 : decode cX1_fill 22 = .ok (.ifCond .lt 90, 3) := by decide +kernel
theorem dX1_fill_25 : decode cX1_fill 25 = .ok (.aload_n 0, 1) := by decide +kernel
theorem dX1_fill_26 : decode cX1_fill 26 = .ok (.getfield 9, 3) := by decide +kernel
theorem dX1_fill_29 : decode cX1_fill 29 = .ok (.iload 8, 2) := by decide +kernel
theorem dX1_fill_31 : decode cX1_fill 31 = .ok (.aaload, 1) := by decide +kernel
theorem dX1_fill_32 : decode cX1_fill 32 = .ok (.astore 9, 2) := by decide +kernel
theorem dX1_fill_34 : decode cX1_fill 34 = .ok (.iload 7, 2) := by decide +kernel
theorem dX1_fill_36 : decode cX1_fill 36 = .ok (.aload 9, 2) := by decide +kernel
theorem dX1_fill_38 : decode cX1_fill 38 = .ok (.getfield 32, 3) := by decide +kernel
theorem dX1_fill_41 : decode cX1_fill 41 = .ok (.isub, 1) := by decide +kernel
theorem dX1_fill_42 : decode cX1_fill 42 = .ok (.istore 7, 2) := by decide +kernel
theorem dX1_fill_44 : decode cX1_fill 44 = .ok (.aload 9, 2) := by decide +kernel
theorem dX1_fill_46 : decode cX1_fill 46 = .ok (.getfield 21, 3) := by decide +kernel
theorem dX1_fill_49 : decode cX1_fill 49 = .ok (.lconst 0, 1) := by decide +kernel
theorem dX1_fill_50 : decode cX1_fill 50 = .ok (.lcmp, 1) := by decide +kernel
theorem dX1_fill_51 : decode cX1_fill 51 = .ok (.ifCond .le 7, 3) := by decide +kernel
theorem dX1_fill_54 : decode cX1_fill 54 = .ok (.iconst 1, 1) := by decide +kernel
theorem dX1_fill_55 : decode cX1_fill 55 = .ok (.goto 4, 3) := by decide +kernel
theorem dX1_fill_58 : decode cX1_fill 58 = .ok (.iconst 0, 1) := by decide +kernel
theorem dX1_fill_59 : decode cX1_fill 59 = .ok (.istore 10, 2) := by decide +kernel
theorem dX1_fill_61 : decode cX1_fill 61 = .ok (.aload 9, 2) := by decide +kernel
theorem dX1_fill_63 : decode cX1_fill 63 = .ok (.aload_n 1, 1) := by decide +kernel
theorem dX1_fill_64 : decode cX1_fill 64 = .ok (.iload 7, 2) := by decide +kernel
theorem dX1_fill_66 : decode cX1_fill 66 = .ok (.iload 10, 2) := by decide +kernel
theorem dX1_fill_68 : decode cX1_fill 68 = .ok (.ifCond .eq 14, 3) := by decide +kernel
theorem dX1_fill_71 : decode cX1_fill 71 = .ok (.lload 5, 2) := by decide +kernel
theorem dX1_fill_73 : decode cX1_fill 73 = .ok (.aload 9, 2) := by decide +kernel
theorem dX1_fill_75 : decode cX1_fill 75 = .ok (.getfield 21, 3) := by decide +kernel
theorem dX1_fill_78 : decode cX1_fill 78 = .ok (.lrem, 1) := by decide +kernel
theorem dX1_fill_79 : decode cX1_fill 79 = .ok (.goto 5, 3) := by decide +kernel
theorem dX1_fill_82 : decode cX1_fill 82 = .ok (.lload 5, 2) := by decide +kernel
theorem dX1_fill_84 : decode cX1_fill 84 = .ok (.invokevirtual 37, 3) := by decide +kernel
theorem dX1_fill_87 : decode cX1_fill 87 = .ok (.iload 10, 2) := by decide +kernel
theorem dX1_fill_89 : decode cX1_fill 89 = .ok (.ifCond .eq 14, 3) := by decide +kernel
theorem dX1_fill_92 : decode cX1_fill 92 = .ok (.lload 5, 2) := by decide +kernel
theorem dX1_fill_94 : decode cX1_fill 94 = .ok (.aload 9, 2) := by decide +kernel
theorem dX1_fill_96 : decode cX1_fill 96 = .ok (.getfield 21, 3) := by decide +kernel
theorem dX1_fill_99 : decode cX1_fill 99 = .ok (.ldiv, 1) := by decide +kernel
theorem dX1_fill_100 : decode cX1_fill 100 = .ok (.goto 4, 3) := by decide +kernel
theorem dX1_fill_103 : decode cX1_fill 103 = .ok (.lconst 0, 1) := by decide +kernel
theorem dX1_fill_104 : decode cX1_fill 104 = .ok (.lstore 5, 2) := by decide +kernel
theorem dX1_fill_106 : decode cX1_fill 106 = .ok (.iinc 8 (-1), 3) := by decide +kernel
theorem dX1_fill_109 : decode cX1_fill 109 = .ok (.goto (-89), 3) := by decide +kernel
theorem dX1_fill_112 : decode cX1_fill 112 = .ok (.return_, 1) := by decide +kernel
theorem dX1_singleAt_0 : decode cX1_singleAt 0 = .ok (.iload_n 1, 1) := by decide +kernel
theorem dX1_singleAt_1 : decode cX1_singleAt 1 = .ok (.istore_n 2, 1) := by decide +kernel
theorem dX1_singleAt_2 : decode cX1_singleAt 2 = .ok (.aload_n 0, 1) := by decide +kernel
theorem dX1_singleAt_3 : decode cX1_singleAt 3 = .ok (.getfield 9, 3) := by decide +kernel
theorem dX1_singleAt_6 : decode cX1_singleAt 6 = .ok (.astore_n 3, 1) := by decide +kernel
theorem dX1_singleAt_7 : decode cX1_singleAt 7 = .ok (.aload_n 3, 1) := by decide +kernel
theorem dX1_singleAt_8 : decode cX1_singleAt 8 = .ok (.arraylength, 1) := by decide +kernel
theorem dX1_singleAt_9 : decode cX1_singleAt 9 = .ok (.istore 4, 2) := by decide +kernel
theorem dX1_singleAt_11 : decode cX1_singleAt 11 = .ok (.iconst 0, 1) := by decide +kernel
theorem dX1_singleAt_12 : decode cX1_singleAt 12 = .ok (.istore 5, 2) := by decide +kernel
theorem dX1_singleAt_14 : decode cX1_singleAt 14 = .ok (.iload 5, 2) := by decide +kernel
theorem dX1_singleAt_16 : decode cX1_singleAt 16 = .ok (.iload 4, 2) := by decide +kernel
theorem dX1_singleAt_18 : decode cX1_singleAt 18 = .ok (.if_icmp .ge 39, 3) := by decide +kernel
theorem dX1_singleAt_21 : decode cX1_singleAt 21 = .ok (.aload_n 3, 1) := by decide +kernel
theorem dX1_singleAt_22 : decode cX1_singleAt 22 = .ok (.iload 5, 2) := by decide +kernel
theorem dX1_singleAt_24 : decode cX1_singleAt 24 = .ok (.aaload, 1) := by decide +kernel
theorem dX1_singleAt_25 : decode cX1_singleAt 25 = .ok (.astore 6, 2) := by decide +kernel
theorem dX1_singleAt_27 : decode cX1_singleAt 27 = .ok (.iload_n 2, 1) := by decide +kernel
theorem dX1_singleAt_28 : decode cX1_singleAt 28 = .ok (.aload 6, 2) := by decide +kernel
theorem dX1_singleAt_30 : decode cX1_singleAt 30 = .ok (.getfield 32, 3) := by decide +kernel
theorem dX1_singleAt_33 : decode cX1_singleAt 33 = .ok (.if_icmp .ge 10, 3) := by decide +kernel
theorem dX1_singleAt_36 : decode cX1_singleAt 36 = .ok (.aload 6, 2) := by decide +kernel
theorem dX1_singleAt_38 : decode cX1_singleAt 38 = .ok (.iload_n 2, 1) := by decide +kernel
theorem dX1_singleAt_39 : decode cX1_singleAt 39 = .ok (.invokevirtual 41, 3) := by decide +kernel
theorem dX1_singleAt_42 : decode cX1_singleAt 42 = .ok (.areturn, 1) := by decide +kernel
theorem dX1_singleAt_43 : decode cX1_singleAt 43 = .ok (.iload_n 2, 1) := by decide +kernel
theorem dX1_singleAt_44 : decode cX1_singleAt 44 = .ok (.aload 6, 2) := by decide +kernel
theorem dX1_singleAt_46 : decode cX1_singleAt 46 = .ok (.getfield 32, 3) := by decide +kernel
theorem dX1_singleAt_49 : decode cX1_singleAt 49 = .ok (.isub, 1) := by decide +kernel
theorem dX1_singleAt_50 : decode cX1_singleAt 50 = .ok (.istore_n 2, 1) := by decide +kernel
theorem dX1_singleAt_51 : decode cX1_singleAt 51 = .ok (.iinc 5 1, 3) := by decide +kernel
theorem dX1_singleAt_54 : decode cX1_singleAt 54 = .ok (.goto (-40), 3) := by decide +kernel
theorem dX1_singleAt_57 : decode cX1_singleAt 57 = .ok (.aconst_null, 1) := by decide +kernel
theorem dX1_singleAt_58 : decode cX1_singleAt 58 = .ok (.areturn, 1) := by decide +kernel
theorem dX2_init_0 : decode cX2_init 0 = .ok (.aload_n 0, 1) := by decide +kernel
theorem dX2_init_1 : decode cX2_init 1 = .ok (.invokespecial 3, 3) := by decide +kernel
theorem dX2_init_4 : decode cX2_init 4 = .ok (.aload_n 0, 1) := by decide +kernel
theorem dX2_init_5 : decode cX2_init 5 = .ok (.bipush 8, 2) := by decide +kernel
theorem dX2_init_7 : decode cX2_init 7 = .ok (.newarray .long, 2) := by decide +kernel
theorem dX2_init_9 : decode cX2_init 9 = .ok (.putfield 9, 3) := by decide +kernel
theorem dX2_init_12 : decode cX2_init 12 = .ok (.return_, 1) := by decide +kernel
theorem dX2_look_0 : decode cX2_look 0 = .ok (.iload_n 1, 1) := by decide +kernel
theorem dX2_look_1 : decode cX2_look 1 = .ok (.ifCond .lt 18, 3) := by decide +kernel
theorem dX2_look_4 : decode cX2_look 4 = .ok (.iload_n 1, 1) := by decide +kernel
theorem dX2_look_5 : decode cX2_look 5 = .ok (.bipush 8, 2) := by decide +kernel
theorem dX2_look_7 : decode cX2_look 7 = .ok (.if_icmp .ge 12, 3) := by decide +kernel
theorem dX2_look_10 : decode cX2_look 10 = .ok (.aload_n 0, 1) := by decide +kernel
theorem dX2_look_11 : decode cX2_look 11 = .ok (.getfield 9, 3) := by decide +kernel
theorem dX2_look_14 : decode cX2_look 14 = .ok (.iload_n 1, 1) := by decide +kernel
theorem dX2_look_15 : decode cX2_look 15 = .ok (.laload, 1) := by decide +kernel
theorem dX2_look_16 : decode cX2_look 16 = .ok (.goto 4, 3) := by decide +kernel
theorem dX2_look_19 : decode cX2_look 19 = .ok (.lconst 0, 1) := by decide +kernel
theorem dX2_look_20 : decode cX2_look 20 = .ok (.lreturn, 1) := by decide +kernel
theorem dX2_take_0 : decode cX2_take 0 = .ok (.iload_n 1, 1) := by decide +kernel
theorem dX2_take_1 : decode cX2_take 1 = .ok (.ifCond .lt 16, 3) := by decide +kernel
theorem dX2_take_4 : decode cX2_take 4 = .ok (.iload_n 1, 1) := by decide +kernel
theorem dX2_take_5 : decode cX2_take 5 = .ok (.bipush 8, 2) := by decide +kernel
theorem dX2_take_7 : decode cX2_take 7 = .ok (.if_icmp .ge 10, 3) := by decide +kernel
theorem dX2_take_10 : decode cX2_take 10 = .ok (.aload_n 0, 1) := by decide +kernel
theorem dX2_take_11 : decode cX2_take 11 = .ok (.getfield 9, 3) := by decide +kernel
theorem dX2_take_14 : decode cX2_take 14 = .ok (.iload_n 1, 1) := by decide +kernel
theorem dX2_take_15 : decode cX2_take 15 = .ok (.lload_n 2, 1) := by decide +kernel
theorem dX2_take_16 : decode cX2_take 16 = .ok (.lastore, 1) := by decide +kernel
theorem dX2_take_17 : decode cX2_take 17 = .ok (.return_, 1) := by decide +kernel
theorem dX2_drop_0 : decode cX2_drop 0 = .ok (.aload_n 0, 1) := by decide +kernel
theorem dX2_drop_1 : decode cX2_drop 1 = .ok (.getfield 9, 3) := by decide +kernel
theorem dX2_drop_4 : decode cX2_drop 4 = .ok (.lconst 0, 1) := by decide +kernel
theorem dX2_drop_5 : decode cX2_drop 5 = .ok (.invokestatic 15, 3) := by decide +kernel
theorem dX2_drop_8 : decode cX2_drop 8 = .ok (.return_, 1) := by decide +kernel
theorem dX3_init_0 : decode cX3_init 0 = .ok (.aload_n 0, 1) := by decide +kernel
theorem dX3_init_1 : decode cX3_init 1 = .ok (.invokespecial 1, 3) := by decide +kernel
theorem dX3_init_4 : decode cX3_init 4 = .ok (.return_, 1) := by decide +kernel
theorem dX3_note_0 : decode cX3_note 0 = .ok (.aload_n 0, 1) := by decide +kernel
theorem dX3_note_1 : decode cX3_note 1 = .ok (.dup, 1) := by decide +kernel
theorem dX3_note_2 : decode cX3_note 2 = .ok (.getfield 7, 3) := by decide +kernel
theorem dX3_note_5 : decode cX3_note 5 = .ok (.iconst 1, 1) := by decide +kernel
theorem dX3_note_6 : decode cX3_note 6 = .ok (.iadd, 1) := by decide +kernel
theorem dX3_note_7 : decode cX3_note 7 = .ok (.putfield 7, 3) := by decide +kernel
theorem dX3_note_10 : decode cX3_note 10 = .ok (.aload_n 0, 1) := by decide +kernel
theorem dX3_note_11 : decode cX3_note 11 = .ok (.iload_n 1, 1) := by decide +kernel
theorem dX3_note_12 : decode cX3_note 12 = .ok (.putfield 13, 3) := by decide +kernel
theorem dX3_note_15 : decode cX3_note 15 = .ok (.aload_n 0, 1) := by decide +kernel
theorem dX3_note_16 : decode cX3_note 16 = .ok (.iload_n 2, 1) := by decide +kernel
theorem dX3_note_17 : decode cX3_note 17 = .ok (.putfield 16, 3) := by decide +kernel
theorem dX3_note_20 : decode cX3_note 20 = .ok (.aload_n 0, 1) := by decide +kernel
theorem dX3_note_21 : decode cX3_note 21 = .ok (.iload_n 3, 1) := by decide +kernel
theorem dX3_note_22 : decode cX3_note 22 = .ok (.putfield 19, 3) := by decide +kernel
theorem dX3_note_25 : decode cX3_note 25 = .ok (.return_, 1) := by decide +kernel
theorem dX3_forget_0 : decode cX3_forget 0 = .ok (.aload_n 0, 1) := by decide +kernel
theorem dX3_forget_1 : decode cX3_forget 1 = .ok (.iconst 0, 1) := by decide +kernel
theorem dX3_forget_2 : decode cX3_forget 2 = .ok (.putfield 7, 3) := by decide +kernel
theorem dX3_forget_5 : decode cX3_forget 5 = .ok (.return_, 1) := by decide +kernel
theorem dX4_init_0 : decode cX4_init 0 = .ok (.aload_n 0, 1) := by decide +kernel
theorem dX4_init_1 : decode cX4_init 1 = .ok (.iload_n 1, 1) := by decide +kernel
theorem dX4_init_2 : decode cX4_init 2 = .ok (.iconst 2, 1) := by decide +kernel
theorem dX4_init_3 : decode cX4_init 3 = .ok (.iload 4, 2) := by decide +kernel
theorem dX4_init_5 : decode cX4_init 5 = .ok (.i2l, 1) := by decide +kernel
theorem dX4_init_6 : decode cX4_init 6 = .ok (.invokespecial 3, 3) := by decide +kernel
theorem dX4_init_9 : decode cX4_init 9 = .ok (.aload_n 0, 1) := by decide +kernel
theorem dX4_init_10 : decode cX4_init 10 = .ok (.iload_n 2, 1) := by decide +kernel
theorem dX4_init_11 : decode cX4_init 11 = .ok (.putfield 9, 3) := by decide +kernel
theorem dX4_init_14 : decode cX4_init 14 = .ok (.aload_n 0, 1) := by decide +kernel
theorem dX4_init_15 : decode cX4_init 15 = .ok (.iload_n 3, 1) := by decide +kernel
theorem dX4_init_16 : decode cX4_init 16 = .ok (.putfield 15, 3) := by decide +kernel
theorem dX4_init_19 : decode cX4_init 19 = .ok (.return_, 1) := by decide +kernel
theorem dX4_placeOf_0 : decode cX4_placeOf 0 = .ok (.lload_n 1, 1) := by decide +kernel
theorem dX4_placeOf_1 : decode cX4_placeOf 1 = .ok (.lconst 0, 1) := by decide +kernel
theorem dX4_placeOf_2 : decode cX4_placeOf 2 = .ok (.lcmp, 1) := by decide +kernel
theorem dX4_placeOf_3 : decode cX4_placeOf 3 = .ok (.ifCond .lt 13, 3) := by decide +kernel
theorem dX4_placeOf_6 : decode cX4_placeOf 6 = .ok (.lload_n 1, 1) := by decide +kernel
theorem dX4_placeOf_7 : decode cX4_placeOf 7 = .ok (.aload_n 0, 1) := by decide +kernel
theorem dX4_placeOf_8 : decode cX4_placeOf 8 = .ok (.getfield 9, 3) := by decide +kernel
theorem dX4_placeOf_11 : decode cX4_placeOf 11 = .ok (.i2l, 1) := by decide +kernel
theorem dX4_placeOf_12 : decode cX4_placeOf 12 = .ok (.lcmp, 1) := by decide +kernel
theorem dX4_placeOf_13 : decode cX4_placeOf 13 = .ok (.ifCond .lt 7, 3) := by decide +kernel
theorem dX4_placeOf_16 : decode cX4_placeOf 16 = .ok (.ldc2_w 18, 3) := by decide +kernel
theorem dX4_placeOf_19 : decode cX4_placeOf 19 = .ok (.lreturn, 1) := by decide +kernel
theorem dX4_placeOf_20 : decode cX4_placeOf 20 = .ok (.lload_n 1, 1) := by decide +kernel
theorem dX4_placeOf_21 : decode cX4_placeOf 21 = .ok (.aload_n 0, 1) := by decide +kernel
theorem dX4_placeOf_22 : decode cX4_placeOf 22 = .ok (.getfield 15, 3) := by decide +kernel
theorem dX4_placeOf_25 : decode cX4_placeOf 25 = .ok (.i2l, 1) := by decide +kernel
theorem dX4_placeOf_26 : decode cX4_placeOf 26 = .ok (.lcmp, 1) := by decide +kernel
theorem dX4_placeOf_27 : decode cX4_placeOf 27 = .ok (.ifCond .lt 13, 3) := by decide +kernel
theorem dX4_placeOf_30 : decode cX4_placeOf 30 = .ok (.lload_n 1, 1) := by decide +kernel
theorem dX4_placeOf_31 : decode cX4_placeOf 31 = .ok (.aload_n 0, 1) := by decide +kernel
theorem dX4_placeOf_32 : decode cX4_placeOf 32 = .ok (.getfield 15, 3) := by decide +kernel
theorem dX4_placeOf_35 : decode cX4_placeOf 35 = .ok (.i2l, 1) := by decide +kernel
theorem dX4_placeOf_36 : decode cX4_placeOf 36 = .ok (.lsub, 1) := by decide +kernel
theorem dX4_placeOf_37 : decode cX4_placeOf 37 = .ok (.goto 16, 3) := by decide +kernel
theorem dX4_placeOf_40 : decode cX4_placeOf 40 = .ok (.lload_n 1, 1) := by decide +kernel
theorem dX4_placeOf_41 : decode cX4_placeOf 41 = .ok (.aload_n 0, 1) := by decide +kernel
theorem dX4_placeOf_42 : decode cX4_placeOf 42 = .ok (.getfield 15, 3) := by decide +kernel
theorem dX4_placeOf_45 : decode cX4_placeOf 45 = .ok (.i2l, 1) := by decide +kernel
theorem dX4_placeOf_46 : decode cX4_placeOf 46 = .ok (.lsub, 1) := by decide +kernel
theorem dX4_placeOf_47 : decode cX4_placeOf 47 = .ok (.aload_n 0, 1) := by decide +kernel
theorem dX4_placeOf_48 : decode cX4_placeOf 48 = .ok (.getfield 9, 3) := by decide +kernel
theorem dX4_placeOf_51 : decode cX4_placeOf 51 = .ok (.i2l, 1) := by decide +kernel
theorem dX4_placeOf_52 : decode cX4_placeOf 52 = .ok (.ladd, 1) := by decide +kernel
theorem dX4_placeOf_53 : decode cX4_placeOf 53 = .ok (.lstore_n 3, 1) := by decide +kernel
theorem dX4_placeOf_54 : decode cX4_placeOf 54 = .ok (.lload_n 3, 1) := by decide +kernel
theorem dX4_placeOf_55 : decode cX4_placeOf 55 = .ok (.aload_n 0, 1) := by decide +kernel
theorem dX4_placeOf_56 : decode cX4_placeOf 56 = .ok (.getfield 20, 3) := by decide +kernel
theorem dX4_placeOf_59 : decode cX4_placeOf 59 = .ok (.lcmp, 1) := by decide +kernel
theorem dX4_placeOf_60 : decode cX4_placeOf 60 = .ok (.ifCond .ge 7, 3) := by decide +kernel
theorem dX4_placeOf_63 : decode cX4_placeOf 63 = .ok (.lload_n 3, 1) := by decide +kernel
theorem dX4_placeOf_64 : decode cX4_placeOf 64 = .ok (.goto 6, 3) := by decide +kernel
theorem dX4_placeOf_67 : decode cX4_placeOf 67 = .ok (.ldc2_w 18, 3) := by decide +kernel
theorem dX4_placeOf_70 : decode cX4_placeOf 70 = .ok (.lreturn, 1) := by decide +kernel
theorem dX4_valueAt_0 : decode cX4_valueAt 0 = .ok (.aload_n 0, 1) := by decide +kernel
theorem dX4_valueAt_1 : decode cX4_valueAt 1 = .ok (.getfield 15, 3) := by decide +kernel
theorem dX4_valueAt_4 : decode cX4_valueAt 4 = .ok (.i2l, 1) := by decide +kernel
theorem dX4_valueAt_5 : decode cX4_valueAt 5 = .ok (.lload_n 1, 1) := by decide +kernel
theorem dX4_valueAt_6 : decode cX4_valueAt 6 = .ok (.ladd, 1) := by decide +kernel
theorem dX4_valueAt_7 : decode cX4_valueAt 7 = .ok (.lstore_n 3, 1) := by decide +kernel
theorem dX4_valueAt_8 : decode cX4_valueAt 8 = .ok (.lload_n 3, 1) := by decide +kernel
theorem dX4_valueAt_9 : decode cX4_valueAt 9 = .ok (.aload_n 0, 1) := by decide +kernel
theorem dX4_valueAt_10 : decode cX4_valueAt 10 = .ok (.getfield 9, 3) := by decide +kernel
theorem dX4_valueAt_13 : decode cX4_valueAt 13 = .ok (.i2l, 1) := by decide +kernel
theorem dX4_valueAt_14 : decode cX4_valueAt 14 = .ok (.lcmp, 1) := by decide +kernel
theorem dX4_valueAt_15 : decode cX4_valueAt 15 = .ok (.ifCond .ge 7, 3) := by decide +kernel
theorem dX4_valueAt_18 : decode cX4_valueAt 18 = .ok (.lload_n 3, 1) := by decide +kernel
theorem dX4_valueAt_19 : decode cX4_valueAt 19 = .ok (.goto 10, 3) := by decide +kernel
theorem dX4_valueAt_22 : decode cX4_valueAt 22 = .ok (.lload_n 3, 1) := by decide +kernel
theorem dX4_valueAt_23 : decode cX4_valueAt 23 = .ok (.aload_n 0, 1) := by decide +kernel
theorem dX4_valueAt_24 : decode cX4_valueAt 24 = .ok (.getfield 9, 3) := by decide +kernel
theorem dX4_valueAt_27 : decode cX4_valueAt 27 = .ok (.i2l, 1) := by decide +kernel
theorem dX4_valueAt_28 : decode cX4_valueAt 28 = .ok (.lsub, 1) := by decide +kernel
theorem dX4_valueAt_29 : decode cX4_valueAt 29 = .ok (.lreturn, 1) := by decide +kernel
theorem dX4_liesIn_0 : decode cX4_liesIn 0 = .ok (.aload_n 0, 1) := by decide +kernel
theorem dX4_liesIn_1 : decode cX4_liesIn 1 = .ok (.aload_n 1, 1) := by decide +kernel
theorem dX4_liesIn_2 : decode cX4_liesIn 2 = .ok (.invokevirtual 24, 3) := by decide +kernel
theorem dX4_liesIn_5 : decode cX4_liesIn 5 = .ok (.ireturn, 1) := by decide +kernel
theorem dX5_init_0 : decode cX5_init 0 = .ok (.aload_n 0, 1) := by decide +kernel
theorem dX5_init_1 : decode cX5_init 1 = .ok (.invokespecial 3, 3) := by decide +kernel
theorem dX5_init_4 : decode cX5_init 4 = .ok (.aload_n 0, 1) := by decide +kernel
theorem dX5_init_5 : decode cX5_init 5 = .ok (.iload_n 1, 1) := by decide +kernel
theorem dX5_init_6 : decode cX5_init 6 = .ok (.putfield 9, 3) := by decide +kernel
theorem dX5_init_9 : decode cX5_init 9 = .ok (.aload_n 0, 1) := by decide +kernel
theorem dX5_init_10 : decode cX5_init 10 = .ok (.iload_n 2, 1) := by decide +kernel
theorem dX5_init_11 : decode cX5_init 11 = .ok (.putfield 15, 3) := by decide +kernel
theorem dX5_init_14 : decode cX5_init 14 = .ok (.aload_n 0, 1) := by decide +kernel
theorem dX5_init_15 : decode cX5_init 15 = .ok (.iload_n 3, 1) := by decide +kernel
theorem dX5_init_16 : decode cX5_init 16 = .ok (.putfield 18, 3) := by decide +kernel
theorem dX5_init_19 : decode cX5_init 19 = .ok (.aload_n 0, 1) := by decide +kernel
theorem dX5_init_20 : decode cX5_init 20 = .ok (.lload 4, 2) := by decide +kernel
theorem dX5_init_22 : decode cX5_init 22 = .ok (.putfield 21, 3) := by decide +kernel
theorem dX5_init_25 : decode cX5_init 25 = .ok (.return_, 1) := by decide +kernel
theorem dX5_reaches_0 : decode cX5_reaches 0 = .ok (.lload_n 1, 1) := by decide +kernel
theorem dX5_reaches_1 : decode cX5_reaches 1 = .ok (.lconst 0, 1) := by decide +kernel
theorem dX5_reaches_2 : decode cX5_reaches 2 = .ok (.lcmp, 1) := by decide +kernel
theorem dX5_reaches_3 : decode cX5_reaches 3 = .ok (.ifCond .lt 27, 3) := by decide +kernel
theorem dX5_reaches_6 : decode cX5_reaches 6 = .ok (.aload_n 0, 1) := by decide +kernel
theorem dX5_reaches_7 : decode cX5_reaches 7 = .ok (.getfield 21, 3) := by decide +kernel
theorem dX5_reaches_10 : decode cX5_reaches 10 = .ok (.ldc2_w 25, 3) := by decide +kernel
theorem dX5_reaches_13 : decode cX5_reaches 13 = .ok (.lcmp, 1) := by decide +kernel
theorem dX5_reaches_14 : decode cX5_reaches 14 = .ok (.ifCond .eq 12, 3) := by decide +kernel
theorem dX5_reaches_17 : decode cX5_reaches 17 = .ok (.lload_n 1, 1) := by decide +kernel
theorem dX5_reaches_18 : decode cX5_reaches 18 = .ok (.aload_n 0, 1) := by decide +kernel
theorem dX5_reaches_19 : decode cX5_reaches 19 = .ok (.getfield 21, 3) := by decide +kernel
theorem dX5_reaches_22 : decode cX5_reaches 22 = .ok (.lcmp, 1) := by decide +kernel
theorem dX5_reaches_23 : decode cX5_reaches 23 = .ok (.ifCond .ge 7, 3) := by decide +kernel
theorem dX5_reaches_26 : decode cX5_reaches 26 = .ok (.iconst 1, 1) := by decide +kernel
theorem dX5_reaches_27 : decode cX5_reaches 27 = .ok (.goto 4, 3) := by decide +kernel
theorem dX5_reaches_30 : decode cX5_reaches 30 = .ok (.iconst 0, 1) := by decide +kernel
theorem dX5_reaches_31 : decode cX5_reaches 31 = .ok (.ireturn, 1) := by decide +kernel
theorem dX6_init_0 : decode cX6_init 0 = .ok (.aload_n 0, 1) := by decide +kernel
theorem dX6_init_1 : decode cX6_init 1 = .ok (.iload_n 1, 1) := by decide +kernel
theorem dX6_init_2 : decode cX6_init 2 = .ok (.iload_n 2, 1) := by decide +kernel
theorem dX6_init_3 : decode cX6_init 3 = .ok (.lload 8, 2) := by decide +kernel
theorem dX6_init_5 : decode cX6_init 5 = .ok (.invokespecial 3, 3) := by decide +kernel
theorem dX6_init_8 : decode cX6_init 8 = .ok (.aload_n 0, 1) := by decide +kernel
theorem dX6_init_9 : decode cX6_init 9 = .ok (.lload_n 3, 1) := by decide +kernel
theorem dX6_init_10 : decode cX6_init 10 = .ok (.putfield 9, 3) := by decide +kernel
theorem dX6_init_13 : decode cX6_init 13 = .ok (.aload_n 0, 1) := by decide +kernel
theorem dX6_init_14 : decode cX6_init 14 = .ok (.lload 5, 2) := by decide +kernel
theorem dX6_init_16 : decode cX6_init 16 = .ok (.putfield 15, 3) := by decide +kernel
theorem dX6_init_19 : decode cX6_init 19 = .ok (.aload_n 0, 1) := by decide +kernel
theorem dX6_init_20 : decode cX6_init 20 = .ok (.iload 7, 2) := by decide +kernel
theorem dX6_init_22 : decode cX6_init 22 = .ok (.putfield 18, 3) := by decide +kernel
theorem dX6_init_25 : decode cX6_init 25 = .ok (.return_, 1) := by decide +kernel
theorem dX6_placeOf_0 : decode cX6_placeOf 0 = .ok (.aload_n 0, 1) := by decide +kernel
theorem dX6_placeOf_1 : decode cX6_placeOf 1 = .ok (.getfield 18, 3) := by decide +kernel
theorem dX6_placeOf_4 : decode cX6_placeOf 4 = .ok (.ifCond .le 7, 3) := by decide +kernel
theorem dX6_placeOf_7 : decode cX6_placeOf 7 = .ok (.iconst 1, 1) := by decide +kernel
theorem dX6_placeOf_8 : decode cX6_placeOf 8 = .ok (.goto 4, 3) := by decide +kernel
theorem dX6_placeOf_11 : decode cX6_placeOf 11 = .ok (.iconst 0, 1) := by decide +kernel
theorem dX6_placeOf_12 : decode cX6_placeOf 12 = .ok (.istore_n 3, 1) := by decide +kernel
theorem dX6_placeOf_13 : decode cX6_placeOf 13 = .ok (.iload_n 3, 1) := by decide +kernel
theorem dX6_placeOf_14 : decode cX6_placeOf 14 = .ok (.ifCond .eq 29, 3) := by decide +kernel
theorem dX6_placeOf_17 : decode cX6_placeOf 17 = .ok (.lload_n 1, 1) := by decide +kernel
theorem dX6_placeOf_18 : decode cX6_placeOf 18 = .ok (.aload_n 0, 1) := by decide +kernel
theorem dX6_placeOf_19 : decode cX6_placeOf 19 = .ok (.getfield 9, 3) := by decide +kernel
theorem dX6_placeOf_22 : decode cX6_placeOf 22 = .ok (.lcmp, 1) := by decide +kernel
theorem dX6_placeOf_23 : decode cX6_placeOf 23 = .ok (.ifCond .lt 12, 3) := by decide +kernel
theorem dX6_placeOf_26 : decode cX6_placeOf 26 = .ok (.lload_n 1, 1) := by decide +kernel
theorem dX6_placeOf_27 : decode cX6_placeOf 27 = .ok (.aload_n 0, 1) := by decide +kernel
theorem dX6_placeOf_28 : decode cX6_placeOf 28 = .ok (.getfield 15, 3) := by decide +kernel
theorem dX6_placeOf_31 : decode cX6_placeOf 31 = .ok (.lcmp, 1) := by decide +kernel
theorem dX6_placeOf_32 : decode cX6_placeOf 32 = .ok (.ifCond .le 7, 3) := by decide +kernel
theorem dX6_placeOf_35 : decode cX6_placeOf 35 = .ok (.iconst 1, 1) := by decide +kernel
theorem dX6_placeOf_36 : decode cX6_placeOf 36 = .ok (.goto 30, 3) := by decide +kernel
theorem dX6_placeOf_39 : decode cX6_placeOf 39 = .ok (.iconst 0, 1) := by decide +kernel
theorem dX6_placeOf_40 : decode cX6_placeOf 40 = .ok (.goto 26, 3) := by decide +kernel
theorem dX6_placeOf_43 : decode cX6_placeOf 43 = .ok (.lload_n 1, 1) := by decide +kernel
theorem dX6_placeOf_44 : decode cX6_placeOf 44 = .ok (.aload_n 0, 1) := by decide +kernel
theorem dX6_placeOf_45 : decode cX6_placeOf 45 = .ok (.getfield 9, 3) := by decide +kernel
theorem dX6_placeOf_48 : decode cX6_placeOf 48 = .ok (.lcmp, 1) := by decide +kernel
theorem dX6_placeOf_49 : decode cX6_placeOf 49 = .ok (.ifCond .gt 12, 3) := by decide +kernel
theorem dX6_placeOf_52 : decode cX6_placeOf 52 = .ok (.lload_n 1, 1) := by decide +kernel
theorem dX6_placeOf_53 : decode cX6_placeOf 53 = .ok (.aload_n 0, 1) := by decide +kernel
theorem dX6_placeOf_54 : decode cX6_placeOf 54 = .ok (.getfield 15, 3) := by decide +kernel
theorem dX6_placeOf_57 : decode cX6_placeOf 57 = .ok (.lcmp, 1) := by decide +kernel
theorem dX6_placeOf_58 : decode cX6_placeOf 58 = .ok (.ifCond .ge 7, 3) := by decide +kernel
theorem dX6_placeOf_61 : decode cX6_placeOf 61 = .ok (.iconst 1, 1) := by decide +kernel
theorem dX6_placeOf_62 : decode cX6_placeOf 62 = .ok (.goto 4, 3) := by decide +kernel
theorem dX6_placeOf_65 : decode cX6_placeOf 65 = .ok (.iconst 0, 1) := by decide +kernel
theorem dX6_placeOf_66 : decode cX6_placeOf 66 = .ok (.istore 4, 2) := by decide +kernel
theorem dX6_placeOf_68 : decode cX6_placeOf 68 = .ok (.aload_n 0, 1) := by decide +kernel
theorem dX6_placeOf_69 : decode cX6_placeOf 69 = .ok (.getfield 22, 3) := by decide +kernel
theorem dX6_placeOf_72 : decode cX6_placeOf 72 = .ok (.lconst 0, 1) := by decide +kernel
theorem dX6_placeOf_73 : decode cX6_placeOf 73 = .ok (.lcmp, 1) := by decide +kernel
theorem dX6_placeOf_74 : decode cX6_placeOf 74 = .ok (.ifCond .eq 8, 3) := by decide +kernel
theorem dX6_placeOf_77 : decode cX6_placeOf 77 = .ok (.iload 4, 2) := by decide +kernel
theorem dX6_placeOf_79 : decode cX6_placeOf 79 = .ok (.ifCond .eq 7, 3) := by decide +kernel
theorem dX6_placeOf_82 : decode cX6_placeOf 82 = .ok (.ldc2_w 25, 3) := by decide +kernel
theorem dX6_placeOf_85 : decode cX6_placeOf 85 = .ok (.lreturn, 1) := by decide +kernel
theorem dX6_placeOf_86 : decode cX6_placeOf 86 = .ok (.iload_n 3, 1) := by decide +kernel
theorem dX6_placeOf_87 : decode cX6_placeOf 87 = .ok (.ifCond .eq 11, 3) := by decide +kernel
theorem dX6_placeOf_90 : decode cX6_placeOf 90 = .ok (.aload_n 0, 1) := by decide +kernel
theorem dX6_placeOf_91 : decode cX6_placeOf 91 = .ok (.getfield 18, 3) := by decide +kernel
theorem dX6_placeOf_94 : decode cX6_placeOf 94 = .ok (.i2l, 1) := by decide +kernel
theorem dX6_placeOf_95 : decode cX6_placeOf 95 = .ok (.goto 9, 3) := by decide +kernel
theorem dX6_placeOf_98 : decode cX6_placeOf 98 = .ok (.aload_n 0, 1) := by decide +kernel
theorem dX6_placeOf_99 : decode cX6_placeOf 99 = .ok (.getfield 18, 3) := by decide +kernel
theorem dX6_placeOf_102 : decode cX6_placeOf 102 = .ok (.ineg, 1) := by decide +kernel
theorem dX6_placeOf_103 : decode cX6_placeOf 103 = .ok (.i2l, 1) := by decide +kernel
theorem dX6_placeOf_104 : decode cX6_placeOf 104 = .ok (.lstore 5, 2) := by decide +kernel
theorem dX6_placeOf_106 : decode cX6_placeOf 106 = .ok (.iload_n 3, 1) := by decide +kernel
theorem dX6_placeOf_107 : decode cX6_placeOf 107 = .ok (.ifCond .eq 12, 3) := by decide +kernel
theorem dX6_placeOf_110 : decode cX6_placeOf 110 = .ok (.lload_n 1, 1) := by decide +kernel
theorem dX6_placeOf_111 : decode cX6_placeOf 111 = .ok (.aload_n 0, 1) := by decide +kernel
theorem dX6_placeOf_112 : decode cX6_placeOf 112 = .ok (.getfield 9, 3) := by decide +kernel
theorem dX6_placeOf_115 : decode cX6_placeOf 115 = .ok (.lsub, 1) := by decide +kernel
theorem dX6_placeOf_116 : decode cX6_placeOf 116 = .ok (.goto 9, 3) := by decide +kernel
theorem dX6_placeOf_119 : decode cX6_placeOf 119 = .ok (.aload_n 0, 1) := by decide +kernel
theorem dX6_placeOf_120 : decode cX6_placeOf 120 = .ok (.getfield 9, 3) := by decide +kernel
theorem dX6_placeOf_123 : decode cX6_placeOf 123 = .ok (.lload_n 1, 1) := by decide +kernel
theorem dX6_placeOf_124 : decode cX6_placeOf 124 = .ok (.lsub, 1) := by decide +kernel
theorem dX6_placeOf_125 : decode cX6_placeOf 125 = .ok (.lstore 7, 2) := by decide +kernel
theorem dX6_placeOf_127 : decode cX6_placeOf 127 = .ok (.lload 7, 2) := by decide +kernel
theorem dX6_placeOf_129 : decode cX6_placeOf 129 = .ok (.lload 5, 2) := by decide +kernel
theorem dX6_placeOf_131 : decode cX6_placeOf 131 = .ok (.invokestatic 27, 3) := by decide +kernel
theorem dX6_placeOf_134 : decode cX6_placeOf 134 = .ok (.lstore 9, 2) := by decide +kernel
theorem dX6_placeOf_136 : decode cX6_placeOf 136 = .ok (.lload 9, 2) := by decide +kernel
theorem dX6_placeOf_138 : decode cX6_placeOf 138 = .ok (.lload 5, 2) := by decide +kernel
theorem dX6_placeOf_140 : decode cX6_placeOf 140 = .ok (.lmul, 1) := by decide +kernel
theorem dX6_placeOf_141 : decode cX6_placeOf 141 = .ok (.lload 7, 2) := by decide +kernel
theorem dX6_placeOf_143 : decode cX6_placeOf 143 = .ok (.lcmp, 1) := by decide +kernel
theorem dX6_placeOf_144 : decode cX6_placeOf 144 = .ok (.ifCond .eq 7, 3) := by decide +kernel
theorem dX6_placeOf_147 : decode cX6_placeOf 147 = .ok (.ldc2_w 25, 3) := by decide +kernel
theorem dX6_placeOf_150 : decode cX6_placeOf 150 = .ok (.lreturn, 1) := by decide +kernel
theorem dX6_placeOf_151 : decode cX6_placeOf 151 = .ok (.lload 9, 2) := by decide +kernel
theorem dX6_placeOf_153 : decode cX6_placeOf 153 = .ok (.lconst 0, 1) := by decide +kernel
theorem dX6_placeOf_154 : decode cX6_placeOf 154 = .ok (.lcmp, 1) := by decide +kernel
theorem dX6_placeOf_155 : decode cX6_placeOf 155 = .ok (.ifCond .ge 9, 3) := by decide +kernel
theorem dX6_placeOf_158 : decode cX6_placeOf 158 = .ok (.ldc2_w 31, 3) := by decide +kernel
theorem dX6_placeOf_161 : decode cX6_placeOf 161 = .ok (.goto 5, 3) := by decide +kernel
theorem dX6_placeOf_164 : decode cX6_placeOf 164 = .ok (.lload 9, 2) := by decide +kernel
theorem dX6_placeOf_166 : decode cX6_placeOf 166 = .ok (.lreturn, 1) := by decide +kernel
theorem dX6_valueAt_0 : decode cX6_valueAt 0 = .ok (.aload_n 0, 1) := by decide +kernel
theorem dX6_valueAt_1 : decode cX6_valueAt 1 = .ok (.getfield 9, 3) := by decide +kernel
theorem dX6_valueAt_4 : decode cX6_valueAt 4 = .ok (.lload_n 1, 1) := by decide +kernel
theorem dX6_valueAt_5 : decode cX6_valueAt 5 = .ok (.aload_n 0, 1) := by decide +kernel
theorem dX6_valueAt_6 : decode cX6_valueAt 6 = .ok (.getfield 18, 3) := by decide +kernel
theorem dX6_valueAt_9 : decode cX6_valueAt 9 = .ok (.i2l, 1) := by decide +kernel
theorem dX6_valueAt_10 : decode cX6_valueAt 10 = .ok (.lmul, 1) := by decide +kernel
theorem dX6_valueAt_11 : decode cX6_valueAt 11 = .ok (.ladd, 1) := by decide +kernel
theorem dX6_valueAt_12 : decode cX6_valueAt 12 = .ok (.lreturn, 1) := by decide +kernel
theorem dX6_liesIn_0 : decode cX6_liesIn 0 = .ok (.aload_n 1, 1) := by decide +kernel
theorem dX6_liesIn_1 : decode cX6_liesIn 1 = .ok (.instanceof 10, 3) := by decide +kernel
theorem dX6_liesIn_4 : decode cX6_liesIn 4 = .ok (.ifCond .eq 16, 3) := by decide +kernel
theorem dX6_liesIn_7 : decode cX6_liesIn 7 = .ok (.aload_n 1, 1) := by decide +kernel
theorem dX6_liesIn_8 : decode cX6_liesIn 8 = .ok (.checkcast 10, 3) := by decide +kernel
theorem dX6_liesIn_11 : decode cX6_liesIn 11 = .ok (.astore_n 2, 1) := by decide +kernel
theorem dX6_liesIn_12 : decode cX6_liesIn 12 = .ok (.aload_n 0, 1) := by decide +kernel
theorem dX6_liesIn_13 : decode cX6_liesIn 13 = .ok (.aload_n 2, 1) := by decide +kernel
theorem dX6_liesIn_14 : decode cX6_liesIn 14 = .ok (.invokevirtual 33, 3) := by decide +kernel
theorem dX6_liesIn_17 : decode cX6_liesIn 17 = .ok (.goto 8, 3) := by decide +kernel
theorem dX6_liesIn_20 : decode cX6_liesIn 20 = .ok (.aload_n 0, 1) := by decide +kernel
theorem dX6_liesIn_21 : decode cX6_liesIn 21 = .ok (.aload_n 1, 1) := by decide +kernel
theorem dX6_liesIn_22 : decode cX6_liesIn 22 = .ok (.invokevirtual 37, 3) := by decide +kernel
theorem dX6_liesIn_25 : decode cX6_liesIn 25 = .ok (.ireturn, 1) := by decide +kernel
theorem dX6_liesInRow_0 : decode cX6_liesInRow 0 = .ok (.aload_n 1, 1) := by decide +kernel
theorem dX6_liesInRow_1 : decode cX6_liesInRow 1 = .ok (.aload_n 0, 1) := by decide +kernel
theorem dX6_liesInRow_2 : decode cX6_liesInRow 2 = .ok (.getfield 9, 3) := by decide +kernel
theorem dX6_liesInRow_5 : decode cX6_liesInRow 5 = .ok (.invokevirtual 41, 3) := by decide +kernel
theorem dX6_liesInRow_8 : decode cX6_liesInRow 8 = .ok (.ldc2_w 25, 3) := by decide +kernel
theorem dX6_liesInRow_11 : decode cX6_liesInRow 11 = .ok (.lcmp, 1) := by decide +kernel
theorem dX6_liesInRow_12 : decode cX6_liesInRow 12 = .ok (.ifCond .eq 18, 3) := by decide +kernel
theorem dX6_liesInRow_15 : decode cX6_liesInRow 15 = .ok (.aload_n 1, 1) := by decide +kernel
theorem dX6_liesInRow_16 : decode cX6_liesInRow 16 = .ok (.aload_n 0, 1) := by decide +kernel
theorem dX6_liesInRow_17 : decode cX6_liesInRow 17 = .ok (.getfield 15, 3) := by decide +kernel
theorem dX6_liesInRow_20 : decode cX6_liesInRow 20 = .ok (.invokevirtual 41, 3) := by decide +kernel
theorem dX6_liesInRow_23 : decode cX6_liesInRow 23 = .ok (.ldc2_w 25, 3) := by decide +kernel
theorem dX6_liesInRow_26 : decode cX6_liesInRow 26 = .ok (.lcmp, 1) := by decide +kernel
theorem dX6_liesInRow_27 : decode cX6_liesInRow 27 = .ok (.ifCond .ne 5, 3) := by decide +kernel
theorem dX6_liesInRow_30 : decode cX6_liesInRow 30 = .ok (.iconst 0, 1) := by decide +kernel
theorem dX6_liesInRow_31 : decode cX6_liesInRow 31 = .ok (.ireturn, 1) := by decide +kernel
theorem dX6_liesInRow_32 : decode cX6_liesInRow 32 = .ok (.aload_n 0, 1) := by decide +kernel
theorem dX6_liesInRow_33 : decode cX6_liesInRow 33 = .ok (.getfield 22, 3) := by decide +kernel
theorem dX6_liesInRow_36 : decode cX6_liesInRow 36 = .ok (.lconst 1, 1) := by decide +kernel
theorem dX6_liesInRow_37 : decode cX6_liesInRow 37 = .ok (.lcmp, 1) := by decide +kernel
theorem dX6_liesInRow_38 : decode cX6_liesInRow 38 = .ok (.ifCond .eq 22, 3) := by decide +kernel
theorem dX6_liesInRow_41 : decode cX6_liesInRow 41 = .ok (.aload_n 1, 1) := by decide +kernel
theorem dX6_liesInRow_42 : decode cX6_liesInRow 42 = .ok (.getfield 18, 3) := by decide +kernel
theorem dX6_liesInRow_45 : decode cX6_liesInRow 45 = .ok (.ifCond .eq 19, 3) := by decide +kernel
theorem dX6_liesInRow_48 : decode cX6_liesInRow 48 = .ok (.aload_n 0, 1) := by decide +kernel
theorem dX6_liesInRow_49 : decode cX6_liesInRow 49 = .ok (.getfield 18, 3) := by decide +kernel
theorem dX6_liesInRow_52 : decode cX6_liesInRow 52 = .ok (.aload_n 1, 1) := by decide +kernel
theorem dX6_liesInRow_53 : decode cX6_liesInRow 53 = .ok (.getfield 18, 3) := by decide +kernel
theorem dX6_liesInRow_56 : decode cX6_liesInRow 56 = .ok (.irem, 1) := by decide +kernel
theorem dX6_liesInRow_57 : decode cX6_liesInRow 57 = .ok (.ifCond .ne 7, 3) := by decide +kernel
theorem dX6_liesInRow_60 : decode cX6_liesInRow 60 = .ok (.iconst 1, 1) := by decide +kernel
theorem dX6_liesInRow_61 : decode cX6_liesInRow 61 = .ok (.goto 4, 3) := by decide +kernel
theorem dX6_liesInRow_64 : decode cX6_liesInRow 64 = .ok (.iconst 0, 1) := by decide +kernel
theorem dX6_liesInRow_65 : decode cX6_liesInRow 65 = .ok (.ireturn, 1) := by decide +kernel
theorem dX7_init_0 : decode cX7_init 0 = .ok (.aload_n 0, 1) := by decide +kernel
theorem dX7_init_1 : decode cX7_init 1 = .ok (.iload_n 1, 1) := by decide +kernel
theorem dX7_init_2 : decode cX7_init 2 = .ok (.iload_n 2, 1) := by decide +kernel
theorem dX7_init_3 : decode cX7_init 3 = .ok (.iconst 1, 1) := by decide +kernel
theorem dX7_init_4 : decode cX7_init 4 = .ok (.lload_n 3, 1) := by decide +kernel
theorem dX7_init_5 : decode cX7_init 5 = .ok (.invokespecial 3, 3) := by decide +kernel
theorem dX7_init_8 : decode cX7_init 8 = .ok (.return_, 1) := by decide +kernel
theorem dX7_madeOf_0 : decode cX7_madeOf 0 = .ok (.iconst 0, 1) := by decide +kernel
theorem dX7_madeOf_1 : decode cX7_madeOf 1 = .ok (.ireturn, 1) := by decide +kernel
theorem dX7_place_0 : decode cX7_place 0 = .ok (.aload_n 0, 1) := by decide +kernel
theorem dX7_place_1 : decode cX7_place 1 = .ok (.aload_n 1, 1) := by decide +kernel
theorem dX7_place_2 : decode cX7_place 2 = .ok (.iload_n 2, 1) := by decide +kernel
theorem dX7_place_3 : decode cX7_place 3 = .ok (.invokevirtual 9, 3) := by decide +kernel
theorem dX7_place_6 : decode cX7_place 6 = .ok (.invokevirtual 15, 3) := by decide +kernel
theorem dX7_place_9 : decode cX7_place 9 = .ok (.lstore 5, 2) := by decide +kernel
theorem dX7_place_11 : decode cX7_place 11 = .ok (.lload 5, 2) := by decide +kernel
theorem dX7_place_13 : decode cX7_place 13 = .ok (.ldc2_w 21, 3) := by decide +kernel
theorem dX7_place_16 : decode cX7_place 16 = .ok (.lcmp, 1) := by decide +kernel
theorem dX7_place_17 : decode cX7_place 17 = .ok (.ifCond .ne 14, 3) := by decide +kernel
theorem dX7_place_20 : decode cX7_place 20 = .ok (.aload 4, 2) := by decide +kernel
theorem dX7_place_22 : decode cX7_place 22 = .ok (.aload_n 0, 1) := by decide +kernel
theorem dX7_place_23 : decode cX7_place 23 = .ok (.getfield 23, 3) := by decide +kernel
theorem dX7_place_26 : decode cX7_place 26 = .ok (.iload_n 2, 1) := by decide +kernel
theorem dX7_place_27 : decode cX7_place 27 = .ok (.iload_n 3, 1) := by decide +kernel
theorem dX7_place_28 : decode cX7_place 28 = .ok (.invokevirtual 27, 3) := by decide +kernel
theorem dX7_place_31 : decode cX7_place 31 = .ok (.lload 5, 2) := by decide +kernel
theorem dX7_place_33 : decode cX7_place 33 = .ok (.lreturn, 1) := by decide +kernel
theorem dX7_fill_0 : decode cX7_fill 0 = .ok (.aload_n 1, 1) := by decide +kernel
theorem dX7_fill_1 : decode cX7_fill 1 = .ok (.iload_n 2, 1) := by decide +kernel
theorem dX7_fill_2 : decode cX7_fill 2 = .ok (.aload_n 0, 1) := by decide +kernel
theorem dX7_fill_3 : decode cX7_fill 3 = .ok (.lload_n 3, 1) := by decide +kernel
theorem dX7_fill_4 : decode cX7_fill 4 = .ok (.invokevirtual 33, 3) := by decide +kernel
theorem dX7_fill_7 : decode cX7_fill 7 = .ok (.invokevirtual 36, 3) := by decide +kernel
theorem dX7_fill_10 : decode cX7_fill 10 = .ok (.return_, 1) := by decide +kernel
theorem dX7_singleAt_0 : decode cX7_singleAt 0 = .ok (.iload_n 1, 1) := by decide +kernel
theorem dX7_singleAt_1 : decode cX7_singleAt 1 = .ok (.ifCond .ne 7, 3) := by decide +kernel
theorem dX7_singleAt_4 : decode cX7_singleAt 4 = .ok (.aload_n 0, 1) := by decide +kernel
theorem dX7_singleAt_5 : decode cX7_singleAt 5 = .ok (.goto 4, 3) := by decide +kernel
theorem dX7_singleAt_8 : decode cX7_singleAt 8 = .ok (.aconst_null, 1) := by decide +kernel
theorem dX7_singleAt_9 : decode cX7_singleAt 9 = .ok (.areturn, 1) := by decide +kernel
theorem dX7_eachLiesIn_0 : decode cX7_eachLiesIn 0 = .ok (.aload_n 0, 1) := by decide +kernel
theorem dX7_eachLiesIn_1 : decode cX7_eachLiesIn 1 = .ok (.getfield 40, 3) := by decide +kernel
theorem dX7_eachLiesIn_4 : decode cX7_eachLiesIn 4 = .ok (.ldc2_w 44, 3) := by decide +kernel
theorem dX7_eachLiesIn_7 : decode cX7_eachLiesIn 7 = .ok (.lcmp, 1) := by decide +kernel
theorem dX7_eachLiesIn_8 : decode cX7_eachLiesIn 8 = .ok (.ifCond .eq 14, 3) := by decide +kernel
theorem dX7_eachLiesIn_11 : decode cX7_eachLiesIn 11 = .ok (.aload_n 0, 1) := by decide +kernel
theorem dX7_eachLiesIn_12 : decode cX7_eachLiesIn 12 = .ok (.getfield 40, 3) := by decide +kernel
theorem dX7_eachLiesIn_15 : decode cX7_eachLiesIn 15 = .ok (.ldc2_w 46, 3) := by decide +kernel
theorem dX7_eachLiesIn_18 : decode cX7_eachLiesIn 18 = .ok (.lcmp, 1) := by decide +kernel
theorem dX7_eachLiesIn_19 : decode cX7_eachLiesIn 19 = .ok (.ifCond .le 5, 3) := by decide +kernel
theorem dX7_eachLiesIn_22 : decode cX7_eachLiesIn 22 = .ok (.iconst 0, 1) := by decide +kernel
theorem dX7_eachLiesIn_23 : decode cX7_eachLiesIn 23 = .ok (.ireturn, 1) := by decide +kernel
theorem dX7_eachLiesIn_24 : decode cX7_eachLiesIn 24 = .ok (.iconst 0, 1) := by decide +kernel
theorem dX7_eachLiesIn_25 : decode cX7_eachLiesIn 25 = .ok (.istore_n 2, 1) := by decide +kernel
theorem dX7_eachLiesIn_26 : decode cX7_eachLiesIn 26 = .ok (.iload_n 2, 1) := by decide +kernel
theorem dX7_eachLiesIn_27 : decode cX7_eachLiesIn 27 = .ok (.i2l, 1) := by decide +kernel
theorem dX7_eachLiesIn_28 : decode cX7_eachLiesIn 28 = .ok (.aload_n 0, 1) := by decide +kernel
theorem dX7_eachLiesIn_29 : decode cX7_eachLiesIn 29 = .ok (.getfield 40, 3) := by decide +kernel
theorem dX7_eachLiesIn_32 : decode cX7_eachLiesIn 32 = .ok (.lcmp, 1) := by decide +kernel
theorem dX7_eachLiesIn_33 : decode cX7_eachLiesIn 33 = .ok (.ifCond .ge 28, 3) := by decide +kernel
theorem dX7_eachLiesIn_36 : decode cX7_eachLiesIn 36 = .ok (.aload_n 1, 1) := by decide +kernel
theorem dX7_eachLiesIn_37 : decode cX7_eachLiesIn 37 = .ok (.aload_n 0, 1) := by decide +kernel
theorem dX7_eachLiesIn_38 : decode cX7_eachLiesIn 38 = .ok (.iload_n 2, 1) := by decide +kernel
theorem dX7_eachLiesIn_39 : decode cX7_eachLiesIn 39 = .ok (.i2l, 1) := by decide +kernel
theorem dX7_eachLiesIn_40 : decode cX7_eachLiesIn 40 = .ok (.invokevirtual 33, 3) := by decide +kernel
theorem dX7_eachLiesIn_43 : decode cX7_eachLiesIn 43 = .ok (.invokevirtual 15, 3) := by decide +kernel
theorem dX7_eachLiesIn_46 : decode cX7_eachLiesIn 46 = .ok (.ldc2_w 21, 3) := by decide +kernel
theorem dX7_eachLiesIn_49 : decode cX7_eachLiesIn 49 = .ok (.lcmp, 1) := by decide +kernel
theorem dX7_eachLiesIn_50 : decode cX7_eachLiesIn 50 = .ok (.ifCond .ne 5, 3) := by decide +kernel
theorem dX7_eachLiesIn_53 : decode cX7_eachLiesIn 53 = .ok (.iconst 0, 1) := by decide +kernel
theorem dX7_eachLiesIn_54 : decode cX7_eachLiesIn 54 = .ok (.ireturn, 1) := by decide +kernel
theorem dX7_eachLiesIn_55 : decode cX7_eachLiesIn 55 = .ok (.iinc 2 1, 3) := by decide +kernel
theorem dX7_eachLiesIn_58 : decode cX7_eachLiesIn 58 = .ok (.goto (-32), 3) := by decide +kernel
theorem dX7_eachLiesIn_61 : decode cX7_eachLiesIn 61 = .ok (.iconst 1, 1) := by decide +kernel
theorem dX7_eachLiesIn_62 : decode cX7_eachLiesIn 62 = .ok (.ireturn, 1) := by decide +kernel
theorem dX8_init_0 : decode cX8_init 0 = .ok (.aload_n 0, 1) := by decide +kernel
theorem dX8_init_1 : decode cX8_init 1 = .ok (.invokespecial 1, 3) := by decide +kernel
theorem dX8_init_4 : decode cX8_init 4 = .ok (.aload_n 0, 1) := by decide +kernel
theorem dX8_init_5 : decode cX8_init 5 = .ok (.new 7, 3) := by decide +kernel
theorem dX8_init_8 : decode cX8_init 8 = .ok (.dup, 1) := by decide +kernel
theorem dX8_init_9 : decode cX8_init 9 = .ok (.invokespecial 9, 3) := by decide +kernel
theorem dX8_init_12 : decode cX8_init 12 = .ok (.putfield 10, 3) := by decide +kernel
theorem dX8_init_15 : decode cX8_init 15 = .ok (.aload_n 0, 1) := by decide +kernel
theorem dX8_init_16 : decode cX8_init 16 = .ok (.new 7, 3) := by decide +kernel
theorem dX8_init_19 : decode cX8_init 19 = .ok (.dup, 1) := by decide +kernel
theorem dX8_init_20 : decode cX8_init 20 = .ok (.invokespecial 9, 3) := by decide +kernel
theorem dX8_init_23 : decode cX8_init 23 = .ok (.putfield 16, 3) := by decide +kernel
theorem dX8_init_26 : decode cX8_init 26 = .ok (.aload_n 0, 1) := by decide +kernel
theorem dX8_init_27 : decode cX8_init 27 = .ok (.new 19, 3) := by decide +kernel
theorem dX8_init_30 : decode cX8_init 30 = .ok (.dup, 1) := by decide +kernel
theorem dX8_init_31 : decode cX8_init 31 = .ok (.invokespecial 21, 3) := by decide +kernel
theorem dX8_init_34 : decode cX8_init 34 = .ok (.putfield 22, 3) := by decide +kernel
theorem dX8_init_37 : decode cX8_init 37 = .ok (.aload_n 0, 1) := by decide +kernel
theorem dX8_init_38 : decode cX8_init 38 = .ok (.bipush 40, 2) := by decide +kernel
theorem dX8_init_40 : decode cX8_init 40 = .ok (.anewarray 26, 3) := by decide +kernel
theorem dX8_init_43 : decode cX8_init 43 = .ok (.putfield 28, 3) := by decide +kernel
theorem dX8_init_46 : decode cX8_init 46 = .ok (.aload_n 0, 1) := by decide +kernel
theorem dX8_init_47 : decode cX8_init 47 = .ok (.bipush 6, 2) := by decide +kernel
theorem dX8_init_49 : decode cX8_init 49 = .ok (.anewarray 26, 3) := by decide +kernel
theorem dX8_init_52 : decode cX8_init 52 = .ok (.putfield 32, 3) := by decide +kernel
theorem dX8_init_55 : decode cX8_init 55 = .ok (.aload_n 0, 1) := by decide +kernel
theorem dX8_init_56 : decode cX8_init 56 = .ok (.bipush 6, 2) := by decide +kernel
theorem dX8_init_58 : decode cX8_init 58 = .ok (.sipush 400, 3) := by decide +kernel
theorem dX8_init_61 : decode cX8_init 61 = .ok (.multianewarray 35 2, 4) := by decide +kernel
theorem dX8_init_65 : decode cX8_init 65 = .ok (.putfield 37, 3) := by decide +kernel
theorem dX8_init_68 : decode cX8_init 68 = .ok (.aload_n 0, 1) := by decide +kernel
theorem dX8_init_69 : decode cX8_init 69 = .ok (.iconst 0, 1) := by decide +kernel
theorem dX8_init_70 : decode cX8_init 70 = .ok (.putfield 40, 3) := by decide +kernel
theorem dX8_init_73 : decode cX8_init 73 = .ok (.aload_n 0, 1) := by decide +kernel
theorem dX8_init_74 : decode cX8_init 74 = .ok (.iconst 0, 1) := by decide +kernel
theorem dX8_init_75 : decode cX8_init 75 = .ok (.putfield 44, 3) := by decide +kernel
theorem dX8_init_78 : decode cX8_init 78 = .ok (.return_, 1) := by decide +kernel
theorem dX8_wholes_0 : decode cX8_wholes 0 = .ok (.aload_n 0, 1) := by decide +kernel
theorem dX8_wholes_1 : decode cX8_wholes 1 = .ok (.iconst 0, 1) := by decide +kernel
theorem dX8_wholes_2 : decode cX8_wholes 2 = .ok (.lload_n 1, 1) := by decide +kernel
theorem dX8_wholes_3 : decode cX8_wholes 3 = .ok (.lload_n 3, 1) := by decide +kernel
theorem dX8_wholes_4 : decode cX8_wholes 4 = .ok (.iconst 1, 1) := by decide +kernel
theorem dX8_wholes_5 : decode cX8_wholes 5 = .ok (.invokevirtual 47, 3) := by decide +kernel
theorem dX8_wholes_8 : decode cX8_wholes 8 = .ok (.ireturn, 1) := by decide +kernel
theorem dX8_signs_0 : decode cX8_signs 0 = .ok (.iload_n 1, 1) := by decide +kernel
theorem dX8_signs_1 : decode cX8_signs 1 = .ok (.ldc 51, 2) := by decide +kernel
theorem dX8_signs_3 : decode cX8_signs 3 = .ok (.invokestatic 52, 3) := by decide +kernel
theorem dX8_signs_6 : decode cX8_signs 6 = .ok (.ifCond .eq 12, 3) := by decide +kernel
theorem dX8_signs_9 : decode cX8_signs 9 = .ok (.iload_n 2, 1) := by decide +kernel
theorem dX8_signs_10 : decode cX8_signs 10 = .ok (.ldc 51, 2) := by decide +kernel
theorem dX8_signs_12 : decode cX8_signs 12 = .ok (.invokestatic 52, 3) := by decide +kernel
theorem dX8_signs_15 : decode cX8_signs 15 = .ok (.ifCond .ne 6, 3) := by decide +kernel
theorem dX8_signs_18 : decode cX8_signs 18 = .ok (.bipush (-102), 2) := by decide +kernel
theorem dX8_signs_20 : decode cX8_signs 20 = .ok (.ireturn, 1) := by decide +kernel
theorem dX8_signs_21 : decode cX8_signs 21 = .ok (.aload_n 0, 1) := by decide +kernel
theorem dX8_signs_22 : decode cX8_signs 22 = .ok (.iconst 1, 1) := by decide +kernel
theorem dX8_signs_23 : decode cX8_signs 23 = .ok (.iload_n 1, 1) := by decide +kernel
theorem dX8_signs_24 : decode cX8_signs 24 = .ok (.i2l, 1) := by decide +kernel
theorem dX8_signs_25 : decode cX8_signs 25 = .ok (.iload_n 2, 1) := by decide +kernel
theorem dX8_signs_26 : decode cX8_signs 26 = .ok (.i2l, 1) := by decide +kernel
theorem dX8_signs_27 : decode cX8_signs 27 = .ok (.iconst 1, 1) := by decide +kernel
theorem dX8_signs_28 : decode cX8_signs 28 = .ok (.invokevirtual 47, 3) := by decide +kernel
theorem dX8_signs_31 : decode cX8_signs 31 = .ok (.ireturn, 1) := by decide +kernel
theorem dX8_names_0 : decode cX8_names 0 = .ok (.iload_n 1, 1) := by decide +kernel
theorem dX8_names_1 : decode cX8_names 1 = .ok (.iconst 1, 1) := by decide +kernel
theorem dX8_names_2 : decode cX8_names 2 = .ok (.if_icmp .lt 29, 3) := by decide +kernel
theorem dX8_names_5 : decode cX8_names 5 = .ok (.iload_n 1, 1) := by decide +kernel
theorem dX8_names_6 : decode cX8_names 6 = .ok (.bipush 20, 2) := by decide +kernel
theorem dX8_names_8 : decode cX8_names 8 = .ok (.if_icmp .gt 23, 3) := by decide +kernel
theorem dX8_names_11 : decode cX8_names 11 = .ok (.iload_n 2, 1) := by decide +kernel
theorem dX8_names_12 : decode cX8_names 12 = .ok (.iload_n 1, 1) := by decide +kernel
theorem dX8_names_13 : decode cX8_names 13 = .ok (.iconst 1, 1) := by decide +kernel
theorem dX8_names_14 : decode cX8_names 14 = .ok (.isub, 1) := by decide +kernel
theorem dX8_names_15 : decode cX8_names 15 = .ok (.invokestatic 52, 3) := by decide +kernel
theorem dX8_names_18 : decode cX8_names 18 = .ok (.ifCond .eq 13, 3) := by decide +kernel
theorem dX8_names_21 : decode cX8_names 21 = .ok (.iload_n 3, 1) := by decide +kernel
theorem dX8_names_22 : decode cX8_names 22 = .ok (.iload_n 1, 1) := by decide +kernel
theorem dX8_names_23 : decode cX8_names 23 = .ok (.iconst 1, 1) := by decide +kernel
theorem dX8_names_24 : decode cX8_names 24 = .ok (.isub, 1) := by decide +kernel
theorem dX8_names_25 : decode cX8_names 25 = .ok (.invokestatic 52, 3) := by decide +kernel
theorem dX8_names_28 : decode cX8_names 28 = .ok (.ifCond .ne 6, 3) := by decide +kernel
theorem dX8_names_31 : decode cX8_names 31 = .ok (.bipush (-102), 2) := by decide +kernel
theorem dX8_names_33 : decode cX8_names 33 = .ok (.ireturn, 1) := by decide +kernel
theorem dX8_names_34 : decode cX8_names 34 = .ok (.aload_n 0, 1) := by decide +kernel
theorem dX8_names_35 : decode cX8_names 35 = .ok (.invokevirtual 56, 3) := by decide +kernel
theorem dX8_names_38 : decode cX8_names 38 = .ok (.ifCond .eq 6, 3) := by decide +kernel
theorem dX8_names_41 : decode cX8_names 41 = .ok (.bipush (-104), 2) := by decide +kernel
theorem dX8_names_43 : decode cX8_names 43 = .ok (.ireturn, 1) := by decide +kernel
theorem dX8_names_44 : decode cX8_names 44 = .ok (.iload_n 3, 1) := by decide +kernel
theorem dX8_names_45 : decode cX8_names 45 = .ok (.iload_n 2, 1) := by decide +kernel
theorem dX8_names_46 : decode cX8_names 46 = .ok (.if_icmp .lt 9, 3) := by decide +kernel
theorem dX8_names_49 : decode cX8_names 49 = .ok (.iload_n 3, 1) := by decide +kernel
theorem dX8_names_50 : decode cX8_names 50 = .ok (.iload_n 2, 1) := by decide +kernel
theorem dX8_names_51 : decode cX8_names 51 = .ok (.isub, 1) := by decide +kernel
theorem dX8_names_52 : decode cX8_names 52 = .ok (.goto 8, 3) := by decide +kernel
theorem dX8_names_55 : decode cX8_names 55 = .ok (.iload_n 3, 1) := by decide +kernel
theorem dX8_names_56 : decode cX8_names 56 = .ok (.iload_n 2, 1) := by decide +kernel
theorem dX8_names_57 : decode cX8_names 57 = .ok (.isub, 1) := by decide +kernel
theorem dX8_names_58 : decode cX8_names 58 = .ok (.iload_n 1, 1) := by decide +kernel
theorem dX8_names_59 : decode cX8_names 59 = .ok (.iadd, 1) := by decide +kernel
theorem dX8_names_60 : decode cX8_names 60 = .ok (.istore 4, 2) := by decide +kernel
theorem dX8_names_62 : decode cX8_names 62 = .ok (.aload_n 0, 1) := by decide +kernel
theorem dX8_names_63 : decode cX8_names 63 = .ok (.new 60, 3) := by decide +kernel
theorem dX8_names_66 : decode cX8_names 66 = .ok (.dup, 1) := by decide +kernel
theorem dX8_names_67 : decode cX8_names 67 = .ok (.aload_n 0, 1) := by decide +kernel
theorem dX8_names_68 : decode cX8_names 68 = .ok (.getfield 40, 3) := by decide +kernel
theorem dX8_names_71 : decode cX8_names 71 = .ok (.iload_n 1, 1) := by decide +kernel
theorem dX8_names_72 : decode cX8_names 72 = .ok (.iload_n 2, 1) := by decide +kernel
theorem dX8_names_73 : decode cX8_names 73 = .ok (.iload 4, 2) := by decide +kernel
theorem dX8_names_75 : decode cX8_names 75 = .ok (.iconst 1, 1) := by decide +kernel
theorem dX8_names_76 : decode cX8_names 76 = .ok (.iadd, 1) := by decide +kernel
theorem dX8_names_77 : decode cX8_names 77 = .ok (.invokespecial 62, 3) := by decide +kernel
theorem dX8_names_80 : decode cX8_names 80 = .ok (.invokevirtual 65, 3) := by decide +kernel
theorem dX8_names_83 : decode cX8_names 83 = .ok (.ireturn, 1) := by decide +kernel
theorem dX8_steps_0 : decode cX8_steps 0 = .ok (.iload 5, 2) := by decide +kernel
theorem dX8_steps_2 : decode cX8_steps 2 = .ok (.ifCond .eq 17, 3) := by decide +kernel
theorem dX8_steps_5 : decode cX8_steps 5 = .ok (.iload 5, 2) := by decide +kernel
theorem dX8_steps_7 : decode cX8_steps 7 = .ok (.ldc 69, 2) := by decide +kernel
theorem dX8_steps_9 : decode cX8_steps 9 = .ok (.if_icmp .lt 10, 3) := by decide +kernel
theorem dX8_steps_12 : decode cX8_steps 12 = .ok (.iload 5, 2) := by decide +kernel
theorem dX8_steps_14 : decode cX8_steps 14 = .ok (.ldc 70, 2) := by decide +kernel
theorem dX8_steps_16 : decode cX8_steps 16 = .ok (.if_icmp .le 6, 3) := by decide +kernel
theorem dX8_steps_19 : decode cX8_steps 19 = .ok (.bipush (-102), 2) := by decide +kernel
theorem dX8_steps_21 : decode cX8_steps 21 = .ok (.ireturn, 1) := by decide +kernel
theorem dX8_steps_22 : decode cX8_steps 22 = .ok (.aload_n 0, 1) := by decide +kernel
theorem dX8_steps_23 : decode cX8_steps 23 = .ok (.iconst 3, 1) := by decide +kernel
theorem dX8_steps_24 : decode cX8_steps 24 = .ok (.lload_n 1, 1) := by decide +kernel
theorem dX8_steps_25 : decode cX8_steps 25 = .ok (.lload_n 3, 1) := by decide +kernel
theorem dX8_steps_26 : decode cX8_steps 26 = .ok (.iload 5, 2) := by decide +kernel
theorem dX8_steps_28 : decode cX8_steps 28 = .ok (.invokevirtual 47, 3) := by decide +kernel
theorem dX8_steps_31 : decode cX8_steps 31 = .ok (.ireturn, 1) := by decide +kernel
theorem dX8_back_0 : decode cX8_back 0 = .ok (.aload_n 0, 1) := by decide +kernel
theorem dX8_back_1 : decode cX8_back 1 = .ok (.iload_n 1, 1) := by decide +kernel
theorem dX8_back_2 : decode cX8_back 2 = .ok (.invokevirtual 71, 3) := by decide +kernel
theorem dX8_back_5 : decode cX8_back 5 = .ok (.astore_n 2, 1) := by decide +kernel
theorem dX8_back_6 : decode cX8_back 6 = .ok (.aload_n 2, 1) := by decide +kernel
theorem dX8_back_7 : decode cX8_back 7 = .ok (.ifnonnull 6, 3) := by decide +kernel
theorem dX8_back_10 : decode cX8_back 10 = .ok (.bipush (-101), 2) := by decide +kernel
theorem dX8_back_12 : decode cX8_back 12 = .ok (.ireturn, 1) := by decide +kernel
theorem dX8_back_13 : decode cX8_back 13 = .ok (.aload_n 2, 1) := by decide +kernel
theorem dX8_back_14 : decode cX8_back 14 = .ok (.getfield 75, 3) := by decide +kernel
theorem dX8_back_17 : decode cX8_back 17 = .ok (.ldc2_w 79, 3) := by decide +kernel
theorem dX8_back_20 : decode cX8_back 20 = .ok (.lcmp, 1) := by decide +kernel
theorem dX8_back_21 : decode cX8_back 21 = .ok (.ifCond .ne 6, 3) := by decide +kernel
theorem dX8_back_24 : decode cX8_back 24 = .ok (.bipush (-103), 2) := by decide +kernel
theorem dX8_back_26 : decode cX8_back 26 = .ok (.ireturn, 1) := by decide +kernel
theorem dX8_back_27 : decode cX8_back 27 = .ok (.aload_n 0, 1) := by decide +kernel
theorem dX8_back_28 : decode cX8_back 28 = .ok (.invokevirtual 56, 3) := by decide +kernel
theorem dX8_back_31 : decode cX8_back 31 = .ok (.ifCond .eq 6, 3) := by decide +kernel
theorem dX8_back_34 : decode cX8_back 34 = .ok (.bipush (-104), 2) := by decide +kernel
theorem dX8_back_36 : decode cX8_back 36 = .ok (.ireturn, 1) := by decide +kernel
theorem dX8_back_37 : decode cX8_back 37 = .ok (.aload_n 0, 1) := by decide +kernel
theorem dX8_back_38 : decode cX8_back 38 = .ok (.new 81, 3) := by decide +kernel
theorem dX8_back_41 : decode cX8_back 41 = .ok (.dup, 1) := by decide +kernel
theorem dX8_back_42 : decode cX8_back 42 = .ok (.aload_n 0, 1) := by decide +kernel
theorem dX8_back_43 : decode cX8_back 43 = .ok (.getfield 40, 3) := by decide +kernel
theorem dX8_back_46 : decode cX8_back 46 = .ok (.aload_n 2, 1) := by decide +kernel
theorem dX8_back_47 : decode cX8_back 47 = .ok (.invokespecial 83, 3) := by decide +kernel
theorem dX8_back_50 : decode cX8_back 50 = .ok (.invokevirtual 65, 3) := by decide +kernel
theorem dX8_back_53 : decode cX8_back 53 = .ok (.ireturn, 1) := by decide +kernel
theorem dX8_pair_0 : decode cX8_pair 0 = .ok (.aload_n 0, 1) := by decide +kernel
theorem dX8_pair_1 : decode cX8_pair 1 = .ok (.iload_n 1, 1) := by decide +kernel
theorem dX8_pair_2 : decode cX8_pair 2 = .ok (.invokevirtual 71, 3) := by decide +kernel
theorem dX8_pair_5 : decode cX8_pair 5 = .ok (.astore_n 3, 1) := by decide +kernel
theorem dX8_pair_6 : decode cX8_pair 6 = .ok (.aload_n 0, 1) := by decide +kernel
theorem dX8_pair_7 : decode cX8_pair 7 = .ok (.iload_n 2, 1) := by decide +kernel
theorem dX8_pair_8 : decode cX8_pair 8 = .ok (.invokevirtual 71, 3) := by decide +kernel
theorem dX8_pair_11 : decode cX8_pair 11 = .ok (.astore 4, 2) := by decide +kernel
theorem dX8_pair_13 : decode cX8_pair 13 = .ok (.aload_n 3, 1) := by decide +kernel
theorem dX8_pair_14 : decode cX8_pair 14 = .ok (.ifnull 8, 3) := by decide +kernel
theorem dX8_pair_17 : decode cX8_pair 17 = .ok (.aload 4, 2) := by decide +kernel
theorem dX8_pair_19 : decode cX8_pair 19 = .ok (.ifnonnull 6, 3) := by decide +kernel
theorem dX8_pair_22 : decode cX8_pair 22 = .ok (.bipush (-101), 2) := by decide +kernel
theorem dX8_pair_24 : decode cX8_pair 24 = .ok (.ireturn, 1) := by decide +kernel
theorem dX8_pair_25 : decode cX8_pair 25 = .ok (.aload_n 0, 1) := by decide +kernel
theorem dX8_pair_26 : decode cX8_pair 26 = .ok (.iconst 5, 1) := by decide +kernel
theorem dX8_pair_27 : decode cX8_pair 27 = .ok (.iconst 2, 1) := by decide +kernel
theorem dX8_pair_28 : decode cX8_pair 28 = .ok (.anewarray 26, 3) := by decide +kernel
theorem dX8_pair_31 : decode cX8_pair 31 = .ok (.dup, 1) := by decide +kernel
theorem dX8_pair_32 : decode cX8_pair 32 = .ok (.iconst 0, 1) := by decide +kernel
theorem dX8_pair_33 : decode cX8_pair 33 = .ok (.aload_n 3, 1) := by decide +kernel
theorem dX8_pair_34 : decode cX8_pair 34 = .ok (.aastore, 1) := by decide +kernel
theorem dX8_pair_35 : decode cX8_pair 35 = .ok (.dup, 1) := by decide +kernel
theorem dX8_pair_36 : decode cX8_pair 36 = .ok (.iconst 1, 1) := by decide +kernel
theorem dX8_pair_37 : decode cX8_pair 37 = .ok (.aload 4, 2) := by decide +kernel
theorem dX8_pair_39 : decode cX8_pair 39 = .ok (.aastore, 1) := by decide +kernel
theorem dX8_pair_40 : decode cX8_pair 40 = .ok (.invokevirtual 86, 3) := by decide +kernel
theorem dX8_pair_43 : decode cX8_pair 43 = .ok (.ireturn, 1) := by decide +kernel
theorem dX8_triple_0 : decode cX8_triple 0 = .ok (.aload_n 0, 1) := by decide +kernel
theorem dX8_triple_1 : decode cX8_triple 1 = .ok (.iload_n 1, 1) := by decide +kernel
theorem dX8_triple_2 : decode cX8_triple 2 = .ok (.invokevirtual 71, 3) := by decide +kernel
theorem dX8_triple_5 : decode cX8_triple 5 = .ok (.astore 4, 2) := by decide +kernel
theorem dX8_triple_7 : decode cX8_triple 7 = .ok (.aload_n 0, 1) := by decide +kernel
theorem dX8_triple_8 : decode cX8_triple 8 = .ok (.iload_n 2, 1) := by decide +kernel
theorem dX8_triple_9 : decode cX8_triple 9 = .ok (.invokevirtual 71, 3) := by decide +kernel
theorem dX8_triple_12 : decode cX8_triple 12 = .ok (.astore 5, 2) := by decide +kernel
theorem dX8_triple_14 : decode cX8_triple 14 = .ok (.aload_n 0, 1) := by decide +kernel
theorem dX8_triple_15 : decode cX8_triple 15 = .ok (.iload_n 3, 1) := by decide +kernel
theorem dX8_triple_16 : decode cX8_triple 16 = .ok (.invokevirtual 71, 3) := by decide +kernel
theorem dX8_triple_19 : decode cX8_triple 19 = .ok (.astore 6, 2) := by decide +kernel
theorem dX8_triple_21 : decode cX8_triple 21 = .ok (.aload 4, 2) := by decide +kernel
theorem dX8_triple_23 : decode cX8_triple 23 = .ok (.ifnull 13, 3) := by decide +kernel
theorem dX8_triple_26 : decode cX8_triple 26 = .ok (.aload 5, 2) := by decide +kernel
theorem dX8_triple_28 : decode cX8_triple 28 = .ok (.ifnull 8, 3) := by decide +kernel
theorem dX8_triple_31 : decode cX8_triple 31 = .ok (.aload 6, 2) := by decide +kernel
theorem dX8_triple_33 : decode cX8_triple 33 = .ok (.ifnonnull 6, 3) := by decide +kernel
theorem dX8_triple_36 : decode cX8_triple 36 = .ok (.bipush (-101), 2) := by decide +kernel
theorem dX8_triple_38 : decode cX8_triple 38 = .ok (.ireturn, 1) := by decide +kernel
theorem dX8_triple_39 : decode cX8_triple 39 = .ok (.aload_n 0, 1) := by decide +kernel
theorem dX8_triple_40 : decode cX8_triple 40 = .ok (.bipush 6, 2) := by decide +kernel
theorem dX8_triple_42 : decode cX8_triple 42 = .ok (.iconst 3, 1) := by decide +kernel
theorem dX8_triple_43 : decode cX8_triple 43 = .ok (.anewarray 26, 3) := by decide +kernel
theorem dX8_triple_46 : decode cX8_triple 46 = .ok (.dup, 1) := by decide +kernel
theorem dX8_triple_47 : decode cX8_triple 47 = .ok (.iconst 0, 1) := by decide +kernel
theorem dX8_triple_48 : decode cX8_triple 48 = .ok (.aload 4, 2) := by decide +kernel
theorem dX8_triple_50 : decode cX8_triple 50 = .ok (.aastore, 1) := by decide +kernel
theorem dX8_triple_51 : decode cX8_triple 51 = .ok (.dup, 1) := by decide +kernel
theorem dX8_triple_52 : decode cX8_triple 52 = .ok (.iconst 1, 1) := by decide +kernel
theorem dX8_triple_53 : decode cX8_triple 53 = .ok (.aload 5, 2) := by decide +kernel
theorem dX8_triple_55 : decode cX8_triple 55 = .ok (.aastore, 1) := by decide +kernel
theorem dX8_triple_56 : decode cX8_triple 56 = .ok (.dup, 1) := by decide +kernel
theorem dX8_triple_57 : decode cX8_triple 57 = .ok (.iconst 2, 1) := by decide +kernel
theorem dX8_triple_58 : decode cX8_triple 58 = .ok (.aload 6, 2) := by decide +kernel
theorem dX8_triple_60 : decode cX8_triple 60 = .ok (.aastore, 1) := by decide +kernel
theorem dX8_triple_61 : decode cX8_triple 61 = .ok (.invokevirtual 86, 3) := by decide +kernel
theorem dX8_triple_64 : decode cX8_triple 64 = .ok (.ireturn, 1) := by decide +kernel
theorem dX8_told_0 : decode cX8_told 0 = .ok (.aload_n 0, 1) := by decide +kernel
theorem dX8_told_1 : decode cX8_told 1 = .ok (.iload_n 1, 1) := by decide +kernel
theorem dX8_told_2 : decode cX8_told 2 = .ok (.invokevirtual 71, 3) := by decide +kernel
theorem dX8_told_5 : decode cX8_told 5 = .ok (.astore_n 3, 1) := by decide +kernel
theorem dX8_told_6 : decode cX8_told 6 = .ok (.aload_n 3, 1) := by decide +kernel
theorem dX8_told_7 : decode cX8_told 7 = .ok (.ifnonnull 6, 3) := by decide +kernel
theorem dX8_told_10 : decode cX8_told 10 = .ok (.bipush (-101), 2) := by decide +kernel
theorem dX8_told_12 : decode cX8_told 12 = .ok (.ireturn, 1) := by decide +kernel
theorem dX8_told_13 : decode cX8_told 13 = .ok (.iload_n 2, 1) := by decide +kernel
theorem dX8_told_14 : decode cX8_told 14 = .ok (.tableswitch 50 0 3 #[30, 35, 40, 45], 30) := by decide +kernel
theorem dX8_told_44 : decode cX8_told 44 = .ok (.aload_n 3, 1) := by decide +kernel
theorem dX8_told_45 : decode cX8_told 45 = .ok (.getfield 90, 3) := by decide +kernel
theorem dX8_told_48 : decode cX8_told 48 = .ok (.ireturn, 1) := by decide +kernel
theorem dX8_told_49 : decode cX8_told 49 = .ok (.aload_n 3, 1) := by decide +kernel
theorem dX8_told_50 : decode cX8_told 50 = .ok (.getfield 93, 3) := by decide +kernel
theorem dX8_told_53 : decode cX8_told 53 = .ok (.ireturn, 1) := by decide +kernel
theorem dX8_told_54 : decode cX8_told 54 = .ok (.aload_n 3, 1) := by decide +kernel
theorem dX8_told_55 : decode cX8_told 55 = .ok (.invokevirtual 96, 3) := by decide +kernel
theorem dX8_told_58 : decode cX8_told 58 = .ok (.ireturn, 1) := by decide +kernel
theorem dX8_told_59 : decode cX8_told 59 = .ok (.aload_n 3, 1) := by decide +kernel
theorem dX8_told_60 : decode cX8_told 60 = .ok (.getfield 93, 3) := by decide +kernel
theorem dX8_told_63 : decode cX8_told 63 = .ok (.ireturn, 1) := by decide +kernel
theorem dX8_told_64 : decode cX8_told 64 = .ok (.bipush (-102), 2) := by decide +kernel
theorem dX8_told_66 : decode cX8_told 66 = .ok (.ireturn, 1) := by decide +kernel
theorem dX8_size_0 : decode cX8_size 0 = .ok (.aload_n 0, 1) := by decide +kernel
theorem dX8_size_1 : decode cX8_size 1 = .ok (.iload_n 1, 1) := by decide +kernel
theorem dX8_size_2 : decode cX8_size 2 = .ok (.invokevirtual 71, 3) := by decide +kernel
theorem dX8_size_5 : decode cX8_size 5 = .ok (.astore_n 2, 1) := by decide +kernel
theorem dX8_size_6 : decode cX8_size 6 = .ok (.aload_n 2, 1) := by decide +kernel
theorem dX8_size_7 : decode cX8_size 7 = .ok (.ifnonnull 11, 3) := by decide +kernel
theorem dX8_size_10 : decode cX8_size 10 = .ok (.bipush (-101), 2) := by decide +kernel
theorem dX8_size_12 : decode cX8_size 12 = .ok (.invokestatic 100, 3) := by decide +kernel
theorem dX8_size_15 : decode cX8_size 15 = .ok (.goto 7, 3) := by decide +kernel
theorem dX8_size_18 : decode cX8_size 18 = .ok (.aload_n 2, 1) := by decide +kernel
theorem dX8_size_19 : decode cX8_size 19 = .ok (.getfield 75, 3) := by decide +kernel
theorem dX8_size_22 : decode cX8_size 22 = .ok (.lreturn, 1) := by decide +kernel
theorem dX8_hold_0 : decode cX8_hold 0 = .ok (.iload_n 1, 1) := by decide +kernel
theorem dX8_hold_1 : decode cX8_hold 1 = .ok (.bipush 7, 2) := by decide +kernel
theorem dX8_hold_3 : decode cX8_hold 3 = .ok (.invokestatic 52, 3) := by decide +kernel
theorem dX8_hold_6 : decode cX8_hold 6 = .ok (.ifCond .ne 13, 3) := by decide +kernel
theorem dX8_hold_9 : decode cX8_hold 9 = .ok (.new 104, 3) := by decide +kernel
theorem dX8_hold_12 : decode cX8_hold 12 = .ok (.dup, 1) := by decide +kernel
theorem dX8_hold_13 : decode cX8_hold 13 = .ok (.ldc 106, 2) := by decide +kernel
theorem dX8_hold_15 : decode cX8_hold 15 = .ok (.invokespecial 108, 3) := by decide +kernel
theorem dX8_hold_18 : decode cX8_hold 18 = .ok (.athrow, 1) := by decide +kernel
theorem dX8_hold_19 : decode cX8_hold 19 = .ok (.aload_n 0, 1) := by decide +kernel
theorem dX8_hold_20 : decode cX8_hold 20 = .ok (.getfield 10, 3) := by decide +kernel
theorem dX8_hold_23 : decode cX8_hold 23 = .ok (.iload_n 1, 1) := by decide +kernel
theorem dX8_hold_24 : decode cX8_hold 24 = .ok (.invokevirtual 111, 3) := by decide +kernel
theorem dX8_hold_27 : decode cX8_hold 27 = .ok (.lstore 4, 2) := by decide +kernel
theorem dX8_hold_29 : decode cX8_hold 29 = .ok (.aload_n 0, 1) := by decide +kernel
theorem dX8_hold_30 : decode cX8_hold 30 = .ok (.getfield 10, 3) := by decide +kernel
theorem dX8_hold_33 : decode cX8_hold 33 = .ok (.iload_n 1, 1) := by decide +kernel
theorem dX8_hold_34 : decode cX8_hold 34 = .ok (.lload_n 2, 1) := by decide +kernel
theorem dX8_hold_35 : decode cX8_hold 35 = .ok (.invokevirtual 114, 3) := by decide +kernel
theorem dX8_hold_38 : decode cX8_hold 38 = .ok (.lload 4, 2) := by decide +kernel
theorem dX8_hold_40 : decode cX8_hold 40 = .ok (.lreturn, 1) := by decide +kernel
theorem dX8_held_0 : decode cX8_held 0 = .ok (.iload_n 1, 1) := by decide +kernel
theorem dX8_held_1 : decode cX8_held 1 = .ok (.bipush 7, 2) := by decide +kernel
theorem dX8_held_3 : decode cX8_held 3 = .ok (.invokestatic 52, 3) := by decide +kernel
theorem dX8_held_6 : decode cX8_held 6 = .ok (.ifCond .ne 13, 3) := by decide +kernel
theorem dX8_held_9 : decode cX8_held 9 = .ok (.new 104, 3) := by decide +kernel
theorem dX8_held_12 : decode cX8_held 12 = .ok (.dup, 1) := by decide +kernel
theorem dX8_held_13 : decode cX8_held 13 = .ok (.ldc 106, 2) := by decide +kernel
theorem dX8_held_15 : decode cX8_held 15 = .ok (.invokespecial 108, 3) := by decide +kernel
theorem dX8_held_18 : decode cX8_held 18 = .ok (.athrow, 1) := by decide +kernel
theorem dX8_held_19 : decode cX8_held 19 = .ok (.aload_n 0, 1) := by decide +kernel
theorem dX8_held_20 : decode cX8_held 20 = .ok (.getfield 10, 3) := by decide +kernel
theorem dX8_held_23 : decode cX8_held 23 = .ok (.iload_n 1, 1) := by decide +kernel
theorem dX8_held_24 : decode cX8_held 24 = .ok (.invokevirtual 111, 3) := by decide +kernel
theorem dX8_held_27 : decode cX8_held 27 = .ok (.lreturn, 1) := by decide +kernel
theorem dX8_index_0 : decode cX8_index 0 = .ok (.aload_n 0, 1) := by decide +kernel
theorem dX8_index_1 : decode cX8_index 1 = .ok (.iload_n 1, 1) := by decide +kernel
theorem dX8_index_2 : decode cX8_index 2 = .ok (.invokevirtual 71, 3) := by decide +kernel
theorem dX8_index_5 : decode cX8_index 5 = .ok (.astore_n 2, 1) := by decide +kernel
theorem dX8_index_6 : decode cX8_index 6 = .ok (.aload_n 2, 1) := by decide +kernel
theorem dX8_index_7 : decode cX8_index 7 = .ok (.ifnonnull 9, 3) := by decide +kernel
theorem dX8_index_10 : decode cX8_index 10 = .ok (.bipush (-101), 2) := by decide +kernel
theorem dX8_index_12 : decode cX8_index 12 = .ok (.invokestatic 100, 3) := by decide +kernel
theorem dX8_index_15 : decode cX8_index 15 = .ok (.lreturn, 1) := by decide +kernel
theorem dX8_index_16 : decode cX8_index 16 = .ok (.aload_n 0, 1) := by decide +kernel
theorem dX8_index_17 : decode cX8_index 17 = .ok (.aload_n 2, 1) := by decide +kernel
theorem dX8_index_18 : decode cX8_index 18 = .ok (.invokevirtual 118, 3) := by decide +kernel
theorem dX8_index_21 : decode cX8_index 21 = .ok (.lstore_n 3, 1) := by decide +kernel
theorem dX8_index_22 : decode cX8_index 22 = .ok (.lload_n 3, 1) := by decide +kernel
theorem dX8_index_23 : decode cX8_index 23 = .ok (.ldc2_w 122, 3) := by decide +kernel
theorem dX8_index_26 : decode cX8_index 26 = .ok (.lcmp, 1) := by decide +kernel
theorem dX8_index_27 : decode cX8_index 27 = .ok (.ifCond .ne 13, 3) := by decide +kernel
theorem dX8_index_30 : decode cX8_index 30 = .ok (.new 124, 3) := by decide +kernel
theorem dX8_index_33 : decode cX8_index 33 = .ok (.dup, 1) := by decide +kernel
theorem dX8_index_34 : decode cX8_index 34 = .ok (.ldc 126, 2) := by decide +kernel
theorem dX8_index_36 : decode cX8_index 36 = .ok (.invokespecial 128, 3) := by decide +kernel
theorem dX8_index_39 : decode cX8_index 39 = .ok (.athrow, 1) := by decide +kernel
theorem dX8_index_40 : decode cX8_index 40 = .ok (.lload_n 3, 1) := by decide +kernel
theorem dX8_index_41 : decode cX8_index 41 = .ok (.lreturn, 1) := by decide +kernel
theorem dX8_has_0 : decode cX8_has 0 = .ok (.aload_n 0, 1) := by decide +kernel
theorem dX8_has_1 : decode cX8_has 1 = .ok (.iload_n 1, 1) := by decide +kernel
theorem dX8_has_2 : decode cX8_has 2 = .ok (.invokevirtual 71, 3) := by decide +kernel
theorem dX8_has_5 : decode cX8_has 5 = .ok (.astore_n 2, 1) := by decide +kernel
theorem dX8_has_6 : decode cX8_has 6 = .ok (.aload_n 2, 1) := by decide +kernel
theorem dX8_has_7 : decode cX8_has 7 = .ok (.ifnonnull 6, 3) := by decide +kernel
theorem dX8_has_10 : decode cX8_has 10 = .ok (.bipush (-101), 2) := by decide +kernel
theorem dX8_has_12 : decode cX8_has 12 = .ok (.ireturn, 1) := by decide +kernel
theorem dX8_has_13 : decode cX8_has 13 = .ok (.aload_n 0, 1) := by decide +kernel
theorem dX8_has_14 : decode cX8_has 14 = .ok (.aload_n 2, 1) := by decide +kernel
theorem dX8_has_15 : decode cX8_has 15 = .ok (.invokevirtual 118, 3) := by decide +kernel
theorem dX8_has_18 : decode cX8_has 18 = .ok (.ldc2_w 122, 3) := by decide +kernel
theorem dX8_has_21 : decode cX8_has 21 = .ok (.lcmp, 1) := by decide +kernel
theorem dX8_has_22 : decode cX8_has 22 = .ok (.ifCond .ne 7, 3) := by decide +kernel
theorem dX8_has_25 : decode cX8_has 25 = .ok (.iconst 0, 1) := by decide +kernel
theorem dX8_has_26 : decode cX8_has 26 = .ok (.goto 4, 3) := by decide +kernel
theorem dX8_has_29 : decode cX8_has 29 = .ok (.iconst 1, 1) := by decide +kernel
theorem dX8_has_30 : decode cX8_has 30 = .ok (.ireturn, 1) := by decide +kernel
theorem dX8_element_0 : decode cX8_element 0 = .ok (.aload_n 0, 1) := by decide +kernel
theorem dX8_element_1 : decode cX8_element 1 = .ok (.iload_n 1, 1) := by decide +kernel
theorem dX8_element_2 : decode cX8_element 2 = .ok (.invokevirtual 71, 3) := by decide +kernel
theorem dX8_element_5 : decode cX8_element 5 = .ok (.astore 4, 2) := by decide +kernel
theorem dX8_element_7 : decode cX8_element 7 = .ok (.aload 4, 2) := by decide +kernel
theorem dX8_element_9 : decode cX8_element 9 = .ok (.ifnonnull 6, 3) := by decide +kernel
theorem dX8_element_12 : decode cX8_element 12 = .ok (.bipush (-101), 2) := by decide +kernel
theorem dX8_element_14 : decode cX8_element 14 = .ok (.ireturn, 1) := by decide +kernel
theorem dX8_element_15 : decode cX8_element 15 = .ok (.aload 4, 2) := by decide +kernel
theorem dX8_element_17 : decode cX8_element 17 = .ok (.lload_n 2, 1) := by decide +kernel
theorem dX8_element_18 : decode cX8_element 18 = .ok (.invokevirtual 129, 3) := by decide +kernel
theorem dX8_element_21 : decode cX8_element 21 = .ok (.ifCond .ne 13, 3) := by decide +kernel
theorem dX8_element_24 : decode cX8_element 24 = .ok (.new 124, 3) := by decide +kernel
theorem dX8_element_27 : decode cX8_element 27 = .ok (.dup, 1) := by decide +kernel
theorem dX8_element_28 : decode cX8_element 28 = .ok (.ldc 133, 2) := by decide +kernel
theorem dX8_element_30 : decode cX8_element 30 = .ok (.invokespecial 128, 3) := by decide +kernel
theorem dX8_element_33 : decode cX8_element 33 = .ok (.athrow, 1) := by decide +kernel
theorem dX8_element_34 : decode cX8_element 34 = .ok (.aload 4, 2) := by decide +kernel
theorem dX8_element_36 : decode cX8_element 36 = .ok (.aload_n 0, 1) := by decide +kernel
theorem dX8_element_37 : decode cX8_element 37 = .ok (.getfield 10, 3) := by decide +kernel
theorem dX8_element_40 : decode cX8_element 40 = .ok (.iconst 0, 1) := by decide +kernel
theorem dX8_element_41 : decode cX8_element 41 = .ok (.lload_n 2, 1) := by decide +kernel
theorem dX8_element_42 : decode cX8_element 42 = .ok (.invokevirtual 135, 3) := by decide +kernel
theorem dX8_element_45 : decode cX8_element 45 = .ok (.aload 4, 2) := by decide +kernel
theorem dX8_element_47 : decode cX8_element 47 = .ok (.getfield 93, 3) := by decide +kernel
theorem dX8_element_50 : decode cX8_element 50 = .ok (.ireturn, 1) := by decide +kernel
theorem dX8_go_0 : decode cX8_go 0 = .ok (.aload_n 0, 1) := by decide +kernel
theorem dX8_go_1 : decode cX8_go 1 = .ok (.iload_n 1, 1) := by decide +kernel
theorem dX8_go_2 : decode cX8_go 2 = .ok (.invokevirtual 71, 3) := by decide +kernel
theorem dX8_go_5 : decode cX8_go 5 = .ok (.astore 4, 2) := by decide +kernel
theorem dX8_go_7 : decode cX8_go 7 = .ok (.aload 4, 2) := by decide +kernel
theorem dX8_go_9 : decode cX8_go 9 = .ok (.ifnonnull 9, 3) := by decide +kernel
theorem dX8_go_12 : decode cX8_go 12 = .ok (.bipush (-101), 2) := by decide +kernel
theorem dX8_go_14 : decode cX8_go 14 = .ok (.invokestatic 100, 3) := by decide +kernel
theorem dX8_go_17 : decode cX8_go 17 = .ok (.lreturn, 1) := by decide +kernel
theorem dX8_go_18 : decode cX8_go 18 = .ok (.aload_n 0, 1) := by decide +kernel
theorem dX8_go_19 : decode cX8_go 19 = .ok (.aload 4, 2) := by decide +kernel
theorem dX8_go_21 : decode cX8_go 21 = .ok (.invokevirtual 118, 3) := by decide +kernel
theorem dX8_go_24 : decode cX8_go 24 = .ok (.lstore 5, 2) := by decide +kernel
theorem dX8_go_26 : decode cX8_go 26 = .ok (.lload 5, 2) := by decide +kernel
theorem dX8_go_28 : decode cX8_go 28 = .ok (.ldc2_w 79, 3) := by decide +kernel
theorem dX8_go_31 : decode cX8_go 31 = .ok (.lcmp, 1) := by decide +kernel
theorem dX8_go_32 : decode cX8_go 32 = .ok (.ifCond .ne 9, 3) := by decide +kernel
theorem dX8_go_35 : decode cX8_go 35 = .ok (.bipush (-103), 2) := by decide +kernel
theorem dX8_go_37 : decode cX8_go 37 = .ok (.invokestatic 100, 3) := by decide +kernel
theorem dX8_go_40 : decode cX8_go 40 = .ok (.lreturn, 1) := by decide +kernel
theorem dX8_go_41 : decode cX8_go 41 = .ok (.lload 5, 2) := by decide +kernel
theorem dX8_go_43 : decode cX8_go 43 = .ok (.ldc2_w 122, 3) := by decide +kernel
theorem dX8_go_46 : decode cX8_go 46 = .ok (.lcmp, 1) := by decide +kernel
theorem dX8_go_47 : decode cX8_go 47 = .ok (.ifCond .ne 13, 3) := by decide +kernel
theorem dX8_go_50 : decode cX8_go 50 = .ok (.new 124, 3) := by decide +kernel
theorem dX8_go_53 : decode cX8_go 53 = .ok (.dup, 1) := by decide +kernel
theorem dX8_go_54 : decode cX8_go 54 = .ok (.ldc 126, 2) := by decide +kernel
theorem dX8_go_56 : decode cX8_go 56 = .ok (.invokespecial 128, 3) := by decide +kernel
theorem dX8_go_59 : decode cX8_go 59 = .ok (.athrow, 1) := by decide +kernel
theorem dX8_go_60 : decode cX8_go 60 = .ok (.lload_n 2, 1) := by decide +kernel
theorem dX8_go_61 : decode cX8_go 61 = .ok (.ldc2_w 141, 3) := by decide +kernel
theorem dX8_go_64 : decode cX8_go 64 = .ok (.lload 5, 2) := by decide +kernel
theorem dX8_go_66 : decode cX8_go 66 = .ok (.lsub, 1) := by decide +kernel
theorem dX8_go_67 : decode cX8_go 67 = .ok (.lcmp, 1) := by decide +kernel
theorem dX8_go_68 : decode cX8_go 68 = .ok (.ifCond .gt 15, 3) := by decide +kernel
theorem dX8_go_71 : decode cX8_go 71 = .ok (.aload 4, 2) := by decide +kernel
theorem dX8_go_73 : decode cX8_go 73 = .ok (.lload 5, 2) := by decide +kernel
theorem dX8_go_75 : decode cX8_go 75 = .ok (.lload_n 2, 1) := by decide +kernel
theorem dX8_go_76 : decode cX8_go 76 = .ok (.ladd, 1) := by decide +kernel
theorem dX8_go_77 : decode cX8_go 77 = .ok (.invokevirtual 129, 3) := by decide +kernel
theorem dX8_go_80 : decode cX8_go 80 = .ok (.ifCond .ne 13, 3) := by decide +kernel
theorem dX8_go_83 : decode cX8_go 83 = .ok (.new 124, 3) := by decide +kernel
theorem dX8_go_86 : decode cX8_go 86 = .ok (.dup, 1) := by decide +kernel
theorem dX8_go_87 : decode cX8_go 87 = .ok (.ldc 143, 2) := by decide +kernel
theorem dX8_go_89 : decode cX8_go 89 = .ok (.invokespecial 128, 3) := by decide +kernel
theorem dX8_go_92 : decode cX8_go 92 = .ok (.athrow, 1) := by decide +kernel
theorem dX8_go_93 : decode cX8_go 93 = .ok (.aload 4, 2) := by decide +kernel
theorem dX8_go_95 : decode cX8_go 95 = .ok (.aload_n 0, 1) := by decide +kernel
theorem dX8_go_96 : decode cX8_go 96 = .ok (.getfield 10, 3) := by decide +kernel
theorem dX8_go_99 : decode cX8_go 99 = .ok (.iconst 0, 1) := by decide +kernel
theorem dX8_go_100 : decode cX8_go 100 = .ok (.lload 5, 2) := by decide +kernel
theorem dX8_go_102 : decode cX8_go 102 = .ok (.lload_n 2, 1) := by decide +kernel
theorem dX8_go_103 : decode cX8_go 103 = .ok (.ladd, 1) := by decide +kernel
theorem dX8_go_104 : decode cX8_go 104 = .ok (.invokevirtual 135, 3) := by decide +kernel
theorem dX8_go_107 : decode cX8_go 107 = .ok (.lload 5, 2) := by decide +kernel
theorem dX8_go_109 : decode cX8_go 109 = .ok (.lload_n 2, 1) := by decide +kernel
theorem dX8_go_110 : decode cX8_go 110 = .ok (.ladd, 1) := by decide +kernel
theorem dX8_go_111 : decode cX8_go 111 = .ok (.lreturn, 1) := by decide +kernel
theorem dX8_miss_0 : decode cX8_miss 0 = .ok (.iload_n 1, 1) := by decide +kernel
theorem dX8_miss_1 : decode cX8_miss 1 = .ok (.iconst 2, 1) := by decide +kernel
theorem dX8_miss_2 : decode cX8_miss 2 = .ok (.invokestatic 52, 3) := by decide +kernel
theorem dX8_miss_5 : decode cX8_miss 5 = .ok (.ifCond .ne 6, 3) := by decide +kernel
theorem dX8_miss_8 : decode cX8_miss 8 = .ok (.bipush (-102), 2) := by decide +kernel
theorem dX8_miss_10 : decode cX8_miss 10 = .ok (.ireturn, 1) := by decide +kernel
theorem dX8_miss_11 : decode cX8_miss 11 = .ok (.aload_n 0, 1) := by decide +kernel
theorem dX8_miss_12 : decode cX8_miss 12 = .ok (.getfield 22, 3) := by decide +kernel
theorem dX8_miss_15 : decode cX8_miss 15 = .ok (.getfield 145, 3) := by decide +kernel
theorem dX8_miss_18 : decode cX8_miss 18 = .ok (.ifCond .ne 6, 3) := by decide +kernel
theorem dX8_miss_21 : decode cX8_miss 21 = .ok (.bipush (-103), 2) := by decide +kernel
theorem dX8_miss_23 : decode cX8_miss 23 = .ok (.ireturn, 1) := by decide +kernel
theorem dX8_miss_24 : decode cX8_miss 24 = .ok (.iload_n 1, 1) := by decide +kernel
theorem dX8_miss_25 : decode cX8_miss 25 = .ok (.ifCond .ne 11, 3) := by decide +kernel
theorem dX8_miss_28 : decode cX8_miss 28 = .ok (.aload_n 0, 1) := by decide +kernel
theorem dX8_miss_29 : decode cX8_miss 29 = .ok (.getfield 22, 3) := by decide +kernel
theorem dX8_miss_32 : decode cX8_miss 32 = .ok (.getfield 148, 3) := by decide +kernel
theorem dX8_miss_35 : decode cX8_miss 35 = .ok (.ireturn, 1) := by decide +kernel
theorem dX8_miss_36 : decode cX8_miss 36 = .ok (.iload_n 1, 1) := by decide +kernel
theorem dX8_miss_37 : decode cX8_miss 37 = .ok (.iconst 1, 1) := by decide +kernel
theorem dX8_miss_38 : decode cX8_miss 38 = .ok (.if_icmp .ne 13, 3) := by decide +kernel
theorem dX8_miss_41 : decode cX8_miss 41 = .ok (.aload_n 0, 1) := by decide +kernel
theorem dX8_miss_42 : decode cX8_miss 42 = .ok (.getfield 22, 3) := by decide +kernel
theorem dX8_miss_45 : decode cX8_miss 45 = .ok (.getfield 151, 3) := by decide +kernel
theorem dX8_miss_48 : decode cX8_miss 48 = .ok (.goto 10, 3) := by decide +kernel
theorem dX8_miss_51 : decode cX8_miss 51 = .ok (.aload_n 0, 1) := by decide +kernel
theorem dX8_miss_52 : decode cX8_miss 52 = .ok (.getfield 22, 3) := by decide +kernel
theorem dX8_miss_55 : decode cX8_miss 55 = .ok (.getfield 154, 3) := by decide +kernel
theorem dX8_miss_58 : decode cX8_miss 58 = .ok (.ireturn, 1) := by decide +kernel
theorem dX8_within_0 : decode cX8_within 0 = .ok (.aload_n 0, 1) := by decide +kernel
theorem dX8_within_1 : decode cX8_within 1 = .ok (.iload_n 1, 1) := by decide +kernel
theorem dX8_within_2 : decode cX8_within 2 = .ok (.invokevirtual 71, 3) := by decide +kernel
theorem dX8_within_5 : decode cX8_within 5 = .ok (.astore_n 3, 1) := by decide +kernel
theorem dX8_within_6 : decode cX8_within 6 = .ok (.aload_n 0, 1) := by decide +kernel
theorem dX8_within_7 : decode cX8_within 7 = .ok (.iload_n 2, 1) := by decide +kernel
theorem dX8_within_8 : decode cX8_within 8 = .ok (.invokevirtual 71, 3) := by decide +kernel
theorem dX8_within_11 : decode cX8_within 11 = .ok (.astore 4, 2) := by decide +kernel
theorem dX8_within_13 : decode cX8_within 13 = .ok (.aload_n 3, 1) := by decide +kernel
theorem dX8_within_14 : decode cX8_within 14 = .ok (.ifnull 8, 3) := by decide +kernel
theorem dX8_within_17 : decode cX8_within 17 = .ok (.aload 4, 2) := by decide +kernel
theorem dX8_within_19 : decode cX8_within 19 = .ok (.ifnonnull 6, 3) := by decide +kernel
theorem dX8_within_22 : decode cX8_within 22 = .ok (.bipush (-101), 2) := by decide +kernel
theorem dX8_within_24 : decode cX8_within 24 = .ok (.ireturn, 1) := by decide +kernel
theorem dX8_within_25 : decode cX8_within 25 = .ok (.aload_n 3, 1) := by decide +kernel
theorem dX8_within_26 : decode cX8_within 26 = .ok (.aload 4, 2) := by decide +kernel
theorem dX8_within_28 : decode cX8_within 28 = .ok (.invokestatic 157, 3) := by decide +kernel
theorem dX8_within_31 : decode cX8_within 31 = .ok (.ifCond .eq 7, 3) := by decide +kernel
theorem dX8_within_34 : decode cX8_within 34 = .ok (.iconst 1, 1) := by decide +kernel
theorem dX8_within_35 : decode cX8_within 35 = .ok (.goto 4, 3) := by decide +kernel
theorem dX8_within_38 : decode cX8_within 38 = .ok (.iconst 0, 1) := by decide +kernel
theorem dX8_within_39 : decode cX8_within 39 = .ok (.ireturn, 1) := by decide +kernel
theorem dX8_array_0 : decode cX8_array 0 = .ok (.aload_n 0, 1) := by decide +kernel
theorem dX8_array_1 : decode cX8_array 1 = .ok (.iload_n 1, 1) := by decide +kernel
theorem dX8_array_2 : decode cX8_array 2 = .ok (.invokevirtual 71, 3) := by decide +kernel
theorem dX8_array_5 : decode cX8_array 5 = .ok (.astore_n 2, 1) := by decide +kernel
theorem dX8_array_6 : decode cX8_array 6 = .ok (.aload_n 2, 1) := by decide +kernel
theorem dX8_array_7 : decode cX8_array 7 = .ok (.ifnonnull 6, 3) := by decide +kernel
theorem dX8_array_10 : decode cX8_array 10 = .ok (.bipush (-101), 2) := by decide +kernel
theorem dX8_array_12 : decode cX8_array 12 = .ok (.ireturn, 1) := by decide +kernel
theorem dX8_array_13 : decode cX8_array 13 = .ok (.aload_n 0, 1) := by decide +kernel
theorem dX8_array_14 : decode cX8_array 14 = .ok (.getfield 44, 3) := by decide +kernel
theorem dX8_array_17 : decode cX8_array 17 = .ok (.bipush 6, 2) := by decide +kernel
theorem dX8_array_19 : decode cX8_array 19 = .ok (.if_icmp .lt 6, 3) := by decide +kernel
theorem dX8_array_22 : decode cX8_array 22 = .ok (.bipush (-104), 2) := by decide +kernel
theorem dX8_array_24 : decode cX8_array 24 = .ok (.ireturn, 1) := by decide +kernel
theorem dX8_array_25 : decode cX8_array 25 = .ok (.aload_n 2, 1) := by decide +kernel
theorem dX8_array_26 : decode cX8_array 26 = .ok (.getfield 75, 3) := by decide +kernel
theorem dX8_array_29 : decode cX8_array 29 = .ok (.ldc2_w 79, 3) := by decide +kernel
theorem dX8_array_32 : decode cX8_array 32 = .ok (.lcmp, 1) := by decide +kernel
theorem dX8_array_33 : decode cX8_array 33 = .ok (.ifCond .ne 13, 3) := by decide +kernel
theorem dX8_array_36 : decode cX8_array 36 = .ok (.new 161, 3) := by decide +kernel
theorem dX8_array_39 : decode cX8_array 39 = .ok (.dup, 1) := by decide +kernel
theorem dX8_array_40 : decode cX8_array 40 = .ok (.ldc 163, 2) := by decide +kernel
theorem dX8_array_42 : decode cX8_array 42 = .ok (.invokespecial 165, 3) := by decide +kernel
theorem dX8_array_45 : decode cX8_array 45 = .ok (.athrow, 1) := by decide +kernel
theorem dX8_array_46 : decode cX8_array 46 = .ok (.aload_n 2, 1) := by decide +kernel
theorem dX8_array_47 : decode cX8_array 47 = .ok (.getfield 75, 3) := by decide +kernel
theorem dX8_array_50 : decode cX8_array 50 = .ok (.ldc2_w 166, 3) := by decide +kernel
theorem dX8_array_53 : decode cX8_array 53 = .ok (.lcmp, 1) := by decide +kernel
theorem dX8_array_54 : decode cX8_array 54 = .ok (.ifCond .le 13, 3) := by decide +kernel
theorem dX8_array_57 : decode cX8_array 57 = .ok (.new 168, 3) := by decide +kernel
theorem dX8_array_60 : decode cX8_array 60 = .ok (.dup, 1) := by decide +kernel
theorem dX8_array_61 : decode cX8_array 61 = .ok (.ldc 170, 2) := by decide +kernel
theorem dX8_array_63 : decode cX8_array 63 = .ok (.invokespecial 172, 3) := by decide +kernel
theorem dX8_array_66 : decode cX8_array 66 = .ok (.athrow, 1) := by decide +kernel
theorem dX8_array_67 : decode cX8_array 67 = .ok (.aload_n 0, 1) := by decide +kernel
theorem dX8_array_68 : decode cX8_array 68 = .ok (.getfield 32, 3) := by decide +kernel
theorem dX8_array_71 : decode cX8_array 71 = .ok (.aload_n 0, 1) := by decide +kernel
theorem dX8_array_72 : decode cX8_array 72 = .ok (.getfield 44, 3) := by decide +kernel
theorem dX8_array_75 : decode cX8_array 75 = .ok (.aload_n 2, 1) := by decide +kernel
theorem dX8_array_76 : decode cX8_array 76 = .ok (.aastore, 1) := by decide +kernel
theorem dX8_array_77 : decode cX8_array 77 = .ok (.aload_n 0, 1) := by decide +kernel
theorem dX8_array_78 : decode cX8_array 78 = .ok (.getfield 37, 3) := by decide +kernel
theorem dX8_array_81 : decode cX8_array 81 = .ok (.aload_n 0, 1) := by decide +kernel
theorem dX8_array_82 : decode cX8_array 82 = .ok (.getfield 44, 3) := by decide +kernel
theorem dX8_array_85 : decode cX8_array 85 = .ok (.aaload, 1) := by decide +kernel
theorem dX8_array_86 : decode cX8_array 86 = .ok (.iconst 0, 1) := by decide +kernel
theorem dX8_array_87 : decode cX8_array 87 = .ok (.invokestatic 173, 3) := by decide +kernel
theorem dX8_array_90 : decode cX8_array 90 = .ok (.aload_n 0, 1) := by decide +kernel
theorem dX8_array_91 : decode cX8_array 91 = .ok (.dup, 1) := by decide +kernel
theorem dX8_array_92 : decode cX8_array 92 = .ok (.getfield 44, 3) := by decide +kernel
theorem dX8_array_95 : decode cX8_array 95 = .ok (.iconst 1, 1) := by decide +kernel
theorem dX8_array_96 : decode cX8_array 96 = .ok (.iadd, 1) := by decide +kernel
theorem dX8_array_97 : decode cX8_array 97 = .ok (.putfield 44, 3) := by decide +kernel
theorem dX8_array_100 : decode cX8_array 100 = .ok (.aload_n 0, 1) := by decide +kernel
theorem dX8_array_101 : decode cX8_array 101 = .ok (.getfield 44, 3) := by decide +kernel
theorem dX8_array_104 : decode cX8_array 104 = .ok (.iconst 1, 1) := by decide +kernel
theorem dX8_array_105 : decode cX8_array 105 = .ok (.isub, 1) := by decide +kernel
theorem dX8_array_106 : decode cX8_array 106 = .ok (.ireturn, 1) := by decide +kernel
theorem dX8_put_0 : decode cX8_put 0 = .ok (.aload_n 0, 1) := by decide +kernel
theorem dX8_put_1 : decode cX8_put 1 = .ok (.iload_n 1, 1) := by decide +kernel
theorem dX8_put_2 : decode cX8_put 2 = .ok (.invokevirtual 178, 3) := by decide +kernel
theorem dX8_put_5 : decode cX8_put 5 = .ok (.astore_n 3, 1) := by decide +kernel
theorem dX8_put_6 : decode cX8_put 6 = .ok (.aload_n 3, 1) := by decide +kernel
theorem dX8_put_7 : decode cX8_put 7 = .ok (.ifnonnull 6, 3) := by decide +kernel
theorem dX8_put_10 : decode cX8_put 10 = .ok (.bipush (-101), 2) := by decide +kernel
theorem dX8_put_12 : decode cX8_put 12 = .ok (.ireturn, 1) := by decide +kernel
theorem dX8_put_13 : decode cX8_put 13 = .ok (.aload_n 0, 1) := by decide +kernel
theorem dX8_put_14 : decode cX8_put 14 = .ok (.aload_n 3, 1) := by decide +kernel
theorem dX8_put_15 : decode cX8_put 15 = .ok (.invokevirtual 181, 3) := by decide +kernel
theorem dX8_put_18 : decode cX8_put 18 = .ok (.istore 4, 2) := by decide +kernel
theorem dX8_put_20 : decode cX8_put 20 = .ok (.iload 4, 2) := by decide +kernel
theorem dX8_put_22 : decode cX8_put 22 = .ok (.bipush (-2), 2) := by decide +kernel
theorem dX8_put_24 : decode cX8_put 24 = .ok (.if_icmp .ne 13, 3) := by decide +kernel
theorem dX8_put_27 : decode cX8_put 27 = .ok (.new 124, 3) := by decide +kernel
theorem dX8_put_30 : decode cX8_put 30 = .ok (.dup, 1) := by decide +kernel
theorem dX8_put_31 : decode cX8_put 31 = .ok (.ldc 184, 2) := by decide +kernel
theorem dX8_put_33 : decode cX8_put 33 = .ok (.invokespecial 128, 3) := by decide +kernel
theorem dX8_put_36 : decode cX8_put 36 = .ok (.athrow, 1) := by decide +kernel
theorem dX8_put_37 : decode cX8_put 37 = .ok (.aload_n 0, 1) := by decide +kernel
theorem dX8_put_38 : decode cX8_put 38 = .ok (.getfield 37, 3) := by decide +kernel
theorem dX8_put_41 : decode cX8_put 41 = .ok (.iload_n 1, 1) := by decide +kernel
theorem dX8_put_42 : decode cX8_put 42 = .ok (.aaload, 1) := by decide +kernel
theorem dX8_put_43 : decode cX8_put 43 = .ok (.iload 4, 2) := by decide +kernel
theorem dX8_put_45 : decode cX8_put 45 = .ok (.iaload, 1) := by decide +kernel
theorem dX8_put_46 : decode cX8_put 46 = .ok (.istore 5, 2) := by decide +kernel
theorem dX8_put_48 : decode cX8_put 48 = .ok (.aload_n 0, 1) := by decide +kernel
theorem dX8_put_49 : decode cX8_put 49 = .ok (.getfield 37, 3) := by decide +kernel
theorem dX8_put_52 : decode cX8_put 52 = .ok (.iload_n 1, 1) := by decide +kernel
theorem dX8_put_53 : decode cX8_put 53 = .ok (.aaload, 1) := by decide +kernel
theorem dX8_put_54 : decode cX8_put 54 = .ok (.iload 4, 2) := by decide +kernel
theorem dX8_put_56 : decode cX8_put 56 = .ok (.iload_n 2, 1) := by decide +kernel
theorem dX8_put_57 : decode cX8_put 57 = .ok (.iastore, 1) := by decide +kernel
theorem dX8_put_58 : decode cX8_put 58 = .ok (.iload 5, 2) := by decide +kernel
theorem dX8_put_60 : decode cX8_put 60 = .ok (.ireturn, 1) := by decide +kernel
theorem dX8_at_0 : decode cX8_at 0 = .ok (.aload_n 0, 1) := by decide +kernel
theorem dX8_at_1 : decode cX8_at 1 = .ok (.iload_n 1, 1) := by decide +kernel
theorem dX8_at_2 : decode cX8_at 2 = .ok (.invokevirtual 178, 3) := by decide +kernel
theorem dX8_at_5 : decode cX8_at 5 = .ok (.astore_n 2, 1) := by decide +kernel
theorem dX8_at_6 : decode cX8_at 6 = .ok (.aload_n 2, 1) := by decide +kernel
theorem dX8_at_7 : decode cX8_at 7 = .ok (.ifnonnull 6, 3) := by decide +kernel
theorem dX8_at_10 : decode cX8_at 10 = .ok (.bipush (-101), 2) := by decide +kernel
theorem dX8_at_12 : decode cX8_at 12 = .ok (.ireturn, 1) := by decide +kernel
theorem dX8_at_13 : decode cX8_at 13 = .ok (.aload_n 0, 1) := by decide +kernel
theorem dX8_at_14 : decode cX8_at 14 = .ok (.aload_n 2, 1) := by decide +kernel
theorem dX8_at_15 : decode cX8_at 15 = .ok (.invokevirtual 181, 3) := by decide +kernel
theorem dX8_at_18 : decode cX8_at 18 = .ok (.istore_n 3, 1) := by decide +kernel
theorem dX8_at_19 : decode cX8_at 19 = .ok (.iload_n 3, 1) := by decide +kernel
theorem dX8_at_20 : decode cX8_at 20 = .ok (.bipush (-2), 2) := by decide +kernel
theorem dX8_at_22 : decode cX8_at 22 = .ok (.if_icmp .ne 13, 3) := by decide +kernel
theorem dX8_at_25 : decode cX8_at 25 = .ok (.new 124, 3) := by decide +kernel
theorem dX8_at_28 : decode cX8_at 28 = .ok (.dup, 1) := by decide +kernel
theorem dX8_at_29 : decode cX8_at 29 = .ok (.ldc 184, 2) := by decide +kernel
theorem dX8_at_31 : decode cX8_at 31 = .ok (.invokespecial 128, 3) := by decide +kernel
theorem dX8_at_34 : decode cX8_at 34 = .ok (.athrow, 1) := by decide +kernel
theorem dX8_at_35 : decode cX8_at 35 = .ok (.aload_n 0, 1) := by decide +kernel
theorem dX8_at_36 : decode cX8_at 36 = .ok (.getfield 37, 3) := by decide +kernel
theorem dX8_at_39 : decode cX8_at 39 = .ok (.iload_n 1, 1) := by decide +kernel
theorem dX8_at_40 : decode cX8_at 40 = .ok (.aaload, 1) := by decide +kernel
theorem dX8_at_41 : decode cX8_at 41 = .ok (.iload_n 3, 1) := by decide +kernel
theorem dX8_at_42 : decode cX8_at 42 = .ok (.iaload, 1) := by decide +kernel
theorem dX8_at_43 : decode cX8_at 43 = .ok (.ireturn, 1) := by decide +kernel
theorem dX8_sum_0 : decode cX8_sum 0 = .ok (.aload_n 0, 1) := by decide +kernel
theorem dX8_sum_1 : decode cX8_sum 1 = .ok (.iload_n 1, 1) := by decide +kernel
theorem dX8_sum_2 : decode cX8_sum 2 = .ok (.invokevirtual 178, 3) := by decide +kernel
theorem dX8_sum_5 : decode cX8_sum 5 = .ok (.astore 5, 2) := by decide +kernel
theorem dX8_sum_7 : decode cX8_sum 7 = .ok (.aload 5, 2) := by decide +kernel
theorem dX8_sum_9 : decode cX8_sum 9 = .ok (.ifnonnull 9, 3) := by decide +kernel
theorem dX8_sum_12 : decode cX8_sum 12 = .ok (.bipush (-101), 2) := by decide +kernel
theorem dX8_sum_14 : decode cX8_sum 14 = .ok (.invokestatic 100, 3) := by decide +kernel
theorem dX8_sum_17 : decode cX8_sum 17 = .ok (.lreturn, 1) := by decide +kernel
theorem dX8_sum_18 : decode cX8_sum 18 = .ok (.iload_n 2, 1) := by decide +kernel
theorem dX8_sum_19 : decode cX8_sum 19 = .ok (.aload 5, 2) := by decide +kernel
theorem dX8_sum_21 : decode cX8_sum 21 = .ok (.getfield 93, 3) := by decide +kernel
theorem dX8_sum_24 : decode cX8_sum 24 = .ok (.iconst 1, 1) := by decide +kernel
theorem dX8_sum_25 : decode cX8_sum 25 = .ok (.isub, 1) := by decide +kernel
theorem dX8_sum_26 : decode cX8_sum 26 = .ok (.invokestatic 52, 3) := by decide +kernel
theorem dX8_sum_29 : decode cX8_sum 29 = .ok (.ifCond .ne 9, 3) := by decide +kernel
theorem dX8_sum_32 : decode cX8_sum 32 = .ok (.bipush (-102), 2) := by decide +kernel
theorem dX8_sum_34 : decode cX8_sum 34 = .ok (.invokestatic 100, 3) := by decide +kernel
theorem dX8_sum_37 : decode cX8_sum 37 = .ok (.lreturn, 1) := by decide +kernel
theorem dX8_sum_38 : decode cX8_sum 38 = .ok (.lconst 0, 1) := by decide +kernel
theorem dX8_sum_39 : decode cX8_sum 39 = .ok (.lstore 6, 2) := by decide +kernel
theorem dX8_sum_41 : decode cX8_sum 41 = .ok (.iconst 0, 1) := by decide +kernel
theorem dX8_sum_42 : decode cX8_sum 42 = .ok (.istore 8, 2) := by decide +kernel
theorem dX8_sum_44 : decode cX8_sum 44 = .ok (.iload 8, 2) := by decide +kernel
theorem dX8_sum_46 : decode cX8_sum 46 = .ok (.sipush 400, 3) := by decide +kernel
theorem dX8_sum_49 : decode cX8_sum 49 = .ok (.if_icmp .ge 62, 3) := by decide +kernel
theorem dX8_sum_52 : decode cX8_sum 52 = .ok (.iload 8, 2) := by decide +kernel
theorem dX8_sum_54 : decode cX8_sum 54 = .ok (.i2l, 1) := by decide +kernel
theorem dX8_sum_55 : decode cX8_sum 55 = .ok (.aload 5, 2) := by decide +kernel
theorem dX8_sum_57 : decode cX8_sum 57 = .ok (.getfield 75, 3) := by decide +kernel
theorem dX8_sum_60 : decode cX8_sum 60 = .ok (.lcmp, 1) := by decide +kernel
theorem dX8_sum_61 : decode cX8_sum 61 = .ok (.ifCond .ge 50, 3) := by decide +kernel
theorem dX8_sum_64 : decode cX8_sum 64 = .ok (.aload 5, 2) := by decide +kernel
theorem dX8_sum_66 : decode cX8_sum 66 = .ok (.aload_n 0, 1) := by decide +kernel
theorem dX8_sum_67 : decode cX8_sum 67 = .ok (.getfield 16, 3) := by decide +kernel
theorem dX8_sum_70 : decode cX8_sum 70 = .ok (.iconst 0, 1) := by decide +kernel
theorem dX8_sum_71 : decode cX8_sum 71 = .ok (.iload 8, 2) := by decide +kernel
theorem dX8_sum_73 : decode cX8_sum 73 = .ok (.i2l, 1) := by decide +kernel
theorem dX8_sum_74 : decode cX8_sum 74 = .ok (.invokevirtual 135, 3) := by decide +kernel
theorem dX8_sum_77 : decode cX8_sum 77 = .ok (.aload_n 0, 1) := by decide +kernel
theorem dX8_sum_78 : decode cX8_sum 78 = .ok (.getfield 16, 3) := by decide +kernel
theorem dX8_sum_81 : decode cX8_sum 81 = .ok (.iload_n 2, 1) := by decide +kernel
theorem dX8_sum_82 : decode cX8_sum 82 = .ok (.invokevirtual 111, 3) := by decide +kernel
theorem dX8_sum_85 : decode cX8_sum 85 = .ok (.lload_n 3, 1) := by decide +kernel
theorem dX8_sum_86 : decode cX8_sum 86 = .ok (.lcmp, 1) := by decide +kernel
theorem dX8_sum_87 : decode cX8_sum 87 = .ok (.ifCond .ne 18, 3) := by decide +kernel
theorem dX8_sum_90 : decode cX8_sum 90 = .ok (.lload 6, 2) := by decide +kernel
theorem dX8_sum_92 : decode cX8_sum 92 = .ok (.aload_n 0, 1) := by decide +kernel
theorem dX8_sum_93 : decode cX8_sum 93 = .ok (.getfield 37, 3) := by decide +kernel
theorem dX8_sum_96 : decode cX8_sum 96 = .ok (.iload_n 1, 1) := by decide +kernel
theorem dX8_sum_97 : decode cX8_sum 97 = .ok (.aaload, 1) := by decide +kernel
theorem dX8_sum_98 : decode cX8_sum 98 = .ok (.iload 8, 2) := by decide +kernel
theorem dX8_sum_100 : decode cX8_sum 100 = .ok (.iaload, 1) := by decide +kernel
theorem dX8_sum_101 : decode cX8_sum 101 = .ok (.i2l, 1) := by decide +kernel
theorem dX8_sum_102 : decode cX8_sum 102 = .ok (.ladd, 1) := by decide +kernel
theorem dX8_sum_103 : decode cX8_sum 103 = .ok (.lstore 6, 2) := by decide +kernel
theorem dX8_sum_105 : decode cX8_sum 105 = .ok (.iinc 8 1, 3) := by decide +kernel
theorem dX8_sum_108 : decode cX8_sum 108 = .ok (.goto (-64), 3) := by decide +kernel
theorem dX8_sum_111 : decode cX8_sum 111 = .ok (.lload 6, 2) := by decide +kernel
theorem dX8_sum_113 : decode cX8_sum 113 = .ok (.lreturn, 1) := by decide +kernel
theorem dX8_over_0 : decode cX8_over 0 = .ok (.aload_n 0, 1) := by decide +kernel
theorem dX8_over_1 : decode cX8_over 1 = .ok (.iload_n 1, 1) := by decide +kernel
theorem dX8_over_2 : decode cX8_over 2 = .ok (.invokevirtual 178, 3) := by decide +kernel
theorem dX8_over_5 : decode cX8_over 5 = .ok (.astore_n 2, 1) := by decide +kernel
theorem dX8_over_6 : decode cX8_over 6 = .ok (.aload_n 2, 1) := by decide +kernel
theorem dX8_over_7 : decode cX8_over 7 = .ok (.ifnonnull 8, 3) := by decide +kernel
theorem dX8_over_10 : decode cX8_over 10 = .ok (.bipush (-101), 2) := by decide +kernel
theorem dX8_over_12 : decode cX8_over 12 = .ok (.goto 7, 3) := by decide +kernel
theorem dX8_over_15 : decode cX8_over 15 = .ok (.aload_n 2, 1) := by decide +kernel
theorem dX8_over_16 : decode cX8_over 16 = .ok (.getfield 186, 3) := by decide +kernel
theorem dX8_over_19 : decode cX8_over 19 = .ok (.ireturn, 1) := by decide +kernel
theorem dX8_count_0 : decode cX8_count 0 = .ok (.iload_n 1, 1) := by decide +kernel
theorem dX8_count_1 : decode cX8_count 1 = .ok (.tableswitch 54 0 3 #[31, 36, 41, 49], 31) := by decide +kernel
theorem dX8_count_32 : decode cX8_count 32 = .ok (.aload_n 0, 1) := by decide +kernel
theorem dX8_count_33 : decode cX8_count 33 = .ok (.getfield 40, 3) := by decide +kernel
theorem dX8_count_36 : decode cX8_count 36 = .ok (.ireturn, 1) := by decide +kernel
theorem dX8_count_37 : decode cX8_count 37 = .ok (.aload_n 0, 1) := by decide +kernel
theorem dX8_count_38 : decode cX8_count 38 = .ok (.getfield 44, 3) := by decide +kernel
theorem dX8_count_41 : decode cX8_count 41 = .ok (.ireturn, 1) := by decide +kernel
theorem dX8_count_42 : decode cX8_count 42 = .ok (.aload_n 0, 1) := by decide +kernel
theorem dX8_count_43 : decode cX8_count 43 = .ok (.getfield 22, 3) := by decide +kernel
theorem dX8_count_46 : decode cX8_count 46 = .ok (.getfield 145, 3) := by decide +kernel
theorem dX8_count_49 : decode cX8_count 49 = .ok (.ireturn, 1) := by decide +kernel
theorem dX8_count_50 : decode cX8_count 50 = .ok (.aload_n 0, 1) := by decide +kernel
theorem dX8_count_51 : decode cX8_count 51 = .ok (.invokevirtual 187, 3) := by decide +kernel
theorem dX8_count_54 : decode cX8_count 54 = .ok (.ireturn, 1) := by decide +kernel
theorem dX8_count_55 : decode cX8_count 55 = .ok (.bipush (-102), 2) := by decide +kernel
theorem dX8_count_57 : decode cX8_count 57 = .ok (.ireturn, 1) := by decide +kernel
theorem dX8_clear_0 : decode cX8_clear 0 = .ok (.aload_n 0, 1) := by decide +kernel
theorem dX8_clear_1 : decode cX8_clear 1 = .ok (.getfield 40, 3) := by decide +kernel
theorem dX8_clear_4 : decode cX8_clear 4 = .ok (.istore_n 1, 1) := by decide +kernel
theorem dX8_clear_5 : decode cX8_clear 5 = .ok (.aload_n 0, 1) := by decide +kernel
theorem dX8_clear_6 : decode cX8_clear 6 = .ok (.iconst 0, 1) := by decide +kernel
theorem dX8_clear_7 : decode cX8_clear 7 = .ok (.putfield 40, 3) := by decide +kernel
theorem dX8_clear_10 : decode cX8_clear 10 = .ok (.aload_n 0, 1) := by decide +kernel
theorem dX8_clear_11 : decode cX8_clear 11 = .ok (.iconst 0, 1) := by decide +kernel
theorem dX8_clear_12 : decode cX8_clear 12 = .ok (.putfield 44, 3) := by decide +kernel
theorem dX8_clear_15 : decode cX8_clear 15 = .ok (.aload_n 0, 1) := by decide +kernel
theorem dX8_clear_16 : decode cX8_clear 16 = .ok (.getfield 10, 3) := by decide +kernel
theorem dX8_clear_19 : decode cX8_clear 19 = .ok (.invokevirtual 190, 3) := by decide +kernel
theorem dX8_clear_22 : decode cX8_clear 22 = .ok (.aload_n 0, 1) := by decide +kernel
theorem dX8_clear_23 : decode cX8_clear 23 = .ok (.getfield 22, 3) := by decide +kernel
theorem dX8_clear_26 : decode cX8_clear 26 = .ok (.invokevirtual 193, 3) := by decide +kernel
theorem dX8_clear_29 : decode cX8_clear 29 = .ok (.iload_n 1, 1) := by decide +kernel
theorem dX8_clear_30 : decode cX8_clear 30 = .ok (.ireturn, 1) := by decide +kernel
theorem dX8_isUpTo_0 : decode cX8_isUpTo 0 = .ok (.iload_n 0, 1) := by decide +kernel
theorem dX8_isUpTo_1 : decode cX8_isUpTo 1 = .ok (.ifCond .lt 12, 3) := by decide +kernel
theorem dX8_isUpTo_4 : decode cX8_isUpTo 4 = .ok (.iload_n 0, 1) := by decide +kernel
theorem dX8_isUpTo_5 : decode cX8_isUpTo 5 = .ok (.iload_n 1, 1) := by decide +kernel
theorem dX8_isUpTo_6 : decode cX8_isUpTo 6 = .ok (.if_icmp .gt 7, 3) := by decide +kernel
theorem dX8_isUpTo_9 : decode cX8_isUpTo 9 = .ok (.iconst 1, 1) := by decide +kernel
theorem dX8_isUpTo_10 : decode cX8_isUpTo 10 = .ok (.goto 4, 3) := by decide +kernel
theorem dX8_isUpTo_13 : decode cX8_isUpTo 13 = .ok (.iconst 0, 1) := by decide +kernel
theorem dX8_isUpTo_14 : decode cX8_isUpTo 14 = .ok (.ireturn, 1) := by decide +kernel
theorem dX8_longCode_0 : decode cX8_longCode 0 = .ok (.iload_n 0, 1) := by decide +kernel
theorem dX8_longCode_1 : decode cX8_longCode 1 = .ok (.i2l, 1) := by decide +kernel
theorem dX8_longCode_2 : decode cX8_longCode 2 = .ok (.ldc2_w 196, 3) := by decide +kernel
theorem dX8_longCode_5 : decode cX8_longCode 5 = .ok (.lsub, 1) := by decide +kernel
theorem dX8_longCode_6 : decode cX8_longCode 6 = .ok (.lreturn, 1) := by decide +kernel
theorem dX8_rangeOf_0 : decode cX8_rangeOf 0 = .ok (.iload_n 1, 1) := by decide +kernel
theorem dX8_rangeOf_1 : decode cX8_rangeOf 1 = .ok (.ifCond .lt 20, 3) := by decide +kernel
theorem dX8_rangeOf_4 : decode cX8_rangeOf 4 = .ok (.iload_n 1, 1) := by decide +kernel
theorem dX8_rangeOf_5 : decode cX8_rangeOf 5 = .ok (.aload_n 0, 1) := by decide +kernel
theorem dX8_rangeOf_6 : decode cX8_rangeOf 6 = .ok (.getfield 40, 3) := by decide +kernel
theorem dX8_rangeOf_9 : decode cX8_rangeOf 9 = .ok (.if_icmp .ge 12, 3) := by decide +kernel
theorem dX8_rangeOf_12 : decode cX8_rangeOf 12 = .ok (.aload_n 0, 1) := by decide +kernel
theorem dX8_rangeOf_13 : decode cX8_rangeOf 13 = .ok (.getfield 28, 3) := by decide +kernel
theorem dX8_rangeOf_16 : decode cX8_rangeOf 16 = .ok (.iload_n 1, 1) := by decide +kernel
theorem dX8_rangeOf_17 : decode cX8_rangeOf 17 = .ok (.aaload, 1) := by decide +kernel
theorem dX8_rangeOf_18 : decode cX8_rangeOf 18 = .ok (.goto 4, 3) := by decide +kernel
theorem dX8_rangeOf_21 : decode cX8_rangeOf 21 = .ok (.aconst_null, 1) := by decide +kernel
theorem dX8_rangeOf_22 : decode cX8_rangeOf 22 = .ok (.areturn, 1) := by decide +kernel
theorem dX8_baseOf_0 : decode cX8_baseOf 0 = .ok (.iload_n 1, 1) := by decide +kernel
theorem dX8_baseOf_1 : decode cX8_baseOf 1 = .ok (.ifCond .lt 20, 3) := by decide +kernel
theorem dX8_baseOf_4 : decode cX8_baseOf 4 = .ok (.iload_n 1, 1) := by decide +kernel
theorem dX8_baseOf_5 : decode cX8_baseOf 5 = .ok (.aload_n 0, 1) := by decide +kernel
theorem dX8_baseOf_6 : decode cX8_baseOf 6 = .ok (.getfield 44, 3) := by decide +kernel
theorem dX8_baseOf_9 : decode cX8_baseOf 9 = .ok (.if_icmp .ge 12, 3) := by decide +kernel
theorem dX8_baseOf_12 : decode cX8_baseOf 12 = .ok (.aload_n 0, 1) := by decide +kernel
theorem dX8_baseOf_13 : decode cX8_baseOf 13 = .ok (.getfield 32, 3) := by decide +kernel
theorem dX8_baseOf_16 : decode cX8_baseOf 16 = .ok (.iload_n 1, 1) := by decide +kernel
theorem dX8_baseOf_17 : decode cX8_baseOf 17 = .ok (.aaload, 1) := by decide +kernel
theorem dX8_baseOf_18 : decode cX8_baseOf 18 = .ok (.goto 4, 3) := by decide +kernel
theorem dX8_baseOf_21 : decode cX8_baseOf 21 = .ok (.aconst_null, 1) := by decide +kernel
theorem dX8_baseOf_22 : decode cX8_baseOf 22 = .ok (.areturn, 1) := by decide +kernel
theorem dX8_isFull_0 : decode cX8_isFull 0 = .ok (.aload_n 0, 1) := by decide +kernel
theorem dX8_isFull_1 : decode cX8_isFull 1 = .ok (.getfield 40, 3) := by decide +kernel
theorem dX8_isFull_4 : decode cX8_isFull 4 = .ok (.bipush 40, 2) := by decide +kernel
theorem dX8_isFull_6 : decode cX8_isFull 6 = .ok (.if_icmp .lt 7, 3) := by decide +kernel
theorem dX8_isFull_9 : decode cX8_isFull 9 = .ok (.iconst 1, 1) := by decide +kernel
theorem dX8_isFull_10 : decode cX8_isFull 10 = .ok (.goto 4, 3) := by decide +kernel
theorem dX8_isFull_13 : decode cX8_isFull 13 = .ok (.iconst 0, 1) := by decide +kernel
theorem dX8_isFull_14 : decode cX8_isFull 14 = .ok (.ireturn, 1) := by decide +kernel
theorem dX8_add_0 : decode cX8_add 0 = .ok (.aload_n 0, 1) := by decide +kernel
theorem dX8_add_1 : decode cX8_add 1 = .ok (.getfield 28, 3) := by decide +kernel
theorem dX8_add_4 : decode cX8_add 4 = .ok (.aload_n 0, 1) := by decide +kernel
theorem dX8_add_5 : decode cX8_add 5 = .ok (.getfield 40, 3) := by decide +kernel
theorem dX8_add_8 : decode cX8_add 8 = .ok (.aload_n 1, 1) := by decide +kernel
theorem dX8_add_9 : decode cX8_add 9 = .ok (.aastore, 1) := by decide +kernel
theorem dX8_add_10 : decode cX8_add 10 = .ok (.aload_n 0, 1) := by decide +kernel
theorem dX8_add_11 : decode cX8_add 11 = .ok (.dup, 1) := by decide +kernel
theorem dX8_add_12 : decode cX8_add 12 = .ok (.getfield 40, 3) := by decide +kernel
theorem dX8_add_15 : decode cX8_add 15 = .ok (.iconst 1, 1) := by decide +kernel
theorem dX8_add_16 : decode cX8_add 16 = .ok (.iadd, 1) := by decide +kernel
theorem dX8_add_17 : decode cX8_add 17 = .ok (.putfield 40, 3) := by decide +kernel
theorem dX8_add_20 : decode cX8_add 20 = .ok (.aload_n 1, 1) := by decide +kernel
theorem dX8_add_21 : decode cX8_add 21 = .ok (.getfield 186, 3) := by decide +kernel
theorem dX8_add_24 : decode cX8_add 24 = .ok (.ireturn, 1) := by decide +kernel
theorem dX8_addRow_0 : decode cX8_addRow 0 = .ok (.aload_n 0, 1) := by decide +kernel
theorem dX8_addRow_1 : decode cX8_addRow 1 = .ok (.invokevirtual 56, 3) := by decide +kernel
theorem dX8_addRow_4 : decode cX8_addRow 4 = .ok (.ifCond .eq 6, 3) := by decide +kernel
theorem dX8_addRow_7 : decode cX8_addRow 7 = .ok (.bipush (-104), 2) := by decide +kernel
theorem dX8_addRow_9 : decode cX8_addRow 9 = .ok (.ireturn, 1) := by decide +kernel
theorem dX8_addRow_10 : decode cX8_addRow 10 = .ok (.iload 6, 2) := by decide +kernel
theorem dX8_addRow_12 : decode cX8_addRow 12 = .ok (.ifCond .le 18, 3) := by decide +kernel
theorem dX8_addRow_15 : decode cX8_addRow 15 = .ok (.lload 4, 2) := by decide +kernel
theorem dX8_addRow_17 : decode cX8_addRow 17 = .ok (.lload_n 2, 1) := by decide +kernel
theorem dX8_addRow_18 : decode cX8_addRow 18 = .ok (.lcmp, 1) := by decide +kernel
theorem dX8_addRow_19 : decode cX8_addRow 19 = .ok (.ifCond .ge 7, 3) := by decide +kernel
theorem dX8_addRow_22 : decode cX8_addRow 22 = .ok (.iconst 1, 1) := by decide +kernel
theorem dX8_addRow_23 : decode cX8_addRow 23 = .ok (.goto 19, 3) := by decide +kernel
theorem dX8_addRow_26 : decode cX8_addRow 26 = .ok (.iconst 0, 1) := by decide +kernel
theorem dX8_addRow_27 : decode cX8_addRow 27 = .ok (.goto 15, 3) := by decide +kernel
theorem dX8_addRow_30 : decode cX8_addRow 30 = .ok (.lload 4, 2) := by decide +kernel
theorem dX8_addRow_32 : decode cX8_addRow 32 = .ok (.lload_n 2, 1) := by decide +kernel
theorem dX8_addRow_33 : decode cX8_addRow 33 = .ok (.lcmp, 1) := by decide +kernel
theorem dX8_addRow_34 : decode cX8_addRow 34 = .ok (.ifCond .le 7, 3) := by decide +kernel
theorem dX8_addRow_37 : decode cX8_addRow 37 = .ok (.iconst 1, 1) := by decide +kernel
theorem dX8_addRow_38 : decode cX8_addRow 38 = .ok (.goto 4, 3) := by decide +kernel
theorem dX8_addRow_41 : decode cX8_addRow 41 = .ok (.iconst 0, 1) := by decide +kernel
theorem dX8_addRow_42 : decode cX8_addRow 42 = .ok (.istore 7, 2) := by decide +kernel
theorem dX8_addRow_44 : decode cX8_addRow 44 = .ok (.iload 7, 2) := by decide +kernel
theorem dX8_addRow_46 : decode cX8_addRow 46 = .ok (.ifCond .eq 25, 3) := by decide +kernel
theorem dX8_addRow_49 : decode cX8_addRow 49 = .ok (.aload_n 0, 1) := by decide +kernel
theorem dX8_addRow_50 : decode cX8_addRow 50 = .ok (.new 198, 3) := by decide +kernel
theorem dX8_addRow_53 : decode cX8_addRow 53 = .ok (.dup, 1) := by decide +kernel
theorem dX8_addRow_54 : decode cX8_addRow 54 = .ok (.aload_n 0, 1) := by decide +kernel
theorem dX8_addRow_55 : decode cX8_addRow 55 = .ok (.getfield 40, 3) := by decide +kernel
theorem dX8_addRow_58 : decode cX8_addRow 58 = .ok (.iload_n 1, 1) := by decide +kernel
theorem dX8_addRow_59 : decode cX8_addRow 59 = .ok (.lload_n 2, 1) := by decide +kernel
theorem dX8_addRow_60 : decode cX8_addRow 60 = .ok (.lload_n 2, 1) := by decide +kernel
theorem dX8_addRow_61 : decode cX8_addRow 61 = .ok (.iload 6, 2) := by decide +kernel
theorem dX8_addRow_63 : decode cX8_addRow 63 = .ok (.lconst 0, 1) := by decide +kernel
theorem dX8_addRow_64 : decode cX8_addRow 64 = .ok (.invokespecial 200, 3) := by decide +kernel
theorem dX8_addRow_67 : decode cX8_addRow 67 = .ok (.invokevirtual 65, 3) := by decide +kernel
theorem dX8_addRow_70 : decode cX8_addRow 70 = .ok (.ireturn, 1) := by decide +kernel
theorem dX8_addRow_71 : decode cX8_addRow 71 = .ok (.iload 6, 2) := by decide +kernel
theorem dX8_addRow_73 : decode cX8_addRow 73 = .ok (.ifCond .le 16, 3) := by decide +kernel
theorem dX8_addRow_76 : decode cX8_addRow 76 = .ok (.lload 4, 2) := by decide +kernel
theorem dX8_addRow_78 : decode cX8_addRow 78 = .ok (.lload_n 2, 1) := by decide +kernel
theorem dX8_addRow_79 : decode cX8_addRow 79 = .ok (.lsub, 1) := by decide +kernel
theorem dX8_addRow_80 : decode cX8_addRow 80 = .ok (.iload 6, 2) := by decide +kernel
theorem dX8_addRow_82 : decode cX8_addRow 82 = .ok (.i2l, 1) := by decide +kernel
theorem dX8_addRow_83 : decode cX8_addRow 83 = .ok (.invokestatic 203, 3) := by decide +kernel
theorem dX8_addRow_86 : decode cX8_addRow 86 = .ok (.goto 14, 3) := by decide +kernel
theorem dX8_addRow_89 : decode cX8_addRow 89 = .ok (.lload_n 2, 1) := by decide +kernel
theorem dX8_addRow_90 : decode cX8_addRow 90 = .ok (.lload 4, 2) := by decide +kernel
theorem dX8_addRow_92 : decode cX8_addRow 92 = .ok (.lsub, 1) := by decide +kernel
theorem dX8_addRow_93 : decode cX8_addRow 93 = .ok (.iload 6, 2) := by decide +kernel
theorem dX8_addRow_95 : decode cX8_addRow 95 = .ok (.ineg, 1) := by decide +kernel
theorem dX8_addRow_96 : decode cX8_addRow 96 = .ok (.i2l, 1) := by decide +kernel
theorem dX8_addRow_97 : decode cX8_addRow 97 = .ok (.invokestatic 203, 3) := by decide +kernel
theorem dX8_addRow_100 : decode cX8_addRow 100 = .ok (.lstore 8, 2) := by decide +kernel
theorem dX8_addRow_102 : decode cX8_addRow 102 = .ok (.lload 8, 2) := by decide +kernel
theorem dX8_addRow_104 : decode cX8_addRow 104 = .ok (.lconst 0, 1) := by decide +kernel
theorem dX8_addRow_105 : decode cX8_addRow 105 = .ok (.lcmp, 1) := by decide +kernel
theorem dX8_addRow_106 : decode cX8_addRow 106 = .ok (.ifCond .lt 12, 3) := by decide +kernel
theorem dX8_addRow_109 : decode cX8_addRow 109 = .ok (.lload 8, 2) := by decide +kernel
theorem dX8_addRow_111 : decode cX8_addRow 111 = .ok (.ldc2_w 141, 3) := by decide +kernel
theorem dX8_addRow_114 : decode cX8_addRow 114 = .ok (.lcmp, 1) := by decide +kernel
theorem dX8_addRow_115 : decode cX8_addRow 115 = .ok (.ifCond .ne 7, 3) := by decide +kernel
theorem dX8_addRow_118 : decode cX8_addRow 118 = .ok (.iconst 1, 1) := by decide +kernel
theorem dX8_addRow_119 : decode cX8_addRow 119 = .ok (.goto 4, 3) := by decide +kernel
theorem dX8_addRow_122 : decode cX8_addRow 122 = .ok (.iconst 0, 1) := by decide +kernel
theorem dX8_addRow_123 : decode cX8_addRow 123 = .ok (.istore 10, 2) := by decide +kernel
theorem dX8_addRow_125 : decode cX8_addRow 125 = .ok (.aload_n 0, 1) := by decide +kernel
theorem dX8_addRow_126 : decode cX8_addRow 126 = .ok (.new 198, 3) := by decide +kernel
theorem dX8_addRow_129 : decode cX8_addRow 129 = .ok (.dup, 1) := by decide +kernel
theorem dX8_addRow_130 : decode cX8_addRow 130 = .ok (.aload_n 0, 1) := by decide +kernel
theorem dX8_addRow_131 : decode cX8_addRow 131 = .ok (.getfield 40, 3) := by decide +kernel
theorem dX8_addRow_134 : decode cX8_addRow 134 = .ok (.iload_n 1, 1) := by decide +kernel
theorem dX8_addRow_135 : decode cX8_addRow 135 = .ok (.lload_n 2, 1) := by decide +kernel
theorem dX8_addRow_136 : decode cX8_addRow 136 = .ok (.lload_n 2, 1) := by decide +kernel
theorem dX8_addRow_137 : decode cX8_addRow 137 = .ok (.lload 8, 2) := by decide +kernel
theorem dX8_addRow_139 : decode cX8_addRow 139 = .ok (.iload 6, 2) := by decide +kernel
theorem dX8_addRow_141 : decode cX8_addRow 141 = .ok (.i2l, 1) := by decide +kernel
theorem dX8_addRow_142 : decode cX8_addRow 142 = .ok (.lmul, 1) := by decide +kernel
theorem dX8_addRow_143 : decode cX8_addRow 143 = .ok (.ladd, 1) := by decide +kernel
theorem dX8_addRow_144 : decode cX8_addRow 144 = .ok (.iload 6, 2) := by decide +kernel
theorem dX8_addRow_146 : decode cX8_addRow 146 = .ok (.iload 10, 2) := by decide +kernel
theorem dX8_addRow_148 : decode cX8_addRow 148 = .ok (.ifCond .eq 9, 3) := by decide +kernel
theorem dX8_addRow_151 : decode cX8_addRow 151 = .ok (.ldc2_w 79, 3) := by decide +kernel
theorem dX8_addRow_154 : decode cX8_addRow 154 = .ok (.goto 7, 3) := by decide +kernel
theorem dX8_addRow_157 : decode cX8_addRow 157 = .ok (.lload 8, 2) := by decide +kernel
theorem dX8_addRow_159 : decode cX8_addRow 159 = .ok (.lconst 1, 1) := by decide +kernel
theorem dX8_addRow_160 : decode cX8_addRow 160 = .ok (.ladd, 1) := by decide +kernel
theorem dX8_addRow_161 : decode cX8_addRow 161 = .ok (.invokespecial 200, 3) := by decide +kernel
theorem dX8_addRow_164 : decode cX8_addRow 164 = .ok (.invokevirtual 65, 3) := by decide +kernel
theorem dX8_addRow_167 : decode cX8_addRow 167 = .ok (.ireturn, 1) := by decide +kernel
theorem dX8_addBeside_0 : decode cX8_addBeside 0 = .ok (.iconst 0, 1) := by decide +kernel
theorem dX8_addBeside_1 : decode cX8_addBeside 1 = .ok (.istore_n 3, 1) := by decide +kernel
theorem dX8_addBeside_2 : decode cX8_addBeside 2 = .ok (.lconst 1, 1) := by decide +kernel
theorem dX8_addBeside_3 : decode cX8_addBeside 3 = .ok (.lstore 4, 2) := by decide +kernel
theorem dX8_addBeside_5 : decode cX8_addBeside 5 = .ok (.aload_n 2, 1) := by decide +kernel
theorem dX8_addBeside_6 : decode cX8_addBeside 6 = .ok (.astore 6, 2) := by decide +kernel
theorem dX8_addBeside_8 : decode cX8_addBeside 8 = .ok (.aload 6, 2) := by decide +kernel
theorem dX8_addBeside_10 : decode cX8_addBeside 10 = .ok (.arraylength, 1) := by decide +kernel
theorem dX8_addBeside_11 : decode cX8_addBeside 11 = .ok (.istore 7, 2) := by decide +kernel
theorem dX8_addBeside_13 : decode cX8_addBeside 13 = .ok (.iconst 0, 1) := by decide +kernel
theorem dX8_addBeside_14 : decode cX8_addBeside 14 = .ok (.istore 8, 2) := by decide +kernel
theorem dX8_addBeside_16 : decode cX8_addBeside 16 = .ok (.iload 8, 2) := by decide +kernel
theorem dX8_addBeside_18 : decode cX8_addBeside 18 = .ok (.iload 7, 2) := by decide +kernel
theorem dX8_addBeside_20 : decode cX8_addBeside 20 = .ok (.if_icmp .ge 36, 3) := by decide +kernel
theorem dX8_addBeside_23 : decode cX8_addBeside 23 = .ok (.aload 6, 2) := by decide +kernel
theorem dX8_addBeside_25 : decode cX8_addBeside 25 = .ok (.iload 8, 2) := by decide +kernel
theorem dX8_addBeside_27 : decode cX8_addBeside 27 = .ok (.aaload, 1) := by decide +kernel
theorem dX8_addBeside_28 : decode cX8_addBeside 28 = .ok (.astore 9, 2) := by decide +kernel
theorem dX8_addBeside_30 : decode cX8_addBeside 30 = .ok (.iload_n 3, 1) := by decide +kernel
theorem dX8_addBeside_31 : decode cX8_addBeside 31 = .ok (.aload 9, 2) := by decide +kernel
theorem dX8_addBeside_33 : decode cX8_addBeside 33 = .ok (.getfield 93, 3) := by decide +kernel
theorem dX8_addBeside_36 : decode cX8_addBeside 36 = .ok (.iadd, 1) := by decide +kernel
theorem dX8_addBeside_37 : decode cX8_addBeside 37 = .ok (.istore_n 3, 1) := by decide +kernel
theorem dX8_addBeside_38 : decode cX8_addBeside 38 = .ok (.lload 4, 2) := by decide +kernel
theorem dX8_addBeside_40 : decode cX8_addBeside 40 = .ok (.aload 9, 2) := by decide +kernel
theorem dX8_addBeside_42 : decode cX8_addBeside 42 = .ok (.getfield 75, 3) := by decide +kernel
theorem dX8_addBeside_45 : decode cX8_addBeside 45 = .ok (.invokestatic 207, 3) := by decide +kernel
theorem dX8_addBeside_48 : decode cX8_addBeside 48 = .ok (.lstore 4, 2) := by decide +kernel
theorem dX8_addBeside_50 : decode cX8_addBeside 50 = .ok (.iinc 8 1, 3) := by decide +kernel
theorem dX8_addBeside_53 : decode cX8_addBeside 53 = .ok (.goto (-37), 3) := by decide +kernel
theorem dX8_addBeside_56 : decode cX8_addBeside 56 = .ok (.iload_n 3, 1) := by decide +kernel
theorem dX8_addBeside_57 : decode cX8_addBeside 57 = .ok (.bipush 8, 2) := by decide +kernel
theorem dX8_addBeside_59 : decode cX8_addBeside 59 = .ok (.if_icmp .le 6, 3) := by decide +kernel
theorem dX8_addBeside_62 : decode cX8_addBeside 62 = .ok (.bipush (-103), 2) := by decide +kernel
theorem dX8_addBeside_64 : decode cX8_addBeside 64 = .ok (.ireturn, 1) := by decide +kernel
theorem dX8_addBeside_65 : decode cX8_addBeside 65 = .ok (.aload_n 0, 1) := by decide +kernel
theorem dX8_addBeside_66 : decode cX8_addBeside 66 = .ok (.invokevirtual 56, 3) := by decide +kernel
theorem dX8_addBeside_69 : decode cX8_addBeside 69 = .ok (.ifCond .eq 6, 3) := by decide +kernel
theorem dX8_addBeside_72 : decode cX8_addBeside 72 = .ok (.bipush (-104), 2) := by decide +kernel
theorem dX8_addBeside_74 : decode cX8_addBeside 74 = .ok (.ireturn, 1) := by decide +kernel
theorem dX8_addBeside_75 : decode cX8_addBeside 75 = .ok (.aload_n 0, 1) := by decide +kernel
theorem dX8_addBeside_76 : decode cX8_addBeside 76 = .ok (.new 209, 3) := by decide +kernel
theorem dX8_addBeside_79 : decode cX8_addBeside 79 = .ok (.dup, 1) := by decide +kernel
theorem dX8_addBeside_80 : decode cX8_addBeside 80 = .ok (.aload_n 0, 1) := by decide +kernel
theorem dX8_addBeside_81 : decode cX8_addBeside 81 = .ok (.getfield 40, 3) := by decide +kernel
theorem dX8_addBeside_84 : decode cX8_addBeside 84 = .ok (.iload_n 1, 1) := by decide +kernel
theorem dX8_addBeside_85 : decode cX8_addBeside 85 = .ok (.iload_n 3, 1) := by decide +kernel
theorem dX8_addBeside_86 : decode cX8_addBeside 86 = .ok (.lload 4, 2) := by decide +kernel
theorem dX8_addBeside_88 : decode cX8_addBeside 88 = .ok (.aload_n 2, 1) := by decide +kernel
theorem dX8_addBeside_89 : decode cX8_addBeside 89 = .ok (.invokespecial 211, 3) := by decide +kernel
theorem dX8_addBeside_92 : decode cX8_addBeside 92 = .ok (.invokevirtual 65, 3) := by decide +kernel
theorem dX8_addBeside_95 : decode cX8_addBeside 95 = .ok (.ireturn, 1) := by decide +kernel
theorem dX8_placeOfHand_0 : decode cX8_placeOfHand 0 = .ok (.aload_n 1, 1) := by decide +kernel
theorem dX8_placeOfHand_1 : decode cX8_placeOfHand 1 = .ok (.aload_n 0, 1) := by decide +kernel
theorem dX8_placeOfHand_2 : decode cX8_placeOfHand 2 = .ok (.getfield 10, 3) := by decide +kernel
theorem dX8_placeOfHand_5 : decode cX8_placeOfHand 5 = .ok (.iconst 0, 1) := by decide +kernel
theorem dX8_placeOfHand_6 : decode cX8_placeOfHand 6 = .ok (.iconst 0, 1) := by decide +kernel
theorem dX8_placeOfHand_7 : decode cX8_placeOfHand 7 = .ok (.aload_n 0, 1) := by decide +kernel
theorem dX8_placeOfHand_8 : decode cX8_placeOfHand 8 = .ok (.getfield 22, 3) := by decide +kernel
theorem dX8_placeOfHand_11 : decode cX8_placeOfHand 11 = .ok (.invokevirtual 214, 3) := by decide +kernel
theorem dX8_placeOfHand_14 : decode cX8_placeOfHand 14 = .ok (.lreturn, 1) := by decide +kernel
theorem dX8_cellOfHand_0 : decode cX8_cellOfHand 0 = .ok (.aload_n 0, 1) := by decide +kernel
theorem dX8_cellOfHand_1 : decode cX8_cellOfHand 1 = .ok (.aload_n 1, 1) := by decide +kernel
theorem dX8_cellOfHand_2 : decode cX8_cellOfHand 2 = .ok (.invokevirtual 118, 3) := by decide +kernel
theorem dX8_cellOfHand_5 : decode cX8_cellOfHand 5 = .ok (.lstore_n 2, 1) := by decide +kernel
theorem dX8_cellOfHand_6 : decode cX8_cellOfHand 6 = .ok (.lload_n 2, 1) := by decide +kernel
theorem dX8_cellOfHand_7 : decode cX8_cellOfHand 7 = .ok (.lconst 0, 1) := by decide +kernel
theorem dX8_cellOfHand_8 : decode cX8_cellOfHand 8 = .ok (.lcmp, 1) := by decide +kernel
theorem dX8_cellOfHand_9 : decode cX8_cellOfHand 9 = .ok (.ifCond .lt 16, 3) := by decide +kernel
theorem dX8_cellOfHand_12 : decode cX8_cellOfHand 12 = .ok (.lload_n 2, 1) := by decide +kernel
theorem dX8_cellOfHand_13 : decode cX8_cellOfHand 13 = .ok (.ldc2_w 166, 3) := by decide +kernel
theorem dX8_cellOfHand_16 : decode cX8_cellOfHand 16 = .ok (.lcmp, 1) := by decide +kernel
theorem dX8_cellOfHand_17 : decode cX8_cellOfHand 17 = .ok (.ifCond .ge 8, 3) := by decide +kernel
theorem dX8_cellOfHand_20 : decode cX8_cellOfHand 20 = .ok (.lload_n 2, 1) := by decide +kernel
theorem dX8_cellOfHand_21 : decode cX8_cellOfHand 21 = .ok (.l2i, 1) := by decide +kernel
theorem dX8_cellOfHand_22 : decode cX8_cellOfHand 22 = .ok (.goto 5, 3) := by decide +kernel
theorem dX8_cellOfHand_25 : decode cX8_cellOfHand 25 = .ok (.bipush (-2), 2) := by decide +kernel
theorem dX8_cellOfHand_27 : decode cX8_cellOfHand 27 = .ok (.ireturn, 1) := by decide +kernel
theorem dX8_cellsInUse_0 : decode cX8_cellsInUse 0 = .ok (.iconst 0, 1) := by decide +kernel
theorem dX8_cellsInUse_1 : decode cX8_cellsInUse 1 = .ok (.istore_n 1, 1) := by decide +kernel
theorem dX8_cellsInUse_2 : decode cX8_cellsInUse 2 = .ok (.iconst 0, 1) := by decide +kernel
theorem dX8_cellsInUse_3 : decode cX8_cellsInUse 3 = .ok (.istore_n 2, 1) := by decide +kernel
theorem dX8_cellsInUse_4 : decode cX8_cellsInUse 4 = .ok (.iload_n 2, 1) := by decide +kernel
theorem dX8_cellsInUse_5 : decode cX8_cellsInUse 5 = .ok (.aload_n 0, 1) := by decide +kernel
theorem dX8_cellsInUse_6 : decode cX8_cellsInUse 6 = .ok (.getfield 44, 3) := by decide +kernel
theorem dX8_cellsInUse_9 : decode cX8_cellsInUse 9 = .ok (.if_icmp .ge 31, 3) := by decide +kernel
theorem dX8_cellsInUse_12 : decode cX8_cellsInUse 12 = .ok (.aload_n 0, 1) := by decide +kernel
theorem dX8_cellsInUse_13 : decode cX8_cellsInUse 13 = .ok (.iload_n 2, 1) := by decide +kernel
theorem dX8_cellsInUse_14 : decode cX8_cellsInUse 14 = .ok (.invokevirtual 178, 3) := by decide +kernel
theorem dX8_cellsInUse_17 : decode cX8_cellsInUse 17 = .ok (.astore_n 3, 1) := by decide +kernel
theorem dX8_cellsInUse_18 : decode cX8_cellsInUse 18 = .ok (.iload_n 1, 1) := by decide +kernel
theorem dX8_cellsInUse_19 : decode cX8_cellsInUse 19 = .ok (.aload_n 3, 1) := by decide +kernel
theorem dX8_cellsInUse_20 : decode cX8_cellsInUse 20 = .ok (.ifnonnull 7, 3) := by decide +kernel
theorem dX8_cellsInUse_23 : decode cX8_cellsInUse 23 = .ok (.iconst 0, 1) := by decide +kernel
theorem dX8_cellsInUse_24 : decode cX8_cellsInUse 24 = .ok (.goto 8, 3) := by decide +kernel
theorem dX8_cellsInUse_27 : decode cX8_cellsInUse 27 = .ok (.aload_n 3, 1) := by decide +kernel
theorem dX8_cellsInUse_28 : decode cX8_cellsInUse 28 = .ok (.getfield 75, 3) := by decide +kernel
theorem dX8_cellsInUse_31 : decode cX8_cellsInUse 31 = .ok (.l2i, 1) := by decide +kernel
theorem dX8_cellsInUse_32 : decode cX8_cellsInUse 32 = .ok (.iadd, 1) := by decide +kernel
theorem dX8_cellsInUse_33 : decode cX8_cellsInUse 33 = .ok (.istore_n 1, 1) := by decide +kernel
theorem dX8_cellsInUse_34 : decode cX8_cellsInUse 34 = .ok (.iinc 2 1, 3) := by decide +kernel
theorem dX8_cellsInUse_37 : decode cX8_cellsInUse 37 = .ok (.goto (-33), 3) := by decide +kernel
theorem dX8_cellsInUse_40 : decode cX8_cellsInUse 40 = .ok (.iload_n 1, 1) := by decide +kernel
theorem dX8_cellsInUse_41 : decode cX8_cellsInUse 41 = .ok (.ireturn, 1) := by decide +kernel
theorem dX8_liesWithin_0 : decode cX8_liesWithin 0 = .ok (.aload_n 0, 1) := by decide +kernel
theorem dX8_liesWithin_1 : decode cX8_liesWithin 1 = .ok (.getfield 93, 3) := by decide +kernel
theorem dX8_liesWithin_4 : decode cX8_liesWithin 4 = .ok (.aload_n 1, 1) := by decide +kernel
theorem dX8_liesWithin_5 : decode cX8_liesWithin 5 = .ok (.getfield 93, 3) := by decide +kernel
theorem dX8_liesWithin_8 : decode cX8_liesWithin 8 = .ok (.if_icmp .eq 5, 3) := by decide +kernel
theorem dX8_liesWithin_11 : decode cX8_liesWithin 11 = .ok (.iconst 0, 1) := by decide +kernel
theorem dX8_liesWithin_12 : decode cX8_liesWithin 12 = .ok (.ireturn, 1) := by decide +kernel
theorem dX8_liesWithin_13 : decode cX8_liesWithin 13 = .ok (.aload_n 0, 1) := by decide +kernel
theorem dX8_liesWithin_14 : decode cX8_liesWithin 14 = .ok (.getfield 75, 3) := by decide +kernel
theorem dX8_liesWithin_17 : decode cX8_liesWithin 17 = .ok (.lconst 0, 1) := by decide +kernel
theorem dX8_liesWithin_18 : decode cX8_liesWithin 18 = .ok (.lcmp, 1) := by decide +kernel
theorem dX8_liesWithin_19 : decode cX8_liesWithin 19 = .ok (.ifCond .ne 5, 3) := by decide +kernel
theorem dX8_liesWithin_22 : decode cX8_liesWithin 22 = .ok (.iconst 1, 1) := by decide +kernel
theorem dX8_liesWithin_23 : decode cX8_liesWithin 23 = .ok (.ireturn, 1) := by decide +kernel
theorem dX8_liesWithin_24 : decode cX8_liesWithin 24 = .ok (.iconst 0, 1) := by decide +kernel
theorem dX8_liesWithin_25 : decode cX8_liesWithin 25 = .ok (.istore_n 2, 1) := by decide +kernel
theorem dX8_liesWithin_26 : decode cX8_liesWithin 26 = .ok (.iload_n 2, 1) := by decide +kernel
theorem dX8_liesWithin_27 : decode cX8_liesWithin 27 = .ok (.aload_n 0, 1) := by decide +kernel
theorem dX8_liesWithin_28 : decode cX8_liesWithin 28 = .ok (.getfield 93, 3) := by decide +kernel
theorem dX8_liesWithin_31 : decode cX8_liesWithin 31 = .ok (.if_icmp .ge 42, 3) := by decide +kernel
theorem dX8_liesWithin_34 : decode cX8_liesWithin 34 = .ok (.aload_n 0, 1) := by decide +kernel
theorem dX8_liesWithin_35 : decode cX8_liesWithin 35 = .ok (.iload_n 2, 1) := by decide +kernel
theorem dX8_liesWithin_36 : decode cX8_liesWithin 36 = .ok (.invokevirtual 218, 3) := by decide +kernel
theorem dX8_liesWithin_39 : decode cX8_liesWithin 39 = .ok (.astore_n 3, 1) := by decide +kernel
theorem dX8_liesWithin_40 : decode cX8_liesWithin 40 = .ok (.aload_n 1, 1) := by decide +kernel
theorem dX8_liesWithin_41 : decode cX8_liesWithin 41 = .ok (.iload_n 2, 1) := by decide +kernel
theorem dX8_liesWithin_42 : decode cX8_liesWithin 42 = .ok (.invokevirtual 218, 3) := by decide +kernel
theorem dX8_liesWithin_45 : decode cX8_liesWithin 45 = .ok (.astore 4, 2) := by decide +kernel
theorem dX8_liesWithin_47 : decode cX8_liesWithin 47 = .ok (.aload_n 3, 1) := by decide +kernel
theorem dX8_liesWithin_48 : decode cX8_liesWithin 48 = .ok (.ifnull 17, 3) := by decide +kernel
theorem dX8_liesWithin_51 : decode cX8_liesWithin 51 = .ok (.aload 4, 2) := by decide +kernel
theorem dX8_liesWithin_53 : decode cX8_liesWithin 53 = .ok (.ifnull 12, 3) := by decide +kernel
theorem dX8_liesWithin_56 : decode cX8_liesWithin 56 = .ok (.aload_n 3, 1) := by decide +kernel
theorem dX8_liesWithin_57 : decode cX8_liesWithin 57 = .ok (.aload 4, 2) := by decide +kernel
theorem dX8_liesWithin_59 : decode cX8_liesWithin 59 = .ok (.invokevirtual 222, 3) := by decide +kernel
theorem dX8_liesWithin_62 : decode cX8_liesWithin 62 = .ok (.ifCond .ne 5, 3) := by decide +kernel
theorem dX8_liesWithin_65 : decode cX8_liesWithin 65 = .ok (.iconst 0, 1) := by decide +kernel
theorem dX8_liesWithin_66 : decode cX8_liesWithin 66 = .ok (.ireturn, 1) := by decide +kernel
theorem dX8_liesWithin_67 : decode cX8_liesWithin 67 = .ok (.iinc 2 1, 3) := by decide +kernel
theorem dX8_liesWithin_70 : decode cX8_liesWithin 70 = .ok (.goto (-44), 3) := by decide +kernel
theorem dX8_liesWithin_73 : decode cX8_liesWithin 73 = .ok (.iconst 1, 1) := by decide +kernel
theorem dX8_liesWithin_74 : decode cX8_liesWithin 74 = .ok (.ireturn, 1) := by decide +kernel
theorem dX8_quotient_0 : decode cX8_quotient 0 = .ok (.lload_n 2, 1) := by decide +kernel
theorem dX8_quotient_1 : decode cX8_quotient 1 = .ok (.lconst 1, 1) := by decide +kernel
theorem dX8_quotient_2 : decode cX8_quotient 2 = .ok (.lcmp, 1) := by decide +kernel
theorem dX8_quotient_3 : decode cX8_quotient 3 = .ok (.ifCond .ge 5, 3) := by decide +kernel
theorem dX8_quotient_6 : decode cX8_quotient 6 = .ok (.lconst 0, 1) := by decide +kernel
theorem dX8_quotient_7 : decode cX8_quotient 7 = .ok (.lreturn, 1) := by decide +kernel
theorem dX8_quotient_8 : decode cX8_quotient 8 = .ok (.lload_n 0, 1) := by decide +kernel
theorem dX8_quotient_9 : decode cX8_quotient 9 = .ok (.iconst 1, 1) := by decide +kernel
theorem dX8_quotient_10 : decode cX8_quotient 10 = .ok (.lushr, 1) := by decide +kernel
theorem dX8_quotient_11 : decode cX8_quotient 11 = .ok (.lload_n 2, 1) := by decide +kernel
theorem dX8_quotient_12 : decode cX8_quotient 12 = .ok (.ldiv, 1) := by decide +kernel
theorem dX8_quotient_13 : decode cX8_quotient 13 = .ok (.iconst 1, 1) := by decide +kernel
theorem dX8_quotient_14 : decode cX8_quotient 14 = .ok (.lshl, 1) := by decide +kernel
theorem dX8_quotient_15 : decode cX8_quotient 15 = .ok (.lstore 4, 2) := by decide +kernel
theorem dX8_quotient_17 : decode cX8_quotient 17 = .ok (.lload_n 0, 1) := by decide +kernel
theorem dX8_quotient_18 : decode cX8_quotient 18 = .ok (.lload 4, 2) := by decide +kernel
theorem dX8_quotient_20 : decode cX8_quotient 20 = .ok (.lload_n 2, 1) := by decide +kernel
theorem dX8_quotient_21 : decode cX8_quotient 21 = .ok (.lmul, 1) := by decide +kernel
theorem dX8_quotient_22 : decode cX8_quotient 22 = .ok (.lsub, 1) := by decide +kernel
theorem dX8_quotient_23 : decode cX8_quotient 23 = .ok (.lload_n 2, 1) := by decide +kernel
theorem dX8_quotient_24 : decode cX8_quotient 24 = .ok (.lcmp, 1) := by decide +kernel
theorem dX8_quotient_25 : decode cX8_quotient 25 = .ok (.ifCond .lt 10, 3) := by decide +kernel
theorem dX8_quotient_28 : decode cX8_quotient 28 = .ok (.lload 4, 2) := by decide +kernel
theorem dX8_quotient_30 : decode cX8_quotient 30 = .ok (.lconst 1, 1) := by decide +kernel
theorem dX8_quotient_31 : decode cX8_quotient 31 = .ok (.ladd, 1) := by decide +kernel
theorem dX8_quotient_32 : decode cX8_quotient 32 = .ok (.goto 5, 3) := by decide +kernel
theorem dX8_quotient_35 : decode cX8_quotient 35 = .ok (.lload 4, 2) := by decide +kernel
theorem dX8_quotient_37 : decode cX8_quotient 37 = .ok (.lreturn, 1) := by decide +kernel
theorem dX8_times_0 : decode cX8_times 0 = .ok (.lload_n 0, 1) := by decide +kernel
theorem dX8_times_1 : decode cX8_times 1 = .ok (.lconst 0, 1) := by decide +kernel
theorem dX8_times_2 : decode cX8_times 2 = .ok (.lcmp, 1) := by decide +kernel
theorem dX8_times_3 : decode cX8_times 3 = .ok (.ifCond .eq 9, 3) := by decide +kernel
theorem dX8_times_6 : decode cX8_times 6 = .ok (.lload_n 2, 1) := by decide +kernel
theorem dX8_times_7 : decode cX8_times 7 = .ok (.lconst 0, 1) := by decide +kernel
theorem dX8_times_8 : decode cX8_times 8 = .ok (.lcmp, 1) := by decide +kernel
theorem dX8_times_9 : decode cX8_times 9 = .ok (.ifCond .ne 5, 3) := by decide +kernel
theorem dX8_times_12 : decode cX8_times 12 = .ok (.lconst 0, 1) := by decide +kernel
theorem dX8_times_13 : decode cX8_times 13 = .ok (.lreturn, 1) := by decide +kernel
theorem dX8_times_14 : decode cX8_times 14 = .ok (.lload_n 0, 1) := by decide +kernel
theorem dX8_times_15 : decode cX8_times 15 = .ok (.ldc2_w 79, 3) := by decide +kernel
theorem dX8_times_18 : decode cX8_times 18 = .ok (.lcmp, 1) := by decide +kernel
theorem dX8_times_19 : decode cX8_times 19 = .ok (.ifCond .eq 21, 3) := by decide +kernel
theorem dX8_times_22 : decode cX8_times 22 = .ok (.lload_n 2, 1) := by decide +kernel
theorem dX8_times_23 : decode cX8_times 23 = .ok (.ldc2_w 79, 3) := by decide +kernel
theorem dX8_times_26 : decode cX8_times 26 = .ok (.lcmp, 1) := by decide +kernel
theorem dX8_times_27 : decode cX8_times 27 = .ok (.ifCond .eq 13, 3) := by decide +kernel
theorem dX8_times_30 : decode cX8_times 30 = .ok (.lload_n 0, 1) := by decide +kernel
theorem dX8_times_31 : decode cX8_times 31 = .ok (.ldc2_w 141, 3) := by decide +kernel
theorem dX8_times_34 : decode cX8_times 34 = .ok (.lload_n 2, 1) := by decide +kernel
theorem dX8_times_35 : decode cX8_times 35 = .ok (.ldiv, 1) := by decide +kernel
theorem dX8_times_36 : decode cX8_times 36 = .ok (.lcmp, 1) := by decide +kernel
theorem dX8_times_37 : decode cX8_times 37 = .ok (.ifCond .le 7, 3) := by decide +kernel
theorem dX8_times_40 : decode cX8_times 40 = .ok (.ldc2_w 79, 3) := by decide +kernel
theorem dX8_times_43 : decode cX8_times 43 = .ok (.lreturn, 1) := by decide +kernel
theorem dX8_times_44 : decode cX8_times 44 = .ok (.lload_n 0, 1) := by decide +kernel
theorem dX8_times_45 : decode cX8_times 45 = .ok (.lload_n 2, 1) := by decide +kernel
theorem dX8_times_46 : decode cX8_times 46 = .ok (.lmul, 1) := by decide +kernel
theorem dX8_times_47 : decode cX8_times 47 = .ok (.lreturn, 1) := by decide +kernel
theorem dX8_plus_0 : decode cX8_plus 0 = .ok (.lload_n 0, 1) := by decide +kernel
theorem dX8_plus_1 : decode cX8_plus 1 = .ok (.ldc2_w 79, 3) := by decide +kernel
theorem dX8_plus_4 : decode cX8_plus 4 = .ok (.lcmp, 1) := by decide +kernel
theorem dX8_plus_5 : decode cX8_plus 5 = .ok (.ifCond .eq 21, 3) := by decide +kernel
theorem dX8_plus_8 : decode cX8_plus 8 = .ok (.lload_n 2, 1) := by decide +kernel
theorem dX8_plus_9 : decode cX8_plus 9 = .ok (.ldc2_w 79, 3) := by decide +kernel
theorem dX8_plus_12 : decode cX8_plus 12 = .ok (.lcmp, 1) := by decide +kernel
theorem dX8_plus_13 : decode cX8_plus 13 = .ok (.ifCond .eq 13, 3) := by decide +kernel
theorem dX8_plus_16 : decode cX8_plus 16 = .ok (.lload_n 0, 1) := by decide +kernel
theorem dX8_plus_17 : decode cX8_plus 17 = .ok (.ldc2_w 141, 3) := by decide +kernel
theorem dX8_plus_20 : decode cX8_plus 20 = .ok (.lload_n 2, 1) := by decide +kernel
theorem dX8_plus_21 : decode cX8_plus 21 = .ok (.lsub, 1) := by decide +kernel
theorem dX8_plus_22 : decode cX8_plus 22 = .ok (.lcmp, 1) := by decide +kernel
theorem dX8_plus_23 : decode cX8_plus 23 = .ok (.ifCond .le 7, 3) := by decide +kernel
theorem dX8_plus_26 : decode cX8_plus 26 = .ok (.ldc2_w 79, 3) := by decide +kernel
theorem dX8_plus_29 : decode cX8_plus 29 = .ok (.lreturn, 1) := by decide +kernel
theorem dX8_plus_30 : decode cX8_plus 30 = .ok (.lload_n 0, 1) := by decide +kernel
theorem dX8_plus_31 : decode cX8_plus 31 = .ok (.lload_n 2, 1) := by decide +kernel
theorem dX8_plus_32 : decode cX8_plus 32 = .ok (.ladd, 1) := by decide +kernel
theorem dX8_plus_33 : decode cX8_plus 33 = .ok (.lreturn, 1) := by decide +kernel
theorem dX9_init_0 : decode cX9_init 0 = .ok (.aload_n 0, 1) := by decide +kernel
theorem dX9_init_1 : decode cX9_init 1 = .ok (.invokespecial 1, 3) := by decide +kernel
theorem dX9_init_4 : decode cX9_init 4 = .ok (.aload_n 0, 1) := by decide +kernel
theorem dX9_init_5 : decode cX9_init 5 = .ok (.bipush 40, 2) := by decide +kernel
theorem dX9_init_7 : decode cX9_init 7 = .ok (.newarray .int, 2) := by decide +kernel
theorem dX9_init_9 : decode cX9_init 9 = .ok (.putfield 7, 3) := by decide +kernel
theorem dX9_init_12 : decode cX9_init 12 = .ok (.aload_n 0, 1) := by decide +kernel
theorem dX9_init_13 : decode cX9_init 13 = .ok (.bipush 40, 2) := by decide +kernel
theorem dX9_init_15 : decode cX9_init 15 = .ok (.newarray .int, 2) := by decide +kernel
theorem dX9_init_17 : decode cX9_init 17 = .ok (.putfield 13, 3) := by decide +kernel
theorem dX9_init_20 : decode cX9_init 20 = .ok (.aload_n 0, 1) := by decide +kernel
theorem dX9_init_21 : decode cX9_init 21 = .ok (.bipush 40, 2) := by decide +kernel
theorem dX9_init_23 : decode cX9_init 23 = .ok (.newarray .int, 2) := by decide +kernel
theorem dX9_init_25 : decode cX9_init 25 = .ok (.putfield 16, 3) := by decide +kernel
theorem dX9_init_28 : decode cX9_init 28 = .ok (.aload_n 0, 1) := by decide +kernel
theorem dX9_init_29 : decode cX9_init 29 = .ok (.bipush 40, 2) := by decide +kernel
theorem dX9_init_31 : decode cX9_init 31 = .ok (.newarray .long, 2) := by decide +kernel
theorem dX9_init_33 : decode cX9_init 33 = .ok (.putfield 19, 3) := by decide +kernel
theorem dX9_init_36 : decode cX9_init 36 = .ok (.aload_n 0, 1) := by decide +kernel
theorem dX9_init_37 : decode cX9_init 37 = .ok (.bipush 40, 2) := by decide +kernel
theorem dX9_init_39 : decode cX9_init 39 = .ok (.newarray .long, 2) := by decide +kernel
theorem dX9_init_41 : decode cX9_init 41 = .ok (.putfield 23, 3) := by decide +kernel
theorem dX9_init_44 : decode cX9_init 44 = .ok (.aload_n 0, 1) := by decide +kernel
theorem dX9_init_45 : decode cX9_init 45 = .ok (.bipush 40, 2) := by decide +kernel
theorem dX9_init_47 : decode cX9_init 47 = .ok (.newarray .long, 2) := by decide +kernel
theorem dX9_init_49 : decode cX9_init 49 = .ok (.putfield 26, 3) := by decide +kernel
theorem dX9_init_52 : decode cX9_init 52 = .ok (.aload_n 0, 1) := by decide +kernel
theorem dX9_init_53 : decode cX9_init 53 = .ok (.bipush 40, 2) := by decide +kernel
theorem dX9_init_55 : decode cX9_init 55 = .ok (.newarray .int, 2) := by decide +kernel
theorem dX9_init_57 : decode cX9_init 57 = .ok (.putfield 29, 3) := by decide +kernel
theorem dX9_init_60 : decode cX9_init 60 = .ok (.aload_n 0, 1) := by decide +kernel
theorem dX9_init_61 : decode cX9_init 61 = .ok (.sipush 320, 3) := by decide +kernel
theorem dX9_init_64 : decode cX9_init 64 = .ok (.newarray .int, 2) := by decide +kernel
theorem dX9_init_66 : decode cX9_init 66 = .ok (.putfield 32, 3) := by decide +kernel
theorem dX9_init_69 : decode cX9_init 69 = .ok (.aload_n 0, 1) := by decide +kernel
theorem dX9_init_70 : decode cX9_init 70 = .ok (.sipush 320, 3) := by decide +kernel
theorem dX9_init_73 : decode cX9_init 73 = .ok (.newarray .boolean, 2) := by decide +kernel
theorem dX9_init_75 : decode cX9_init 75 = .ok (.putfield 35, 3) := by decide +kernel
theorem dX9_init_78 : decode cX9_init 78 = .ok (.aload_n 0, 1) := by decide +kernel
theorem dX9_init_79 : decode cX9_init 79 = .ok (.sipush 320, 3) := by decide +kernel
theorem dX9_init_82 : decode cX9_init 82 = .ok (.newarray .int, 2) := by decide +kernel
theorem dX9_init_84 : decode cX9_init 84 = .ok (.putfield 39, 3) := by decide +kernel
theorem dX9_init_87 : decode cX9_init 87 = .ok (.aload_n 0, 1) := by decide +kernel
theorem dX9_init_88 : decode cX9_init 88 = .ok (.bipush 8, 2) := by decide +kernel
theorem dX9_init_90 : decode cX9_init 90 = .ok (.newarray .long, 2) := by decide +kernel
theorem dX9_init_92 : decode cX9_init 92 = .ok (.putfield 42, 3) := by decide +kernel
theorem dX9_init_95 : decode cX9_init 95 = .ok (.aload_n 0, 1) := by decide +kernel
theorem dX9_init_96 : decode cX9_init 96 = .ok (.bipush 8, 2) := by decide +kernel
theorem dX9_init_98 : decode cX9_init 98 = .ok (.newarray .long, 2) := by decide +kernel
theorem dX9_init_100 : decode cX9_init 100 = .ok (.putfield 45, 3) := by decide +kernel
theorem dX9_init_103 : decode cX9_init 103 = .ok (.aload_n 0, 1) := by decide +kernel
theorem dX9_init_104 : decode cX9_init 104 = .ok (.bipush 6, 2) := by decide +kernel
theorem dX9_init_106 : decode cX9_init 106 = .ok (.newarray .int, 2) := by decide +kernel
theorem dX9_init_108 : decode cX9_init 108 = .ok (.putfield 48, 3) := by decide +kernel
theorem dX9_init_111 : decode cX9_init 111 = .ok (.aload_n 0, 1) := by decide +kernel
theorem dX9_init_112 : decode cX9_init 112 = .ok (.sipush 2400, 3) := by decide +kernel
theorem dX9_init_115 : decode cX9_init 115 = .ok (.newarray .int, 2) := by decide +kernel
theorem dX9_init_117 : decode cX9_init 117 = .ok (.putfield 51, 3) := by decide +kernel
theorem dX9_init_120 : decode cX9_init 120 = .ok (.return_, 1) := by decide +kernel
theorem dX9_in_0 : decode cX9_in 0 = .ok (.lload_n 0, 1) := by decide +kernel
theorem dX9_in_1 : decode cX9_in 1 = .ok (.lload_n 2, 1) := by decide +kernel
theorem dX9_in_2 : decode cX9_in 2 = .ok (.lcmp, 1) := by decide +kernel
theorem dX9_in_3 : decode cX9_in 3 = .ok (.ifCond .lt 14, 3) := by decide +kernel
theorem dX9_in_6 : decode cX9_in 6 = .ok (.lload_n 0, 1) := by decide +kernel
theorem dX9_in_7 : decode cX9_in 7 = .ok (.lload 4, 2) := by decide +kernel
theorem dX9_in_9 : decode cX9_in 9 = .ok (.lcmp, 1) := by decide +kernel
theorem dX9_in_10 : decode cX9_in 10 = .ok (.ifCond .gt 7, 3) := by decide +kernel
theorem dX9_in_13 : decode cX9_in 13 = .ok (.iconst 1, 1) := by decide +kernel
theorem dX9_in_14 : decode cX9_in 14 = .ok (.goto 4, 3) := by decide +kernel
theorem dX9_in_17 : decode cX9_in 17 = .ok (.iconst 0, 1) := by decide +kernel
theorem dX9_in_18 : decode cX9_in 18 = .ok (.ireturn, 1) := by decide +kernel
theorem dX9_noRange_0 : decode cX9_noRange 0 = .ok (.iload_n 1, 1) := by decide +kernel
theorem dX9_noRange_1 : decode cX9_noRange 1 = .ok (.i2l, 1) := by decide +kernel
theorem dX9_noRange_2 : decode cX9_noRange 2 = .ok (.lconst 0, 1) := by decide +kernel
theorem dX9_noRange_3 : decode cX9_noRange 3 = .ok (.aload_n 0, 1) := by decide +kernel
theorem dX9_noRange_4 : decode cX9_noRange 4 = .ok (.getfield 54, 3) := by decide +kernel
theorem dX9_noRange_7 : decode cX9_noRange 7 = .ok (.iconst 1, 1) := by decide +kernel
theorem dX9_noRange_8 : decode cX9_noRange 8 = .ok (.isub, 1) := by decide +kernel
theorem dX9_noRange_9 : decode cX9_noRange 9 = .ok (.i2l, 1) := by decide +kernel
theorem dX9_noRange_10 : decode cX9_noRange 10 = .ok (.invokestatic 58, 3) := by decide +kernel
theorem dX9_noRange_13 : decode cX9_noRange 13 = .ok (.ifCond .ne 7, 3) := by decide +kernel
theorem dX9_noRange_16 : decode cX9_noRange 16 = .ok (.iconst 1, 1) := by decide +kernel
theorem dX9_noRange_17 : decode cX9_noRange 17 = .ok (.goto 4, 3) := by decide +kernel
theorem dX9_noRange_20 : decode cX9_noRange 20 = .ok (.iconst 0, 1) := by decide +kernel
theorem dX9_noRange_21 : decode cX9_noRange 21 = .ok (.ireturn, 1) := by decide +kernel
theorem dX9_noArray_0 : decode cX9_noArray 0 = .ok (.iload_n 1, 1) := by decide +kernel
theorem dX9_noArray_1 : decode cX9_noArray 1 = .ok (.i2l, 1) := by decide +kernel
theorem dX9_noArray_2 : decode cX9_noArray 2 = .ok (.lconst 0, 1) := by decide +kernel
theorem dX9_noArray_3 : decode cX9_noArray 3 = .ok (.aload_n 0, 1) := by decide +kernel
theorem dX9_noArray_4 : decode cX9_noArray 4 = .ok (.getfield 62, 3) := by decide +kernel
theorem dX9_noArray_7 : decode cX9_noArray 7 = .ok (.iconst 1, 1) := by decide +kernel
theorem dX9_noArray_8 : decode cX9_noArray 8 = .ok (.isub, 1) := by decide +kernel
theorem dX9_noArray_9 : decode cX9_noArray 9 = .ok (.i2l, 1) := by decide +kernel
theorem dX9_noArray_10 : decode cX9_noArray 10 = .ok (.invokestatic 58, 3) := by decide +kernel
theorem dX9_noArray_13 : decode cX9_noArray 13 = .ok (.ifCond .ne 7, 3) := by decide +kernel
theorem dX9_noArray_16 : decode cX9_noArray 16 = .ok (.iconst 1, 1) := by decide +kernel
theorem dX9_noArray_17 : decode cX9_noArray 17 = .ok (.goto 4, 3) := by decide +kernel
theorem dX9_noArray_20 : decode cX9_noArray 20 = .ok (.iconst 0, 1) := by decide +kernel
theorem dX9_noArray_21 : decode cX9_noArray 21 = .ok (.ireturn, 1) := by decide +kernel
theorem dX9_thrown_0 : decode cX9_thrown 0 = .ok (.aload_n 0, 1) := by decide +kernel
theorem dX9_thrown_1 : decode cX9_thrown 1 = .ok (.getfield 65, 3) := by decide +kernel
theorem dX9_thrown_4 : decode cX9_thrown 4 = .ok (.ireturn, 1) := by decide +kernel
theorem dX9_stepsUp_0 : decode cX9_stepsUp 0 = .ok (.lload_n 2, 1) := by decide +kernel
theorem dX9_stepsUp_1 : decode cX9_stepsUp 1 = .ok (.lload_n 0, 1) := by decide +kernel
theorem dX9_stepsUp_2 : decode cX9_stepsUp 2 = .ok (.lsub, 1) := by decide +kernel
theorem dX9_stepsUp_3 : decode cX9_stepsUp 3 = .ok (.lstore 6, 2) := by decide +kernel
theorem dX9_stepsUp_5 : decode cX9_stepsUp 5 = .ok (.lload 6, 2) := by decide +kernel
theorem dX9_stepsUp_7 : decode cX9_stepsUp 7 = .ok (.lconst 0, 1) := by decide +kernel
theorem dX9_stepsUp_8 : decode cX9_stepsUp 8 = .ok (.lcmp, 1) := by decide +kernel
theorem dX9_stepsUp_9 : decode cX9_stepsUp 9 = .ok (.ifCond .lt 9, 3) := by decide +kernel
theorem dX9_stepsUp_12 : decode cX9_stepsUp 12 = .ok (.lload 6, 2) := by decide +kernel
theorem dX9_stepsUp_14 : decode cX9_stepsUp 14 = .ok (.lload 4, 2) := by decide +kernel
theorem dX9_stepsUp_16 : decode cX9_stepsUp 16 = .ok (.ldiv, 1) := by decide +kernel
theorem dX9_stepsUp_17 : decode cX9_stepsUp 17 = .ok (.lreturn, 1) := by decide +kernel
theorem dX9_stepsUp_18 : decode cX9_stepsUp 18 = .ok (.lload 4, 2) := by decide +kernel
theorem dX9_stepsUp_20 : decode cX9_stepsUp 20 = .ok (.lconst 1, 1) := by decide +kernel
theorem dX9_stepsUp_21 : decode cX9_stepsUp 21 = .ok (.lcmp, 1) := by decide +kernel
theorem dX9_stepsUp_22 : decode cX9_stepsUp 22 = .ok (.ifCond .ne 7, 3) := by decide +kernel
theorem dX9_stepsUp_25 : decode cX9_stepsUp 25 = .ok (.ldc2_w 68, 3) := by decide +kernel
theorem dX9_stepsUp_28 : decode cX9_stepsUp 28 = .ok (.lreturn, 1) := by decide +kernel
theorem dX9_stepsUp_29 : decode cX9_stepsUp 29 = .ok (.lload 6, 2) := by decide +kernel
theorem dX9_stepsUp_31 : decode cX9_stepsUp 31 = .ok (.iconst 1, 1) := by decide +kernel
theorem dX9_stepsUp_32 : decode cX9_stepsUp 32 = .ok (.lushr, 1) := by decide +kernel
theorem dX9_stepsUp_33 : decode cX9_stepsUp 33 = .ok (.lload 4, 2) := by decide +kernel
theorem dX9_stepsUp_35 : decode cX9_stepsUp 35 = .ok (.ldiv, 1) := by decide +kernel
theorem dX9_stepsUp_36 : decode cX9_stepsUp 36 = .ok (.lstore 8, 2) := by decide +kernel
theorem dX9_stepsUp_38 : decode cX9_stepsUp 38 = .ok (.ldc2_w 70, 3) := by decide +kernel
theorem dX9_stepsUp_41 : decode cX9_stepsUp 41 = .ok (.lload 8, 2) := by decide +kernel
theorem dX9_stepsUp_43 : decode cX9_stepsUp 43 = .ok (.lmul, 1) := by decide +kernel
theorem dX9_stepsUp_44 : decode cX9_stepsUp 44 = .ok (.lstore 10, 2) := by decide +kernel
theorem dX9_stepsUp_46 : decode cX9_stepsUp 46 = .ok (.lload 6, 2) := by decide +kernel
theorem dX9_stepsUp_48 : decode cX9_stepsUp 48 = .ok (.lload 10, 2) := by decide +kernel
theorem dX9_stepsUp_50 : decode cX9_stepsUp 50 = .ok (.lload 4, 2) := by decide +kernel
theorem dX9_stepsUp_52 : decode cX9_stepsUp 52 = .ok (.lmul, 1) := by decide +kernel
theorem dX9_stepsUp_53 : decode cX9_stepsUp 53 = .ok (.lsub, 1) := by decide +kernel
theorem dX9_stepsUp_54 : decode cX9_stepsUp 54 = .ok (.lstore 12, 2) := by decide +kernel
theorem dX9_stepsUp_56 : decode cX9_stepsUp 56 = .ok (.lload 12, 2) := by decide +kernel
theorem dX9_stepsUp_58 : decode cX9_stepsUp 58 = .ok (.lconst 0, 1) := by decide +kernel
theorem dX9_stepsUp_59 : decode cX9_stepsUp 59 = .ok (.lcmp, 1) := by decide +kernel
theorem dX9_stepsUp_60 : decode cX9_stepsUp 60 = .ok (.ifCond .lt 11, 3) := by decide +kernel
theorem dX9_stepsUp_63 : decode cX9_stepsUp 63 = .ok (.lload 12, 2) := by decide +kernel
theorem dX9_stepsUp_65 : decode cX9_stepsUp 65 = .ok (.lload 4, 2) := by decide +kernel
theorem dX9_stepsUp_67 : decode cX9_stepsUp 67 = .ok (.lcmp, 1) := by decide +kernel
theorem dX9_stepsUp_68 : decode cX9_stepsUp 68 = .ok (.ifCond .lt 19, 3) := by decide +kernel
theorem dX9_stepsUp_71 : decode cX9_stepsUp 71 = .ok (.lload 10, 2) := by decide +kernel
theorem dX9_stepsUp_73 : decode cX9_stepsUp 73 = .ok (.lconst 1, 1) := by decide +kernel
theorem dX9_stepsUp_74 : decode cX9_stepsUp 74 = .ok (.ladd, 1) := by decide +kernel
theorem dX9_stepsUp_75 : decode cX9_stepsUp 75 = .ok (.lstore 10, 2) := by decide +kernel
theorem dX9_stepsUp_77 : decode cX9_stepsUp 77 = .ok (.lload 12, 2) := by decide +kernel
theorem dX9_stepsUp_79 : decode cX9_stepsUp 79 = .ok (.lload 4, 2) := by decide +kernel
theorem dX9_stepsUp_81 : decode cX9_stepsUp 81 = .ok (.lsub, 1) := by decide +kernel
theorem dX9_stepsUp_82 : decode cX9_stepsUp 82 = .ok (.lstore 12, 2) := by decide +kernel
theorem dX9_stepsUp_84 : decode cX9_stepsUp 84 = .ok (.goto (-28), 3) := by decide +kernel
theorem dX9_stepsUp_87 : decode cX9_stepsUp 87 = .ok (.lload 10, 2) := by decide +kernel
theorem dX9_stepsUp_89 : decode cX9_stepsUp 89 = .ok (.lreturn, 1) := by decide +kernel
theorem dX9_singleSize_0 : decode cX9_singleSize 0 = .ok (.aload_n 0, 1) := by decide +kernel
theorem dX9_singleSize_1 : decode cX9_singleSize 1 = .ok (.getfield 7, 3) := by decide +kernel
theorem dX9_singleSize_4 : decode cX9_singleSize 4 = .ok (.iload_n 1, 1) := by decide +kernel
theorem dX9_singleSize_5 : decode cX9_singleSize 5 = .ok (.iaload, 1) := by decide +kernel
theorem dX9_singleSize_6 : decode cX9_singleSize 6 = .ok (.iconst 2, 1) := by decide +kernel
theorem dX9_singleSize_7 : decode cX9_singleSize 7 = .ok (.if_icmp .ne 61, 3) := by decide +kernel
theorem dX9_singleSize_10 : decode cX9_singleSize 10 = .ok (.aload_n 0, 1) := by decide +kernel
theorem dX9_singleSize_11 : decode cX9_singleSize 11 = .ok (.getfield 26, 3) := by decide +kernel
theorem dX9_singleSize_14 : decode cX9_singleSize 14 = .ok (.iload_n 1, 1) := by decide +kernel
theorem dX9_singleSize_15 : decode cX9_singleSize 15 = .ok (.laload, 1) := by decide +kernel
theorem dX9_singleSize_16 : decode cX9_singleSize 16 = .ok (.aload_n 0, 1) := by decide +kernel
theorem dX9_singleSize_17 : decode cX9_singleSize 17 = .ok (.getfield 23, 3) := by decide +kernel
theorem dX9_singleSize_20 : decode cX9_singleSize 20 = .ok (.iload_n 1, 1) := by decide +kernel
theorem dX9_singleSize_21 : decode cX9_singleSize 21 = .ok (.laload, 1) := by decide +kernel
theorem dX9_singleSize_22 : decode cX9_singleSize 22 = .ok (.lcmp, 1) := by decide +kernel
theorem dX9_singleSize_23 : decode cX9_singleSize 23 = .ok (.ifCond .lt 21, 3) := by decide +kernel
theorem dX9_singleSize_26 : decode cX9_singleSize 26 = .ok (.aload_n 0, 1) := by decide +kernel
theorem dX9_singleSize_27 : decode cX9_singleSize 27 = .ok (.getfield 26, 3) := by decide +kernel
theorem dX9_singleSize_30 : decode cX9_singleSize 30 = .ok (.iload_n 1, 1) := by decide +kernel
theorem dX9_singleSize_31 : decode cX9_singleSize 31 = .ok (.laload, 1) := by decide +kernel
theorem dX9_singleSize_32 : decode cX9_singleSize 32 = .ok (.aload_n 0, 1) := by decide +kernel
theorem dX9_singleSize_33 : decode cX9_singleSize 33 = .ok (.getfield 23, 3) := by decide +kernel
theorem dX9_singleSize_36 : decode cX9_singleSize 36 = .ok (.iload_n 1, 1) := by decide +kernel
theorem dX9_singleSize_37 : decode cX9_singleSize 37 = .ok (.laload, 1) := by decide +kernel
theorem dX9_singleSize_38 : decode cX9_singleSize 38 = .ok (.lsub, 1) := by decide +kernel
theorem dX9_singleSize_39 : decode cX9_singleSize 39 = .ok (.lconst 1, 1) := by decide +kernel
theorem dX9_singleSize_40 : decode cX9_singleSize 40 = .ok (.ladd, 1) := by decide +kernel
theorem dX9_singleSize_41 : decode cX9_singleSize 41 = .ok (.goto 26, 3) := by decide +kernel
theorem dX9_singleSize_44 : decode cX9_singleSize 44 = .ok (.aload_n 0, 1) := by decide +kernel
theorem dX9_singleSize_45 : decode cX9_singleSize 45 = .ok (.getfield 29, 3) := by decide +kernel
theorem dX9_singleSize_48 : decode cX9_singleSize 48 = .ok (.iload_n 1, 1) := by decide +kernel
theorem dX9_singleSize_49 : decode cX9_singleSize 49 = .ok (.iaload, 1) := by decide +kernel
theorem dX9_singleSize_50 : decode cX9_singleSize 50 = .ok (.i2l, 1) := by decide +kernel
theorem dX9_singleSize_51 : decode cX9_singleSize 51 = .ok (.aload_n 0, 1) := by decide +kernel
theorem dX9_singleSize_52 : decode cX9_singleSize 52 = .ok (.getfield 23, 3) := by decide +kernel
theorem dX9_singleSize_55 : decode cX9_singleSize 55 = .ok (.iload_n 1, 1) := by decide +kernel
theorem dX9_singleSize_56 : decode cX9_singleSize 56 = .ok (.laload, 1) := by decide +kernel
theorem dX9_singleSize_57 : decode cX9_singleSize 57 = .ok (.lsub, 1) := by decide +kernel
theorem dX9_singleSize_58 : decode cX9_singleSize 58 = .ok (.aload_n 0, 1) := by decide +kernel
theorem dX9_singleSize_59 : decode cX9_singleSize 59 = .ok (.getfield 26, 3) := by decide +kernel
theorem dX9_singleSize_62 : decode cX9_singleSize 62 = .ok (.iload_n 1, 1) := by decide +kernel
theorem dX9_singleSize_63 : decode cX9_singleSize 63 = .ok (.laload, 1) := by decide +kernel
theorem dX9_singleSize_64 : decode cX9_singleSize 64 = .ok (.ladd, 1) := by decide +kernel
theorem dX9_singleSize_65 : decode cX9_singleSize 65 = .ok (.lconst 1, 1) := by decide +kernel
theorem dX9_singleSize_66 : decode cX9_singleSize 66 = .ok (.ladd, 1) := by decide +kernel
theorem dX9_singleSize_67 : decode cX9_singleSize 67 = .ok (.lreturn, 1) := by decide +kernel
theorem dX9_singleSize_68 : decode cX9_singleSize 68 = .ok (.aload_n 0, 1) := by decide +kernel
theorem dX9_singleSize_69 : decode cX9_singleSize 69 = .ok (.getfield 29, 3) := by decide +kernel
theorem dX9_singleSize_72 : decode cX9_singleSize 72 = .ok (.iload_n 1, 1) := by decide +kernel
theorem dX9_singleSize_73 : decode cX9_singleSize 73 = .ok (.iaload, 1) := by decide +kernel
theorem dX9_singleSize_74 : decode cX9_singleSize 74 = .ok (.ifCond .le 7, 3) := by decide +kernel
theorem dX9_singleSize_77 : decode cX9_singleSize 77 = .ok (.iconst 1, 1) := by decide +kernel
theorem dX9_singleSize_78 : decode cX9_singleSize 78 = .ok (.goto 4, 3) := by decide +kernel
theorem dX9_singleSize_81 : decode cX9_singleSize 81 = .ok (.iconst 0, 1) := by decide +kernel
theorem dX9_singleSize_82 : decode cX9_singleSize 82 = .ok (.istore_n 2, 1) := by decide +kernel
theorem dX9_singleSize_83 : decode cX9_singleSize 83 = .ok (.iload_n 2, 1) := by decide +kernel
theorem dX9_singleSize_84 : decode cX9_singleSize 84 = .ok (.ifCond .eq 12, 3) := by decide +kernel
theorem dX9_singleSize_87 : decode cX9_singleSize 87 = .ok (.aload_n 0, 1) := by decide +kernel
theorem dX9_singleSize_88 : decode cX9_singleSize 88 = .ok (.getfield 23, 3) := by decide +kernel
theorem dX9_singleSize_91 : decode cX9_singleSize 91 = .ok (.iload_n 1, 1) := by decide +kernel
theorem dX9_singleSize_92 : decode cX9_singleSize 92 = .ok (.laload, 1) := by decide +kernel
theorem dX9_singleSize_93 : decode cX9_singleSize 93 = .ok (.goto 9, 3) := by decide +kernel
theorem dX9_singleSize_96 : decode cX9_singleSize 96 = .ok (.aload_n 0, 1) := by decide +kernel
theorem dX9_singleSize_97 : decode cX9_singleSize 97 = .ok (.getfield 26, 3) := by decide +kernel
theorem dX9_singleSize_100 : decode cX9_singleSize 100 = .ok (.iload_n 1, 1) := by decide +kernel
theorem dX9_singleSize_101 : decode cX9_singleSize 101 = .ok (.laload, 1) := by decide +kernel
theorem dX9_singleSize_102 : decode cX9_singleSize 102 = .ok (.lstore_n 3, 1) := by decide +kernel
theorem dX9_singleSize_103 : decode cX9_singleSize 103 = .ok (.iload_n 2, 1) := by decide +kernel
theorem dX9_singleSize_104 : decode cX9_singleSize 104 = .ok (.ifCond .eq 12, 3) := by decide +kernel
theorem dX9_singleSize_107 : decode cX9_singleSize 107 = .ok (.aload_n 0, 1) := by decide +kernel
theorem dX9_singleSize_108 : decode cX9_singleSize 108 = .ok (.getfield 26, 3) := by decide +kernel
theorem dX9_singleSize_111 : decode cX9_singleSize 111 = .ok (.iload_n 1, 1) := by decide +kernel
theorem dX9_singleSize_112 : decode cX9_singleSize 112 = .ok (.laload, 1) := by decide +kernel
theorem dX9_singleSize_113 : decode cX9_singleSize 113 = .ok (.goto 9, 3) := by decide +kernel
theorem dX9_singleSize_116 : decode cX9_singleSize 116 = .ok (.aload_n 0, 1) := by decide +kernel
theorem dX9_singleSize_117 : decode cX9_singleSize 117 = .ok (.getfield 23, 3) := by decide +kernel
theorem dX9_singleSize_120 : decode cX9_singleSize 120 = .ok (.iload_n 1, 1) := by decide +kernel
theorem dX9_singleSize_121 : decode cX9_singleSize 121 = .ok (.laload, 1) := by decide +kernel
theorem dX9_singleSize_122 : decode cX9_singleSize 122 = .ok (.lstore 5, 2) := by decide +kernel
theorem dX9_singleSize_124 : decode cX9_singleSize 124 = .ok (.lload 5, 2) := by decide +kernel
theorem dX9_singleSize_126 : decode cX9_singleSize 126 = .ok (.lload_n 3, 1) := by decide +kernel
theorem dX9_singleSize_127 : decode cX9_singleSize 127 = .ok (.lcmp, 1) := by decide +kernel
theorem dX9_singleSize_128 : decode cX9_singleSize 128 = .ok (.ifCond .ge 5, 3) := by decide +kernel
theorem dX9_singleSize_131 : decode cX9_singleSize 131 = .ok (.lconst 0, 1) := by decide +kernel
theorem dX9_singleSize_132 : decode cX9_singleSize 132 = .ok (.lreturn, 1) := by decide +kernel
theorem dX9_singleSize_133 : decode cX9_singleSize 133 = .ok (.lload_n 3, 1) := by decide +kernel
theorem dX9_singleSize_134 : decode cX9_singleSize 134 = .ok (.lload 5, 2) := by decide +kernel
theorem dX9_singleSize_136 : decode cX9_singleSize 136 = .ok (.iload_n 2, 1) := by decide +kernel
theorem dX9_singleSize_137 : decode cX9_singleSize 137 = .ok (.ifCond .eq 13, 3) := by decide +kernel
theorem dX9_singleSize_140 : decode cX9_singleSize 140 = .ok (.aload_n 0, 1) := by decide +kernel
theorem dX9_singleSize_141 : decode cX9_singleSize 141 = .ok (.getfield 29, 3) := by decide +kernel
theorem dX9_singleSize_144 : decode cX9_singleSize 144 = .ok (.iload_n 1, 1) := by decide +kernel
theorem dX9_singleSize_145 : decode cX9_singleSize 145 = .ok (.iaload, 1) := by decide +kernel
theorem dX9_singleSize_146 : decode cX9_singleSize 146 = .ok (.i2l, 1) := by decide +kernel
theorem dX9_singleSize_147 : decode cX9_singleSize 147 = .ok (.goto 11, 3) := by decide +kernel
theorem dX9_singleSize_150 : decode cX9_singleSize 150 = .ok (.aload_n 0, 1) := by decide +kernel
theorem dX9_singleSize_151 : decode cX9_singleSize 151 = .ok (.getfield 29, 3) := by decide +kernel
theorem dX9_singleSize_154 : decode cX9_singleSize 154 = .ok (.iload_n 1, 1) := by decide +kernel
theorem dX9_singleSize_155 : decode cX9_singleSize 155 = .ok (.iaload, 1) := by decide +kernel
theorem dX9_singleSize_156 : decode cX9_singleSize 156 = .ok (.i2l, 1) := by decide +kernel
theorem dX9_singleSize_157 : decode cX9_singleSize 157 = .ok (.lneg, 1) := by decide +kernel
theorem dX9_singleSize_158 : decode cX9_singleSize 158 = .ok (.invokestatic 72, 3) := by decide +kernel
theorem dX9_singleSize_161 : decode cX9_singleSize 161 = .ok (.lstore 7, 2) := by decide +kernel
theorem dX9_singleSize_163 : decode cX9_singleSize 163 = .ok (.lload 7, 2) := by decide +kernel
theorem dX9_singleSize_165 : decode cX9_singleSize 165 = .ok (.lconst 0, 1) := by decide +kernel
theorem dX9_singleSize_166 : decode cX9_singleSize 166 = .ok (.lcmp, 1) := by decide +kernel
theorem dX9_singleSize_167 : decode cX9_singleSize 167 = .ok (.ifCond .lt 12, 3) := by decide +kernel
theorem dX9_singleSize_170 : decode cX9_singleSize 170 = .ok (.lload 7, 2) := by decide +kernel
theorem dX9_singleSize_172 : decode cX9_singleSize 172 = .ok (.ldc2_w 76, 3) := by decide +kernel
theorem dX9_singleSize_175 : decode cX9_singleSize 175 = .ok (.lcmp, 1) := by decide +kernel
theorem dX9_singleSize_176 : decode cX9_singleSize 176 = .ok (.ifCond .ne 9, 3) := by decide +kernel
theorem dX9_singleSize_179 : decode cX9_singleSize 179 = .ok (.ldc2_w 68, 3) := by decide +kernel
theorem dX9_singleSize_182 : decode cX9_singleSize 182 = .ok (.goto 7, 3) := by decide +kernel
theorem dX9_singleSize_185 : decode cX9_singleSize 185 = .ok (.lload 7, 2) := by decide +kernel
theorem dX9_singleSize_187 : decode cX9_singleSize 187 = .ok (.lconst 1, 1) := by decide +kernel
theorem dX9_singleSize_188 : decode cX9_singleSize 188 = .ok (.ladd, 1) := by decide +kernel
theorem dX9_singleSize_189 : decode cX9_singleSize 189 = .ok (.lreturn, 1) := by decide +kernel
theorem dX9_addSingle_0 : decode cX9_addSingle 0 = .ok (.aload_n 0, 1) := by decide +kernel
theorem dX9_addSingle_1 : decode cX9_addSingle 1 = .ok (.getfield 54, 3) := by decide +kernel
theorem dX9_addSingle_4 : decode cX9_addSingle 4 = .ok (.bipush 40, 2) := by decide +kernel
theorem dX9_addSingle_6 : decode cX9_addSingle 6 = .ok (.if_icmp .ne 6, 3) := by decide +kernel
theorem dX9_addSingle_9 : decode cX9_addSingle 9 = .ok (.bipush (-104), 2) := by decide +kernel
theorem dX9_addSingle_11 : decode cX9_addSingle 11 = .ok (.ireturn, 1) := by decide +kernel
theorem dX9_addSingle_12 : decode cX9_addSingle 12 = .ok (.aload_n 0, 1) := by decide +kernel
theorem dX9_addSingle_13 : decode cX9_addSingle 13 = .ok (.getfield 54, 3) := by decide +kernel
theorem dX9_addSingle_16 : decode cX9_addSingle 16 = .ok (.istore 7, 2) := by decide +kernel
theorem dX9_addSingle_18 : decode cX9_addSingle 18 = .ok (.aload_n 0, 1) := by decide +kernel
theorem dX9_addSingle_19 : decode cX9_addSingle 19 = .ok (.getfield 7, 3) := by decide +kernel
theorem dX9_addSingle_22 : decode cX9_addSingle 22 = .ok (.iload 7, 2) := by decide +kernel
theorem dX9_addSingle_24 : decode cX9_addSingle 24 = .ok (.iload_n 1, 1) := by decide +kernel
theorem dX9_addSingle_25 : decode cX9_addSingle 25 = .ok (.iastore, 1) := by decide +kernel
theorem dX9_addSingle_26 : decode cX9_addSingle 26 = .ok (.aload_n 0, 1) := by decide +kernel
theorem dX9_addSingle_27 : decode cX9_addSingle 27 = .ok (.getfield 13, 3) := by decide +kernel
theorem dX9_addSingle_30 : decode cX9_addSingle 30 = .ok (.iload 7, 2) := by decide +kernel
theorem dX9_addSingle_32 : decode cX9_addSingle 32 = .ok (.iconst 0, 1) := by decide +kernel
theorem dX9_addSingle_33 : decode cX9_addSingle 33 = .ok (.iastore, 1) := by decide +kernel
theorem dX9_addSingle_34 : decode cX9_addSingle 34 = .ok (.aload_n 0, 1) := by decide +kernel
theorem dX9_addSingle_35 : decode cX9_addSingle 35 = .ok (.getfield 16, 3) := by decide +kernel
theorem dX9_addSingle_38 : decode cX9_addSingle 38 = .ok (.iload 7, 2) := by decide +kernel
theorem dX9_addSingle_40 : decode cX9_addSingle 40 = .ok (.iconst 1, 1) := by decide +kernel
theorem dX9_addSingle_41 : decode cX9_addSingle 41 = .ok (.iastore, 1) := by decide +kernel
theorem dX9_addSingle_42 : decode cX9_addSingle 42 = .ok (.aload_n 0, 1) := by decide +kernel
theorem dX9_addSingle_43 : decode cX9_addSingle 43 = .ok (.getfield 23, 3) := by decide +kernel
theorem dX9_addSingle_46 : decode cX9_addSingle 46 = .ok (.iload 7, 2) := by decide +kernel
theorem dX9_addSingle_48 : decode cX9_addSingle 48 = .ok (.lload_n 2, 1) := by decide +kernel
theorem dX9_addSingle_49 : decode cX9_addSingle 49 = .ok (.lastore, 1) := by decide +kernel
theorem dX9_addSingle_50 : decode cX9_addSingle 50 = .ok (.aload_n 0, 1) := by decide +kernel
theorem dX9_addSingle_51 : decode cX9_addSingle 51 = .ok (.getfield 26, 3) := by decide +kernel
theorem dX9_addSingle_54 : decode cX9_addSingle 54 = .ok (.iload 7, 2) := by decide +kernel
theorem dX9_addSingle_56 : decode cX9_addSingle 56 = .ok (.lload 4, 2) := by decide +kernel
theorem dX9_addSingle_58 : decode cX9_addSingle 58 = .ok (.lastore, 1) := by decide +kernel
theorem dX9_addSingle_59 : decode cX9_addSingle 59 = .ok (.aload_n 0, 1) := by decide +kernel
theorem dX9_addSingle_60 : decode cX9_addSingle 60 = .ok (.getfield 29, 3) := by decide +kernel
theorem dX9_addSingle_63 : decode cX9_addSingle 63 = .ok (.iload 7, 2) := by decide +kernel
theorem dX9_addSingle_65 : decode cX9_addSingle 65 = .ok (.iload 6, 2) := by decide +kernel
theorem dX9_addSingle_67 : decode cX9_addSingle 67 = .ok (.iastore, 1) := by decide +kernel
theorem dX9_addSingle_68 : decode cX9_addSingle 68 = .ok (.aload_n 0, 1) := by decide +kernel
theorem dX9_addSingle_69 : decode cX9_addSingle 69 = .ok (.getfield 32, 3) := by decide +kernel
theorem dX9_addSingle_72 : decode cX9_addSingle 72 = .ok (.bipush 8, 2) := by decide +kernel
theorem dX9_addSingle_74 : decode cX9_addSingle 74 = .ok (.iload 7, 2) := by decide +kernel
theorem dX9_addSingle_76 : decode cX9_addSingle 76 = .ok (.imul, 1) := by decide +kernel
theorem dX9_addSingle_77 : decode cX9_addSingle 77 = .ok (.iload 7, 2) := by decide +kernel
theorem dX9_addSingle_79 : decode cX9_addSingle 79 = .ok (.iastore, 1) := by decide +kernel
theorem dX9_addSingle_80 : decode cX9_addSingle 80 = .ok (.aload_n 0, 1) := by decide +kernel
theorem dX9_addSingle_81 : decode cX9_addSingle 81 = .ok (.getfield 35, 3) := by decide +kernel
theorem dX9_addSingle_84 : decode cX9_addSingle 84 = .ok (.bipush 8, 2) := by decide +kernel
theorem dX9_addSingle_86 : decode cX9_addSingle 86 = .ok (.iload 7, 2) := by decide +kernel
theorem dX9_addSingle_88 : decode cX9_addSingle 88 = .ok (.imul, 1) := by decide +kernel
theorem dX9_addSingle_89 : decode cX9_addSingle 89 = .ok (.iconst 0, 1) := by decide +kernel
theorem dX9_addSingle_90 : decode cX9_addSingle 90 = .ok (.bastore, 1) := by decide +kernel
theorem dX9_addSingle_91 : decode cX9_addSingle 91 = .ok (.aload_n 0, 1) := by decide +kernel
theorem dX9_addSingle_92 : decode cX9_addSingle 92 = .ok (.getfield 39, 3) := by decide +kernel
theorem dX9_addSingle_95 : decode cX9_addSingle 95 = .ok (.bipush 8, 2) := by decide +kernel
theorem dX9_addSingle_97 : decode cX9_addSingle 97 = .ok (.iload 7, 2) := by decide +kernel
theorem dX9_addSingle_99 : decode cX9_addSingle 99 = .ok (.imul, 1) := by decide +kernel
theorem dX9_addSingle_100 : decode cX9_addSingle 100 = .ok (.iconst 0, 1) := by decide +kernel
theorem dX9_addSingle_101 : decode cX9_addSingle 101 = .ok (.iastore, 1) := by decide +kernel
theorem dX9_addSingle_102 : decode cX9_addSingle 102 = .ok (.aload_n 0, 1) := by decide +kernel
theorem dX9_addSingle_103 : decode cX9_addSingle 103 = .ok (.getfield 19, 3) := by decide +kernel
theorem dX9_addSingle_106 : decode cX9_addSingle 106 = .ok (.iload 7, 2) := by decide +kernel
theorem dX9_addSingle_108 : decode cX9_addSingle 108 = .ok (.aload_n 0, 1) := by decide +kernel
theorem dX9_addSingle_109 : decode cX9_addSingle 109 = .ok (.iload 7, 2) := by decide +kernel
theorem dX9_addSingle_111 : decode cX9_addSingle 111 = .ok (.invokevirtual 78, 3) := by decide +kernel
theorem dX9_addSingle_114 : decode cX9_addSingle 114 = .ok (.lastore, 1) := by decide +kernel
theorem dX9_addSingle_115 : decode cX9_addSingle 115 = .ok (.aload_n 0, 1) := by decide +kernel
theorem dX9_addSingle_116 : decode cX9_addSingle 116 = .ok (.dup, 1) := by decide +kernel
theorem dX9_addSingle_117 : decode cX9_addSingle 117 = .ok (.getfield 54, 3) := by decide +kernel
theorem dX9_addSingle_120 : decode cX9_addSingle 120 = .ok (.iconst 1, 1) := by decide +kernel
theorem dX9_addSingle_121 : decode cX9_addSingle 121 = .ok (.iadd, 1) := by decide +kernel
theorem dX9_addSingle_122 : decode cX9_addSingle 122 = .ok (.putfield 54, 3) := by decide +kernel
theorem dX9_addSingle_125 : decode cX9_addSingle 125 = .ok (.iload 7, 2) := by decide +kernel
theorem dX9_addSingle_127 : decode cX9_addSingle 127 = .ok (.ireturn, 1) := by decide +kernel
theorem dX9_wholes_0 : decode cX9_wholes 0 = .ok (.aload_n 0, 1) := by decide +kernel
theorem dX9_wholes_1 : decode cX9_wholes 1 = .ok (.iconst 0, 1) := by decide +kernel
theorem dX9_wholes_2 : decode cX9_wholes 2 = .ok (.lload_n 1, 1) := by decide +kernel
theorem dX9_wholes_3 : decode cX9_wholes 3 = .ok (.lload_n 3, 1) := by decide +kernel
theorem dX9_wholes_4 : decode cX9_wholes 4 = .ok (.iconst 1, 1) := by decide +kernel
theorem dX9_wholes_5 : decode cX9_wholes 5 = .ok (.invokevirtual 82, 3) := by decide +kernel
theorem dX9_wholes_8 : decode cX9_wholes 8 = .ok (.ireturn, 1) := by decide +kernel
theorem dX9_signs_0 : decode cX9_signs 0 = .ok (.iload_n 1, 1) := by decide +kernel
theorem dX9_signs_1 : decode cX9_signs 1 = .ok (.i2l, 1) := by decide +kernel
theorem dX9_signs_2 : decode cX9_signs 2 = .ok (.lconst 0, 1) := by decide +kernel
theorem dX9_signs_3 : decode cX9_signs 3 = .ok (.ldc2_w 86, 3) := by decide +kernel
theorem dX9_signs_6 : decode cX9_signs 6 = .ok (.invokestatic 58, 3) := by decide +kernel
theorem dX9_signs_9 : decode cX9_signs 9 = .ok (.ifCond .eq 28, 3) := by decide +kernel
theorem dX9_signs_12 : decode cX9_signs 12 = .ok (.iload_n 2, 1) := by decide +kernel
theorem dX9_signs_13 : decode cX9_signs 13 = .ok (.i2l, 1) := by decide +kernel
theorem dX9_signs_14 : decode cX9_signs 14 = .ok (.lconst 0, 1) := by decide +kernel
theorem dX9_signs_15 : decode cX9_signs 15 = .ok (.ldc2_w 86, 3) := by decide +kernel
theorem dX9_signs_18 : decode cX9_signs 18 = .ok (.invokestatic 58, 3) := by decide +kernel
theorem dX9_signs_21 : decode cX9_signs 21 = .ok (.ifCond .eq 16, 3) := by decide +kernel
theorem dX9_signs_24 : decode cX9_signs 24 = .ok (.aload_n 0, 1) := by decide +kernel
theorem dX9_signs_25 : decode cX9_signs 25 = .ok (.iconst 1, 1) := by decide +kernel
theorem dX9_signs_26 : decode cX9_signs 26 = .ok (.iload_n 1, 1) := by decide +kernel
theorem dX9_signs_27 : decode cX9_signs 27 = .ok (.i2l, 1) := by decide +kernel
theorem dX9_signs_28 : decode cX9_signs 28 = .ok (.iload_n 2, 1) := by decide +kernel
theorem dX9_signs_29 : decode cX9_signs 29 = .ok (.i2l, 1) := by decide +kernel
theorem dX9_signs_30 : decode cX9_signs 30 = .ok (.iconst 1, 1) := by decide +kernel
theorem dX9_signs_31 : decode cX9_signs 31 = .ok (.invokevirtual 82, 3) := by decide +kernel
theorem dX9_signs_34 : decode cX9_signs 34 = .ok (.goto 5, 3) := by decide +kernel
theorem dX9_signs_37 : decode cX9_signs 37 = .ok (.bipush (-102), 2) := by decide +kernel
theorem dX9_signs_39 : decode cX9_signs 39 = .ok (.ireturn, 1) := by decide +kernel
theorem dX9_names_0 : decode cX9_names 0 = .ok (.iload_n 1, 1) := by decide +kernel
theorem dX9_names_1 : decode cX9_names 1 = .ok (.i2l, 1) := by decide +kernel
theorem dX9_names_2 : decode cX9_names 2 = .ok (.lconst 1, 1) := by decide +kernel
theorem dX9_names_3 : decode cX9_names 3 = .ok (.ldc2_w 88, 3) := by decide +kernel
theorem dX9_names_6 : decode cX9_names 6 = .ok (.invokestatic 58, 3) := by decide +kernel
theorem dX9_names_9 : decode cX9_names 9 = .ok (.ifCond .eq 42, 3) := by decide +kernel
theorem dX9_names_12 : decode cX9_names 12 = .ok (.iload_n 2, 1) := by decide +kernel
theorem dX9_names_13 : decode cX9_names 13 = .ok (.i2l, 1) := by decide +kernel
theorem dX9_names_14 : decode cX9_names 14 = .ok (.lconst 0, 1) := by decide +kernel
theorem dX9_names_15 : decode cX9_names 15 = .ok (.iload_n 1, 1) := by decide +kernel
theorem dX9_names_16 : decode cX9_names 16 = .ok (.iconst 1, 1) := by decide +kernel
theorem dX9_names_17 : decode cX9_names 17 = .ok (.isub, 1) := by decide +kernel
theorem dX9_names_18 : decode cX9_names 18 = .ok (.i2l, 1) := by decide +kernel
theorem dX9_names_19 : decode cX9_names 19 = .ok (.invokestatic 58, 3) := by decide +kernel
theorem dX9_names_22 : decode cX9_names 22 = .ok (.ifCond .eq 29, 3) := by decide +kernel
theorem dX9_names_25 : decode cX9_names 25 = .ok (.iload_n 3, 1) := by decide +kernel
theorem dX9_names_26 : decode cX9_names 26 = .ok (.i2l, 1) := by decide +kernel
theorem dX9_names_27 : decode cX9_names 27 = .ok (.lconst 0, 1) := by decide +kernel
theorem dX9_names_28 : decode cX9_names 28 = .ok (.iload_n 1, 1) := by decide +kernel
theorem dX9_names_29 : decode cX9_names 29 = .ok (.iconst 1, 1) := by decide +kernel
theorem dX9_names_30 : decode cX9_names 30 = .ok (.isub, 1) := by decide +kernel
theorem dX9_names_31 : decode cX9_names 31 = .ok (.i2l, 1) := by decide +kernel
theorem dX9_names_32 : decode cX9_names 32 = .ok (.invokestatic 58, 3) := by decide +kernel
theorem dX9_names_35 : decode cX9_names 35 = .ok (.ifCond .eq 16, 3) := by decide +kernel
theorem dX9_names_38 : decode cX9_names 38 = .ok (.aload_n 0, 1) := by decide +kernel
theorem dX9_names_39 : decode cX9_names 39 = .ok (.iconst 2, 1) := by decide +kernel
theorem dX9_names_40 : decode cX9_names 40 = .ok (.iload_n 2, 1) := by decide +kernel
theorem dX9_names_41 : decode cX9_names 41 = .ok (.i2l, 1) := by decide +kernel
theorem dX9_names_42 : decode cX9_names 42 = .ok (.iload_n 3, 1) := by decide +kernel
theorem dX9_names_43 : decode cX9_names 43 = .ok (.i2l, 1) := by decide +kernel
theorem dX9_names_44 : decode cX9_names 44 = .ok (.iload_n 1, 1) := by decide +kernel
theorem dX9_names_45 : decode cX9_names 45 = .ok (.invokevirtual 82, 3) := by decide +kernel
theorem dX9_names_48 : decode cX9_names 48 = .ok (.goto 5, 3) := by decide +kernel
theorem dX9_names_51 : decode cX9_names 51 = .ok (.bipush (-102), 2) := by decide +kernel
theorem dX9_names_53 : decode cX9_names 53 = .ok (.ireturn, 1) := by decide +kernel
theorem dX9_steps_0 : decode cX9_steps 0 = .ok (.iload 5, 2) := by decide +kernel
theorem dX9_steps_2 : decode cX9_steps 2 = .ok (.i2l, 1) := by decide +kernel
theorem dX9_steps_3 : decode cX9_steps 3 = .ok (.ldc2_w 90, 3) := by decide +kernel
theorem dX9_steps_6 : decode cX9_steps 6 = .ok (.ldc2_w 92, 3) := by decide +kernel
theorem dX9_steps_9 : decode cX9_steps 9 = .ok (.invokestatic 58, 3) := by decide +kernel
theorem dX9_steps_12 : decode cX9_steps 12 = .ok (.ifCond .eq 20, 3) := by decide +kernel
theorem dX9_steps_15 : decode cX9_steps 15 = .ok (.iload 5, 2) := by decide +kernel
theorem dX9_steps_17 : decode cX9_steps 17 = .ok (.ifCond .eq 15, 3) := by decide +kernel
theorem dX9_steps_20 : decode cX9_steps 20 = .ok (.aload_n 0, 1) := by decide +kernel
theorem dX9_steps_21 : decode cX9_steps 21 = .ok (.iconst 3, 1) := by decide +kernel
theorem dX9_steps_22 : decode cX9_steps 22 = .ok (.lload_n 1, 1) := by decide +kernel
theorem dX9_steps_23 : decode cX9_steps 23 = .ok (.lload_n 3, 1) := by decide +kernel
theorem dX9_steps_24 : decode cX9_steps 24 = .ok (.iload 5, 2) := by decide +kernel
theorem dX9_steps_26 : decode cX9_steps 26 = .ok (.invokevirtual 82, 3) := by decide +kernel
theorem dX9_steps_29 : decode cX9_steps 29 = .ok (.goto 5, 3) := by decide +kernel
theorem dX9_steps_32 : decode cX9_steps 32 = .ok (.bipush (-102), 2) := by decide +kernel
theorem dX9_steps_34 : decode cX9_steps 34 = .ok (.ireturn, 1) := by decide +kernel
theorem dX9_hasNumber_0 : decode cX9_hasNumber 0 = .ok (.aload_n 0, 1) := by decide +kernel
theorem dX9_hasNumber_1 : decode cX9_hasNumber 1 = .ok (.getfield 7, 3) := by decide +kernel
theorem dX9_hasNumber_4 : decode cX9_hasNumber 4 = .ok (.iload_n 1, 1) := by decide +kernel
theorem dX9_hasNumber_5 : decode cX9_hasNumber 5 = .ok (.iaload, 1) := by decide +kernel
theorem dX9_hasNumber_6 : decode cX9_hasNumber 6 = .ok (.iconst 2, 1) := by decide +kernel
theorem dX9_hasNumber_7 : decode cX9_hasNumber 7 = .ok (.if_icmp .ne 90, 3) := by decide +kernel
theorem dX9_hasNumber_10 : decode cX9_hasNumber 10 = .ok (.lload_n 2, 1) := by decide +kernel
theorem dX9_hasNumber_11 : decode cX9_hasNumber 11 = .ok (.lconst 0, 1) := by decide +kernel
theorem dX9_hasNumber_12 : decode cX9_hasNumber 12 = .ok (.aload_n 0, 1) := by decide +kernel
theorem dX9_hasNumber_13 : decode cX9_hasNumber 13 = .ok (.getfield 29, 3) := by decide +kernel
theorem dX9_hasNumber_16 : decode cX9_hasNumber 16 = .ok (.iload_n 1, 1) := by decide +kernel
theorem dX9_hasNumber_17 : decode cX9_hasNumber 17 = .ok (.iaload, 1) := by decide +kernel
theorem dX9_hasNumber_18 : decode cX9_hasNumber 18 = .ok (.iconst 1, 1) := by decide +kernel
theorem dX9_hasNumber_19 : decode cX9_hasNumber 19 = .ok (.isub, 1) := by decide +kernel
theorem dX9_hasNumber_20 : decode cX9_hasNumber 20 = .ok (.i2l, 1) := by decide +kernel
theorem dX9_hasNumber_21 : decode cX9_hasNumber 21 = .ok (.invokestatic 58, 3) := by decide +kernel
theorem dX9_hasNumber_24 : decode cX9_hasNumber 24 = .ok (.istore 4, 2) := by decide +kernel
theorem dX9_hasNumber_26 : decode cX9_hasNumber 26 = .ok (.iload 4, 2) := by decide +kernel
theorem dX9_hasNumber_28 : decode cX9_hasNumber 28 = .ok (.ifCond .eq 67, 3) := by decide +kernel
theorem dX9_hasNumber_31 : decode cX9_hasNumber 31 = .ok (.aload_n 0, 1) := by decide +kernel
theorem dX9_hasNumber_32 : decode cX9_hasNumber 32 = .ok (.getfield 26, 3) := by decide +kernel
theorem dX9_hasNumber_35 : decode cX9_hasNumber 35 = .ok (.iload_n 1, 1) := by decide +kernel
theorem dX9_hasNumber_36 : decode cX9_hasNumber 36 = .ok (.laload, 1) := by decide +kernel
theorem dX9_hasNumber_37 : decode cX9_hasNumber 37 = .ok (.aload_n 0, 1) := by decide +kernel
theorem dX9_hasNumber_38 : decode cX9_hasNumber 38 = .ok (.getfield 23, 3) := by decide +kernel
theorem dX9_hasNumber_41 : decode cX9_hasNumber 41 = .ok (.iload_n 1, 1) := by decide +kernel
theorem dX9_hasNumber_42 : decode cX9_hasNumber 42 = .ok (.laload, 1) := by decide +kernel
theorem dX9_hasNumber_43 : decode cX9_hasNumber 43 = .ok (.lcmp, 1) := by decide +kernel
theorem dX9_hasNumber_44 : decode cX9_hasNumber 44 = .ok (.ifCond .lt 25, 3) := by decide +kernel
theorem dX9_hasNumber_47 : decode cX9_hasNumber 47 = .ok (.lload_n 2, 1) := by decide +kernel
theorem dX9_hasNumber_48 : decode cX9_hasNumber 48 = .ok (.aload_n 0, 1) := by decide +kernel
theorem dX9_hasNumber_49 : decode cX9_hasNumber 49 = .ok (.getfield 23, 3) := by decide +kernel
theorem dX9_hasNumber_52 : decode cX9_hasNumber 52 = .ok (.iload_n 1, 1) := by decide +kernel
theorem dX9_hasNumber_53 : decode cX9_hasNumber 53 = .ok (.laload, 1) := by decide +kernel
theorem dX9_hasNumber_54 : decode cX9_hasNumber 54 = .ok (.aload_n 0, 1) := by decide +kernel
theorem dX9_hasNumber_55 : decode cX9_hasNumber 55 = .ok (.getfield 26, 3) := by decide +kernel
theorem dX9_hasNumber_58 : decode cX9_hasNumber 58 = .ok (.iload_n 1, 1) := by decide +kernel
theorem dX9_hasNumber_59 : decode cX9_hasNumber 59 = .ok (.laload, 1) := by decide +kernel
theorem dX9_hasNumber_60 : decode cX9_hasNumber 60 = .ok (.invokestatic 58, 3) := by decide +kernel
theorem dX9_hasNumber_63 : decode cX9_hasNumber 63 = .ok (.ifCond .eq 32, 3) := by decide +kernel
theorem dX9_hasNumber_66 : decode cX9_hasNumber 66 = .ok (.goto 25, 3) := by decide +kernel
theorem dX9_hasNumber_69 : decode cX9_hasNumber 69 = .ok (.lload_n 2, 1) := by decide +kernel
theorem dX9_hasNumber_70 : decode cX9_hasNumber 70 = .ok (.aload_n 0, 1) := by decide +kernel
theorem dX9_hasNumber_71 : decode cX9_hasNumber 71 = .ok (.getfield 23, 3) := by decide +kernel
theorem dX9_hasNumber_74 : decode cX9_hasNumber 74 = .ok (.iload_n 1, 1) := by decide +kernel
theorem dX9_hasNumber_75 : decode cX9_hasNumber 75 = .ok (.laload, 1) := by decide +kernel
theorem dX9_hasNumber_76 : decode cX9_hasNumber 76 = .ok (.lcmp, 1) := by decide +kernel
theorem dX9_hasNumber_77 : decode cX9_hasNumber 77 = .ok (.ifCond .ge 14, 3) := by decide +kernel
theorem dX9_hasNumber_80 : decode cX9_hasNumber 80 = .ok (.lload_n 2, 1) := by decide +kernel
theorem dX9_hasNumber_81 : decode cX9_hasNumber 81 = .ok (.aload_n 0, 1) := by decide +kernel
theorem dX9_hasNumber_82 : decode cX9_hasNumber 82 = .ok (.getfield 26, 3) := by decide +kernel
theorem dX9_hasNumber_85 : decode cX9_hasNumber 85 = .ok (.iload_n 1, 1) := by decide +kernel
theorem dX9_hasNumber_86 : decode cX9_hasNumber 86 = .ok (.laload, 1) := by decide +kernel
theorem dX9_hasNumber_87 : decode cX9_hasNumber 87 = .ok (.lcmp, 1) := by decide +kernel
theorem dX9_hasNumber_88 : decode cX9_hasNumber 88 = .ok (.ifCond .gt 7, 3) := by decide +kernel
theorem dX9_hasNumber_91 : decode cX9_hasNumber 91 = .ok (.iconst 1, 1) := by decide +kernel
theorem dX9_hasNumber_92 : decode cX9_hasNumber 92 = .ok (.goto 4, 3) := by decide +kernel
theorem dX9_hasNumber_95 : decode cX9_hasNumber 95 = .ok (.iconst 0, 1) := by decide +kernel
theorem dX9_hasNumber_96 : decode cX9_hasNumber 96 = .ok (.ireturn, 1) := by decide +kernel
theorem dX9_hasNumber_97 : decode cX9_hasNumber 97 = .ok (.aload_n 0, 1) := by decide +kernel
theorem dX9_hasNumber_98 : decode cX9_hasNumber 98 = .ok (.getfield 29, 3) := by decide +kernel
theorem dX9_hasNumber_101 : decode cX9_hasNumber 101 = .ok (.iload_n 1, 1) := by decide +kernel
theorem dX9_hasNumber_102 : decode cX9_hasNumber 102 = .ok (.iaload, 1) := by decide +kernel
theorem dX9_hasNumber_103 : decode cX9_hasNumber 103 = .ok (.ifCond .le 7, 3) := by decide +kernel
theorem dX9_hasNumber_106 : decode cX9_hasNumber 106 = .ok (.iconst 1, 1) := by decide +kernel
theorem dX9_hasNumber_107 : decode cX9_hasNumber 107 = .ok (.goto 4, 3) := by decide +kernel
theorem dX9_hasNumber_110 : decode cX9_hasNumber 110 = .ok (.iconst 0, 1) := by decide +kernel
theorem dX9_hasNumber_111 : decode cX9_hasNumber 111 = .ok (.istore 4, 2) := by decide +kernel
theorem dX9_hasNumber_113 : decode cX9_hasNumber 113 = .ok (.lload_n 2, 1) := by decide +kernel
theorem dX9_hasNumber_114 : decode cX9_hasNumber 114 = .ok (.iload 4, 2) := by decide +kernel
theorem dX9_hasNumber_116 : decode cX9_hasNumber 116 = .ok (.ifCond .eq 12, 3) := by decide +kernel
theorem dX9_hasNumber_119 : decode cX9_hasNumber 119 = .ok (.aload_n 0, 1) := by decide +kernel
theorem dX9_hasNumber_120 : decode cX9_hasNumber 120 = .ok (.getfield 23, 3) := by decide +kernel
theorem dX9_hasNumber_123 : decode cX9_hasNumber 123 = .ok (.iload_n 1, 1) := by decide +kernel
theorem dX9_hasNumber_124 : decode cX9_hasNumber 124 = .ok (.laload, 1) := by decide +kernel
theorem dX9_hasNumber_125 : decode cX9_hasNumber 125 = .ok (.goto 9, 3) := by decide +kernel
theorem dX9_hasNumber_128 : decode cX9_hasNumber 128 = .ok (.aload_n 0, 1) := by decide +kernel
theorem dX9_hasNumber_129 : decode cX9_hasNumber 129 = .ok (.getfield 26, 3) := by decide +kernel
theorem dX9_hasNumber_132 : decode cX9_hasNumber 132 = .ok (.iload_n 1, 1) := by decide +kernel
theorem dX9_hasNumber_133 : decode cX9_hasNumber 133 = .ok (.laload, 1) := by decide +kernel
theorem dX9_hasNumber_134 : decode cX9_hasNumber 134 = .ok (.iload 4, 2) := by decide +kernel
theorem dX9_hasNumber_136 : decode cX9_hasNumber 136 = .ok (.ifCond .eq 12, 3) := by decide +kernel
theorem dX9_hasNumber_139 : decode cX9_hasNumber 139 = .ok (.aload_n 0, 1) := by decide +kernel
theorem dX9_hasNumber_140 : decode cX9_hasNumber 140 = .ok (.getfield 26, 3) := by decide +kernel
theorem dX9_hasNumber_143 : decode cX9_hasNumber 143 = .ok (.iload_n 1, 1) := by decide +kernel
theorem dX9_hasNumber_144 : decode cX9_hasNumber 144 = .ok (.laload, 1) := by decide +kernel
theorem dX9_hasNumber_145 : decode cX9_hasNumber 145 = .ok (.goto 9, 3) := by decide +kernel
theorem dX9_hasNumber_148 : decode cX9_hasNumber 148 = .ok (.aload_n 0, 1) := by decide +kernel
theorem dX9_hasNumber_149 : decode cX9_hasNumber 149 = .ok (.getfield 23, 3) := by decide +kernel
theorem dX9_hasNumber_152 : decode cX9_hasNumber 152 = .ok (.iload_n 1, 1) := by decide +kernel
theorem dX9_hasNumber_153 : decode cX9_hasNumber 153 = .ok (.laload, 1) := by decide +kernel
theorem dX9_hasNumber_154 : decode cX9_hasNumber 154 = .ok (.invokestatic 58, 3) := by decide +kernel
theorem dX9_hasNumber_157 : decode cX9_hasNumber 157 = .ok (.ifCond .ne 5, 3) := by decide +kernel
theorem dX9_hasNumber_160 : decode cX9_hasNumber 160 = .ok (.iconst 0, 1) := by decide +kernel
theorem dX9_hasNumber_161 : decode cX9_hasNumber 161 = .ok (.ireturn, 1) := by decide +kernel
theorem dX9_hasNumber_162 : decode cX9_hasNumber 162 = .ok (.iload 4, 2) := by decide +kernel
theorem dX9_hasNumber_164 : decode cX9_hasNumber 164 = .ok (.ifCond .eq 13, 3) := by decide +kernel
theorem dX9_hasNumber_167 : decode cX9_hasNumber 167 = .ok (.aload_n 0, 1) := by decide +kernel
theorem dX9_hasNumber_168 : decode cX9_hasNumber 168 = .ok (.getfield 29, 3) := by decide +kernel
theorem dX9_hasNumber_171 : decode cX9_hasNumber 171 = .ok (.iload_n 1, 1) := by decide +kernel
theorem dX9_hasNumber_172 : decode cX9_hasNumber 172 = .ok (.iaload, 1) := by decide +kernel
theorem dX9_hasNumber_173 : decode cX9_hasNumber 173 = .ok (.i2l, 1) := by decide +kernel
theorem dX9_hasNumber_174 : decode cX9_hasNumber 174 = .ok (.goto 11, 3) := by decide +kernel
theorem dX9_hasNumber_177 : decode cX9_hasNumber 177 = .ok (.aload_n 0, 1) := by decide +kernel
theorem dX9_hasNumber_178 : decode cX9_hasNumber 178 = .ok (.getfield 29, 3) := by decide +kernel
theorem dX9_hasNumber_181 : decode cX9_hasNumber 181 = .ok (.iload_n 1, 1) := by decide +kernel
theorem dX9_hasNumber_182 : decode cX9_hasNumber 182 = .ok (.iaload, 1) := by decide +kernel
theorem dX9_hasNumber_183 : decode cX9_hasNumber 183 = .ok (.i2l, 1) := by decide +kernel
theorem dX9_hasNumber_184 : decode cX9_hasNumber 184 = .ok (.lneg, 1) := by decide +kernel
theorem dX9_hasNumber_185 : decode cX9_hasNumber 185 = .ok (.lstore 5, 2) := by decide +kernel
theorem dX9_hasNumber_187 : decode cX9_hasNumber 187 = .ok (.lload_n 2, 1) := by decide +kernel
theorem dX9_hasNumber_188 : decode cX9_hasNumber 188 = .ok (.aload_n 0, 1) := by decide +kernel
theorem dX9_hasNumber_189 : decode cX9_hasNumber 189 = .ok (.getfield 23, 3) := by decide +kernel
theorem dX9_hasNumber_192 : decode cX9_hasNumber 192 = .ok (.iload_n 1, 1) := by decide +kernel
theorem dX9_hasNumber_193 : decode cX9_hasNumber 193 = .ok (.laload, 1) := by decide +kernel
theorem dX9_hasNumber_194 : decode cX9_hasNumber 194 = .ok (.lload 5, 2) := by decide +kernel
theorem dX9_hasNumber_196 : decode cX9_hasNumber 196 = .ok (.invokestatic 94, 3) := by decide +kernel
theorem dX9_hasNumber_199 : decode cX9_hasNumber 199 = .ok (.lconst 0, 1) := by decide +kernel
theorem dX9_hasNumber_200 : decode cX9_hasNumber 200 = .ok (.lcmp, 1) := by decide +kernel
theorem dX9_hasNumber_201 : decode cX9_hasNumber 201 = .ok (.ifCond .ne 7, 3) := by decide +kernel
theorem dX9_hasNumber_204 : decode cX9_hasNumber 204 = .ok (.iconst 1, 1) := by decide +kernel
theorem dX9_hasNumber_205 : decode cX9_hasNumber 205 = .ok (.goto 4, 3) := by decide +kernel
theorem dX9_hasNumber_208 : decode cX9_hasNumber 208 = .ok (.iconst 0, 1) := by decide +kernel
theorem dX9_hasNumber_209 : decode cX9_hasNumber 209 = .ok (.ireturn, 1) := by decide +kernel
theorem dX9_leftOver_0 : decode cX9_leftOver 0 = .ok (.lload_n 0, 1) := by decide +kernel
theorem dX9_leftOver_1 : decode cX9_leftOver 1 = .ok (.lload 4, 2) := by decide +kernel
theorem dX9_leftOver_3 : decode cX9_leftOver 3 = .ok (.lrem, 1) := by decide +kernel
theorem dX9_leftOver_4 : decode cX9_leftOver 4 = .ok (.lstore 6, 2) := by decide +kernel
theorem dX9_leftOver_6 : decode cX9_leftOver 6 = .ok (.lload_n 2, 1) := by decide +kernel
theorem dX9_leftOver_7 : decode cX9_leftOver 7 = .ok (.lload 4, 2) := by decide +kernel
theorem dX9_leftOver_9 : decode cX9_leftOver 9 = .ok (.lrem, 1) := by decide +kernel
theorem dX9_leftOver_10 : decode cX9_leftOver 10 = .ok (.lstore 8, 2) := by decide +kernel
theorem dX9_leftOver_12 : decode cX9_leftOver 12 = .ok (.lload 6, 2) := by decide +kernel
theorem dX9_leftOver_14 : decode cX9_leftOver 14 = .ok (.lload 8, 2) := by decide +kernel
theorem dX9_leftOver_16 : decode cX9_leftOver 16 = .ok (.lsub, 1) := by decide +kernel
theorem dX9_leftOver_17 : decode cX9_leftOver 17 = .ok (.lload 4, 2) := by decide +kernel
theorem dX9_leftOver_19 : decode cX9_leftOver 19 = .ok (.lrem, 1) := by decide +kernel
theorem dX9_leftOver_20 : decode cX9_leftOver 20 = .ok (.lstore 10, 2) := by decide +kernel
theorem dX9_leftOver_22 : decode cX9_leftOver 22 = .ok (.lload 10, 2) := by decide +kernel
theorem dX9_leftOver_24 : decode cX9_leftOver 24 = .ok (.lconst 0, 1) := by decide +kernel
theorem dX9_leftOver_25 : decode cX9_leftOver 25 = .ok (.lcmp, 1) := by decide +kernel
theorem dX9_leftOver_26 : decode cX9_leftOver 26 = .ok (.ifCond .ge 11, 3) := by decide +kernel
theorem dX9_leftOver_29 : decode cX9_leftOver 29 = .ok (.lload 10, 2) := by decide +kernel
theorem dX9_leftOver_31 : decode cX9_leftOver 31 = .ok (.lload 4, 2) := by decide +kernel
theorem dX9_leftOver_33 : decode cX9_leftOver 33 = .ok (.ladd, 1) := by decide +kernel
theorem dX9_leftOver_34 : decode cX9_leftOver 34 = .ok (.goto 5, 3) := by decide +kernel
theorem dX9_leftOver_37 : decode cX9_leftOver 37 = .ok (.lload 10, 2) := by decide +kernel
theorem dX9_leftOver_39 : decode cX9_leftOver 39 = .ok (.lreturn, 1) := by decide +kernel
theorem dX9_placeOf_0 : decode cX9_placeOf 0 = .ok (.aload_n 0, 1) := by decide +kernel
theorem dX9_placeOf_1 : decode cX9_placeOf 1 = .ok (.getfield 7, 3) := by decide +kernel
theorem dX9_placeOf_4 : decode cX9_placeOf 4 = .ok (.iload_n 1, 1) := by decide +kernel
theorem dX9_placeOf_5 : decode cX9_placeOf 5 = .ok (.iaload, 1) := by decide +kernel
theorem dX9_placeOf_6 : decode cX9_placeOf 6 = .ok (.iconst 2, 1) := by decide +kernel
theorem dX9_placeOf_7 : decode cX9_placeOf 7 = .ok (.if_icmp .ne 42, 3) := by decide +kernel
theorem dX9_placeOf_10 : decode cX9_placeOf 10 = .ok (.lload_n 2, 1) := by decide +kernel
theorem dX9_placeOf_11 : decode cX9_placeOf 11 = .ok (.aload_n 0, 1) := by decide +kernel
theorem dX9_placeOf_12 : decode cX9_placeOf 12 = .ok (.getfield 23, 3) := by decide +kernel
theorem dX9_placeOf_15 : decode cX9_placeOf 15 = .ok (.iload_n 1, 1) := by decide +kernel
theorem dX9_placeOf_16 : decode cX9_placeOf 16 = .ok (.laload, 1) := by decide +kernel
theorem dX9_placeOf_17 : decode cX9_placeOf 17 = .ok (.lcmp, 1) := by decide +kernel
theorem dX9_placeOf_18 : decode cX9_placeOf 18 = .ok (.ifCond .lt 14, 3) := by decide +kernel
theorem dX9_placeOf_21 : decode cX9_placeOf 21 = .ok (.lload_n 2, 1) := by decide +kernel
theorem dX9_placeOf_22 : decode cX9_placeOf 22 = .ok (.aload_n 0, 1) := by decide +kernel
theorem dX9_placeOf_23 : decode cX9_placeOf 23 = .ok (.getfield 23, 3) := by decide +kernel
theorem dX9_placeOf_26 : decode cX9_placeOf 26 = .ok (.iload_n 1, 1) := by decide +kernel
theorem dX9_placeOf_27 : decode cX9_placeOf 27 = .ok (.laload, 1) := by decide +kernel
theorem dX9_placeOf_28 : decode cX9_placeOf 28 = .ok (.lsub, 1) := by decide +kernel
theorem dX9_placeOf_29 : decode cX9_placeOf 29 = .ok (.goto 19, 3) := by decide +kernel
theorem dX9_placeOf_32 : decode cX9_placeOf 32 = .ok (.lload_n 2, 1) := by decide +kernel
theorem dX9_placeOf_33 : decode cX9_placeOf 33 = .ok (.aload_n 0, 1) := by decide +kernel
theorem dX9_placeOf_34 : decode cX9_placeOf 34 = .ok (.getfield 29, 3) := by decide +kernel
theorem dX9_placeOf_37 : decode cX9_placeOf 37 = .ok (.iload_n 1, 1) := by decide +kernel
theorem dX9_placeOf_38 : decode cX9_placeOf 38 = .ok (.iaload, 1) := by decide +kernel
theorem dX9_placeOf_39 : decode cX9_placeOf 39 = .ok (.i2l, 1) := by decide +kernel
theorem dX9_placeOf_40 : decode cX9_placeOf 40 = .ok (.ladd, 1) := by decide +kernel
theorem dX9_placeOf_41 : decode cX9_placeOf 41 = .ok (.aload_n 0, 1) := by decide +kernel
theorem dX9_placeOf_42 : decode cX9_placeOf 42 = .ok (.getfield 23, 3) := by decide +kernel
theorem dX9_placeOf_45 : decode cX9_placeOf 45 = .ok (.iload_n 1, 1) := by decide +kernel
theorem dX9_placeOf_46 : decode cX9_placeOf 46 = .ok (.laload, 1) := by decide +kernel
theorem dX9_placeOf_47 : decode cX9_placeOf 47 = .ok (.lsub, 1) := by decide +kernel
theorem dX9_placeOf_48 : decode cX9_placeOf 48 = .ok (.lreturn, 1) := by decide +kernel
theorem dX9_placeOf_49 : decode cX9_placeOf 49 = .ok (.aload_n 0, 1) := by decide +kernel
theorem dX9_placeOf_50 : decode cX9_placeOf 50 = .ok (.getfield 29, 3) := by decide +kernel
theorem dX9_placeOf_53 : decode cX9_placeOf 53 = .ok (.iload_n 1, 1) := by decide +kernel
theorem dX9_placeOf_54 : decode cX9_placeOf 54 = .ok (.iaload, 1) := by decide +kernel
theorem dX9_placeOf_55 : decode cX9_placeOf 55 = .ok (.ifCond .le 7, 3) := by decide +kernel
theorem dX9_placeOf_58 : decode cX9_placeOf 58 = .ok (.iconst 1, 1) := by decide +kernel
theorem dX9_placeOf_59 : decode cX9_placeOf 59 = .ok (.goto 4, 3) := by decide +kernel
theorem dX9_placeOf_62 : decode cX9_placeOf 62 = .ok (.iconst 0, 1) := by decide +kernel
theorem dX9_placeOf_63 : decode cX9_placeOf 63 = .ok (.istore 4, 2) := by decide +kernel
theorem dX9_placeOf_65 : decode cX9_placeOf 65 = .ok (.iload 4, 2) := by decide +kernel
theorem dX9_placeOf_67 : decode cX9_placeOf 67 = .ok (.ifCond .eq 23, 3) := by decide +kernel
theorem dX9_placeOf_70 : decode cX9_placeOf 70 = .ok (.aload_n 0, 1) := by decide +kernel
theorem dX9_placeOf_71 : decode cX9_placeOf 71 = .ok (.getfield 23, 3) := by decide +kernel
theorem dX9_placeOf_74 : decode cX9_placeOf 74 = .ok (.iload_n 1, 1) := by decide +kernel
theorem dX9_placeOf_75 : decode cX9_placeOf 75 = .ok (.laload, 1) := by decide +kernel
theorem dX9_placeOf_76 : decode cX9_placeOf 76 = .ok (.lload_n 2, 1) := by decide +kernel
theorem dX9_placeOf_77 : decode cX9_placeOf 77 = .ok (.aload_n 0, 1) := by decide +kernel
theorem dX9_placeOf_78 : decode cX9_placeOf 78 = .ok (.getfield 29, 3) := by decide +kernel
theorem dX9_placeOf_81 : decode cX9_placeOf 81 = .ok (.iload_n 1, 1) := by decide +kernel
theorem dX9_placeOf_82 : decode cX9_placeOf 82 = .ok (.iaload, 1) := by decide +kernel
theorem dX9_placeOf_83 : decode cX9_placeOf 83 = .ok (.i2l, 1) := by decide +kernel
theorem dX9_placeOf_84 : decode cX9_placeOf 84 = .ok (.invokestatic 72, 3) := by decide +kernel
theorem dX9_placeOf_87 : decode cX9_placeOf 87 = .ok (.goto 21, 3) := by decide +kernel
theorem dX9_placeOf_90 : decode cX9_placeOf 90 = .ok (.lload_n 2, 1) := by decide +kernel
theorem dX9_placeOf_91 : decode cX9_placeOf 91 = .ok (.aload_n 0, 1) := by decide +kernel
theorem dX9_placeOf_92 : decode cX9_placeOf 92 = .ok (.getfield 23, 3) := by decide +kernel
theorem dX9_placeOf_95 : decode cX9_placeOf 95 = .ok (.iload_n 1, 1) := by decide +kernel
theorem dX9_placeOf_96 : decode cX9_placeOf 96 = .ok (.laload, 1) := by decide +kernel
theorem dX9_placeOf_97 : decode cX9_placeOf 97 = .ok (.aload_n 0, 1) := by decide +kernel
theorem dX9_placeOf_98 : decode cX9_placeOf 98 = .ok (.getfield 29, 3) := by decide +kernel
theorem dX9_placeOf_101 : decode cX9_placeOf 101 = .ok (.iload_n 1, 1) := by decide +kernel
theorem dX9_placeOf_102 : decode cX9_placeOf 102 = .ok (.iaload, 1) := by decide +kernel
theorem dX9_placeOf_103 : decode cX9_placeOf 103 = .ok (.i2l, 1) := by decide +kernel
theorem dX9_placeOf_104 : decode cX9_placeOf 104 = .ok (.lneg, 1) := by decide +kernel
theorem dX9_placeOf_105 : decode cX9_placeOf 105 = .ok (.invokestatic 72, 3) := by decide +kernel
theorem dX9_placeOf_108 : decode cX9_placeOf 108 = .ok (.lreturn, 1) := by decide +kernel
theorem dX9_numberAt_0 : decode cX9_numberAt 0 = .ok (.aload_n 0, 1) := by decide +kernel
theorem dX9_numberAt_1 : decode cX9_numberAt 1 = .ok (.getfield 7, 3) := by decide +kernel
theorem dX9_numberAt_4 : decode cX9_numberAt 4 = .ok (.iload_n 1, 1) := by decide +kernel
theorem dX9_numberAt_5 : decode cX9_numberAt 5 = .ok (.iaload, 1) := by decide +kernel
theorem dX9_numberAt_6 : decode cX9_numberAt 6 = .ok (.iconst 2, 1) := by decide +kernel
theorem dX9_numberAt_7 : decode cX9_numberAt 7 = .ok (.if_icmp .ne 20, 3) := by decide +kernel
theorem dX9_numberAt_10 : decode cX9_numberAt 10 = .ok (.aload_n 0, 1) := by decide +kernel
theorem dX9_numberAt_11 : decode cX9_numberAt 11 = .ok (.getfield 23, 3) := by decide +kernel
theorem dX9_numberAt_14 : decode cX9_numberAt 14 = .ok (.iload_n 1, 1) := by decide +kernel
theorem dX9_numberAt_15 : decode cX9_numberAt 15 = .ok (.laload, 1) := by decide +kernel
theorem dX9_numberAt_16 : decode cX9_numberAt 16 = .ok (.lload_n 2, 1) := by decide +kernel
theorem dX9_numberAt_17 : decode cX9_numberAt 17 = .ok (.ladd, 1) := by decide +kernel
theorem dX9_numberAt_18 : decode cX9_numberAt 18 = .ok (.aload_n 0, 1) := by decide +kernel
theorem dX9_numberAt_19 : decode cX9_numberAt 19 = .ok (.getfield 29, 3) := by decide +kernel
theorem dX9_numberAt_22 : decode cX9_numberAt 22 = .ok (.iload_n 1, 1) := by decide +kernel
theorem dX9_numberAt_23 : decode cX9_numberAt 23 = .ok (.iaload, 1) := by decide +kernel
theorem dX9_numberAt_24 : decode cX9_numberAt 24 = .ok (.i2l, 1) := by decide +kernel
theorem dX9_numberAt_25 : decode cX9_numberAt 25 = .ok (.lrem, 1) := by decide +kernel
theorem dX9_numberAt_26 : decode cX9_numberAt 26 = .ok (.lreturn, 1) := by decide +kernel
theorem dX9_numberAt_27 : decode cX9_numberAt 27 = .ok (.aload_n 0, 1) := by decide +kernel
theorem dX9_numberAt_28 : decode cX9_numberAt 28 = .ok (.getfield 23, 3) := by decide +kernel
theorem dX9_numberAt_31 : decode cX9_numberAt 31 = .ok (.iload_n 1, 1) := by decide +kernel
theorem dX9_numberAt_32 : decode cX9_numberAt 32 = .ok (.laload, 1) := by decide +kernel
theorem dX9_numberAt_33 : decode cX9_numberAt 33 = .ok (.lload_n 2, 1) := by decide +kernel
theorem dX9_numberAt_34 : decode cX9_numberAt 34 = .ok (.aload_n 0, 1) := by decide +kernel
theorem dX9_numberAt_35 : decode cX9_numberAt 35 = .ok (.getfield 29, 3) := by decide +kernel
theorem dX9_numberAt_38 : decode cX9_numberAt 38 = .ok (.iload_n 1, 1) := by decide +kernel
theorem dX9_numberAt_39 : decode cX9_numberAt 39 = .ok (.iaload, 1) := by decide +kernel
theorem dX9_numberAt_40 : decode cX9_numberAt 40 = .ok (.i2l, 1) := by decide +kernel
theorem dX9_numberAt_41 : decode cX9_numberAt 41 = .ok (.lmul, 1) := by decide +kernel
theorem dX9_numberAt_42 : decode cX9_numberAt 42 = .ok (.ladd, 1) := by decide +kernel
theorem dX9_numberAt_43 : decode cX9_numberAt 43 = .ok (.lreturn, 1) := by decide +kernel
theorem dX9_take_0 : decode cX9_take 0 = .ok (.iconst 0, 1) := by decide +kernel
theorem dX9_take_1 : decode cX9_take 1 = .ok (.istore 5, 2) := by decide +kernel
theorem dX9_take_3 : decode cX9_take 3 = .ok (.iload 5, 2) := by decide +kernel
theorem dX9_take_5 : decode cX9_take 5 = .ok (.aload_n 0, 1) := by decide +kernel
theorem dX9_take_6 : decode cX9_take 6 = .ok (.getfield 16, 3) := by decide +kernel
theorem dX9_take_9 : decode cX9_take 9 = .ok (.iload_n 3, 1) := by decide +kernel
theorem dX9_take_10 : decode cX9_take 10 = .ok (.iaload, 1) := by decide +kernel
theorem dX9_take_11 : decode cX9_take 11 = .ok (.if_icmp .ge 99, 3) := by decide +kernel
theorem dX9_take_14 : decode cX9_take 14 = .ok (.aload_n 0, 1) := by decide +kernel
theorem dX9_take_15 : decode cX9_take 15 = .ok (.getfield 32, 3) := by decide +kernel
theorem dX9_take_18 : decode cX9_take 18 = .ok (.bipush 8, 2) := by decide +kernel
theorem dX9_take_20 : decode cX9_take 20 = .ok (.iload_n 1, 1) := by decide +kernel
theorem dX9_take_21 : decode cX9_take 21 = .ok (.imul, 1) := by decide +kernel
theorem dX9_take_22 : decode cX9_take 22 = .ok (.iload_n 2, 1) := by decide +kernel
theorem dX9_take_23 : decode cX9_take 23 = .ok (.iadd, 1) := by decide +kernel
theorem dX9_take_24 : decode cX9_take 24 = .ok (.iload 5, 2) := by decide +kernel
theorem dX9_take_26 : decode cX9_take 26 = .ok (.iadd, 1) := by decide +kernel
theorem dX9_take_27 : decode cX9_take 27 = .ok (.aload_n 0, 1) := by decide +kernel
theorem dX9_take_28 : decode cX9_take 28 = .ok (.getfield 32, 3) := by decide +kernel
theorem dX9_take_31 : decode cX9_take 31 = .ok (.bipush 8, 2) := by decide +kernel
theorem dX9_take_33 : decode cX9_take 33 = .ok (.iload_n 3, 1) := by decide +kernel
theorem dX9_take_34 : decode cX9_take 34 = .ok (.imul, 1) := by decide +kernel
theorem dX9_take_35 : decode cX9_take 35 = .ok (.iload 5, 2) := by decide +kernel
theorem dX9_take_37 : decode cX9_take 37 = .ok (.iadd, 1) := by decide +kernel
theorem dX9_take_38 : decode cX9_take 38 = .ok (.iaload, 1) := by decide +kernel
theorem dX9_take_39 : decode cX9_take 39 = .ok (.iastore, 1) := by decide +kernel
theorem dX9_take_40 : decode cX9_take 40 = .ok (.aload_n 0, 1) := by decide +kernel
theorem dX9_take_41 : decode cX9_take 41 = .ok (.getfield 35, 3) := by decide +kernel
theorem dX9_take_44 : decode cX9_take 44 = .ok (.bipush 8, 2) := by decide +kernel
theorem dX9_take_46 : decode cX9_take 46 = .ok (.iload_n 1, 1) := by decide +kernel
theorem dX9_take_47 : decode cX9_take 47 = .ok (.imul, 1) := by decide +kernel
theorem dX9_take_48 : decode cX9_take 48 = .ok (.iload_n 2, 1) := by decide +kernel
theorem dX9_take_49 : decode cX9_take 49 = .ok (.iadd, 1) := by decide +kernel
theorem dX9_take_50 : decode cX9_take 50 = .ok (.iload 5, 2) := by decide +kernel
theorem dX9_take_52 : decode cX9_take 52 = .ok (.iadd, 1) := by decide +kernel
theorem dX9_take_53 : decode cX9_take 53 = .ok (.aload_n 0, 1) := by decide +kernel
theorem dX9_take_54 : decode cX9_take 54 = .ok (.getfield 35, 3) := by decide +kernel
theorem dX9_take_57 : decode cX9_take 57 = .ok (.bipush 8, 2) := by decide +kernel
theorem dX9_take_59 : decode cX9_take 59 = .ok (.iload_n 3, 1) := by decide +kernel
theorem dX9_take_60 : decode cX9_take 60 = .ok (.imul, 1) := by decide +kernel
theorem dX9_take_61 : decode cX9_take 61 = .ok (.iload 5, 2) := by decide +kernel
theorem dX9_take_63 : decode cX9_take 63 = .ok (.iadd, 1) := by decide +kernel
theorem dX9_take_64 : decode cX9_take 64 = .ok (.baload, 1) := by decide +kernel
theorem dX9_take_65 : decode cX9_take 65 = .ok (.iload 4, 2) := by decide +kernel
theorem dX9_take_67 : decode cX9_take 67 = .ok (.if_icmp .eq 7, 3) := by decide +kernel
theorem dX9_take_70 : decode cX9_take 70 = .ok (.iconst 1, 1) := by decide +kernel
theorem dX9_take_71 : decode cX9_take 71 = .ok (.goto 4, 3) := by decide +kernel
theorem dX9_take_74 : decode cX9_take 74 = .ok (.iconst 0, 1) := by decide +kernel
theorem dX9_take_75 : decode cX9_take 75 = .ok (.bastore, 1) := by decide +kernel
theorem dX9_take_76 : decode cX9_take 76 = .ok (.aload_n 0, 1) := by decide +kernel
theorem dX9_take_77 : decode cX9_take 77 = .ok (.getfield 39, 3) := by decide +kernel
theorem dX9_take_80 : decode cX9_take 80 = .ok (.bipush 8, 2) := by decide +kernel
theorem dX9_take_82 : decode cX9_take 82 = .ok (.iload_n 1, 1) := by decide +kernel
theorem dX9_take_83 : decode cX9_take 83 = .ok (.imul, 1) := by decide +kernel
theorem dX9_take_84 : decode cX9_take 84 = .ok (.iload_n 2, 1) := by decide +kernel
theorem dX9_take_85 : decode cX9_take 85 = .ok (.iadd, 1) := by decide +kernel
theorem dX9_take_86 : decode cX9_take 86 = .ok (.iload 5, 2) := by decide +kernel
theorem dX9_take_88 : decode cX9_take 88 = .ok (.iadd, 1) := by decide +kernel
theorem dX9_take_89 : decode cX9_take 89 = .ok (.aload_n 0, 1) := by decide +kernel
theorem dX9_take_90 : decode cX9_take 90 = .ok (.getfield 39, 3) := by decide +kernel
theorem dX9_take_93 : decode cX9_take 93 = .ok (.bipush 8, 2) := by decide +kernel
theorem dX9_take_95 : decode cX9_take 95 = .ok (.iload_n 3, 1) := by decide +kernel
theorem dX9_take_96 : decode cX9_take 96 = .ok (.imul, 1) := by decide +kernel
theorem dX9_take_97 : decode cX9_take 97 = .ok (.iload 5, 2) := by decide +kernel
theorem dX9_take_99 : decode cX9_take 99 = .ok (.iadd, 1) := by decide +kernel
theorem dX9_take_100 : decode cX9_take 100 = .ok (.iaload, 1) := by decide +kernel
theorem dX9_take_101 : decode cX9_take 101 = .ok (.iconst 1, 1) := by decide +kernel
theorem dX9_take_102 : decode cX9_take 102 = .ok (.iadd, 1) := by decide +kernel
theorem dX9_take_103 : decode cX9_take 103 = .ok (.iastore, 1) := by decide +kernel
theorem dX9_take_104 : decode cX9_take 104 = .ok (.iinc 5 1, 3) := by decide +kernel
theorem dX9_take_107 : decode cX9_take 107 = .ok (.goto (-104), 3) := by decide +kernel
theorem dX9_take_110 : decode cX9_take 110 = .ok (.return_, 1) := by decide +kernel
theorem dX9_times_0 : decode cX9_times 0 = .ok (.lload_n 0, 1) := by decide +kernel
theorem dX9_times_1 : decode cX9_times 1 = .ok (.lconst 0, 1) := by decide +kernel
theorem dX9_times_2 : decode cX9_times 2 = .ok (.lcmp, 1) := by decide +kernel
theorem dX9_times_3 : decode cX9_times 3 = .ok (.ifCond .eq 9, 3) := by decide +kernel
theorem dX9_times_6 : decode cX9_times 6 = .ok (.lload_n 2, 1) := by decide +kernel
theorem dX9_times_7 : decode cX9_times 7 = .ok (.lconst 0, 1) := by decide +kernel
theorem dX9_times_8 : decode cX9_times 8 = .ok (.lcmp, 1) := by decide +kernel
theorem dX9_times_9 : decode cX9_times 9 = .ok (.ifCond .ne 5, 3) := by decide +kernel
theorem dX9_times_12 : decode cX9_times 12 = .ok (.lconst 0, 1) := by decide +kernel
theorem dX9_times_13 : decode cX9_times 13 = .ok (.lreturn, 1) := by decide +kernel
theorem dX9_times_14 : decode cX9_times 14 = .ok (.lload_n 0, 1) := by decide +kernel
theorem dX9_times_15 : decode cX9_times 15 = .ok (.ldc2_w 68, 3) := by decide +kernel
theorem dX9_times_18 : decode cX9_times 18 = .ok (.lcmp, 1) := by decide +kernel
theorem dX9_times_19 : decode cX9_times 19 = .ok (.ifCond .eq 21, 3) := by decide +kernel
theorem dX9_times_22 : decode cX9_times 22 = .ok (.lload_n 2, 1) := by decide +kernel
theorem dX9_times_23 : decode cX9_times 23 = .ok (.ldc2_w 68, 3) := by decide +kernel
theorem dX9_times_26 : decode cX9_times 26 = .ok (.lcmp, 1) := by decide +kernel
theorem dX9_times_27 : decode cX9_times 27 = .ok (.ifCond .eq 13, 3) := by decide +kernel
theorem dX9_times_30 : decode cX9_times 30 = .ok (.lload_n 0, 1) := by decide +kernel
theorem dX9_times_31 : decode cX9_times 31 = .ok (.ldc2_w 76, 3) := by decide +kernel
theorem dX9_times_34 : decode cX9_times 34 = .ok (.lload_n 2, 1) := by decide +kernel
theorem dX9_times_35 : decode cX9_times 35 = .ok (.ldiv, 1) := by decide +kernel
theorem dX9_times_36 : decode cX9_times 36 = .ok (.lcmp, 1) := by decide +kernel
theorem dX9_times_37 : decode cX9_times 37 = .ok (.ifCond .le 9, 3) := by decide +kernel
theorem dX9_times_40 : decode cX9_times 40 = .ok (.ldc2_w 68, 3) := by decide +kernel
theorem dX9_times_43 : decode cX9_times 43 = .ok (.goto 6, 3) := by decide +kernel
theorem dX9_times_46 : decode cX9_times 46 = .ok (.lload_n 0, 1) := by decide +kernel
theorem dX9_times_47 : decode cX9_times 47 = .ok (.lload_n 2, 1) := by decide +kernel
theorem dX9_times_48 : decode cX9_times 48 = .ok (.lmul, 1) := by decide +kernel
theorem dX9_times_49 : decode cX9_times 49 = .ok (.lreturn, 1) := by decide +kernel
theorem dX9_sizeOf_0 : decode cX9_sizeOf 0 = .ok (.iconst 0, 1) := by decide +kernel
theorem dX9_sizeOf_1 : decode cX9_sizeOf 1 = .ok (.istore_n 2, 1) := by decide +kernel
theorem dX9_sizeOf_2 : decode cX9_sizeOf 2 = .ok (.lconst 1, 1) := by decide +kernel
theorem dX9_sizeOf_3 : decode cX9_sizeOf 3 = .ok (.lstore_n 3, 1) := by decide +kernel
theorem dX9_sizeOf_4 : decode cX9_sizeOf 4 = .ok (.iconst 0, 1) := by decide +kernel
theorem dX9_sizeOf_5 : decode cX9_sizeOf 5 = .ok (.istore 5, 2) := by decide +kernel
theorem dX9_sizeOf_7 : decode cX9_sizeOf 7 = .ok (.iload 5, 2) := by decide +kernel
theorem dX9_sizeOf_9 : decode cX9_sizeOf 9 = .ok (.aload_n 0, 1) := by decide +kernel
theorem dX9_sizeOf_10 : decode cX9_sizeOf 10 = .ok (.getfield 16, 3) := by decide +kernel
theorem dX9_sizeOf_13 : decode cX9_sizeOf 13 = .ok (.iload_n 1, 1) := by decide +kernel
theorem dX9_sizeOf_14 : decode cX9_sizeOf 14 = .ok (.iaload, 1) := by decide +kernel
theorem dX9_sizeOf_15 : decode cX9_sizeOf 15 = .ok (.if_icmp .ge 52, 3) := by decide +kernel
theorem dX9_sizeOf_18 : decode cX9_sizeOf 18 = .ok (.aload_n 0, 1) := by decide +kernel
theorem dX9_sizeOf_19 : decode cX9_sizeOf 19 = .ok (.getfield 19, 3) := by decide +kernel
theorem dX9_sizeOf_22 : decode cX9_sizeOf 22 = .ok (.aload_n 0, 1) := by decide +kernel
theorem dX9_sizeOf_23 : decode cX9_sizeOf 23 = .ok (.getfield 32, 3) := by decide +kernel
theorem dX9_sizeOf_26 : decode cX9_sizeOf 26 = .ok (.bipush 8, 2) := by decide +kernel
theorem dX9_sizeOf_28 : decode cX9_sizeOf 28 = .ok (.iload_n 1, 1) := by decide +kernel
theorem dX9_sizeOf_29 : decode cX9_sizeOf 29 = .ok (.imul, 1) := by decide +kernel
theorem dX9_sizeOf_30 : decode cX9_sizeOf 30 = .ok (.iload 5, 2) := by decide +kernel
theorem dX9_sizeOf_32 : decode cX9_sizeOf 32 = .ok (.iadd, 1) := by decide +kernel
theorem dX9_sizeOf_33 : decode cX9_sizeOf 33 = .ok (.iaload, 1) := by decide +kernel
theorem dX9_sizeOf_34 : decode cX9_sizeOf 34 = .ok (.laload, 1) := by decide +kernel
theorem dX9_sizeOf_35 : decode cX9_sizeOf 35 = .ok (.lstore 6, 2) := by decide +kernel
theorem dX9_sizeOf_37 : decode cX9_sizeOf 37 = .ok (.iload_n 2, 1) := by decide +kernel
theorem dX9_sizeOf_38 : decode cX9_sizeOf 38 = .ok (.ifCond .ne 10, 3) := by decide +kernel
theorem dX9_sizeOf_41 : decode cX9_sizeOf 41 = .ok (.lload 6, 2) := by decide +kernel
theorem dX9_sizeOf_43 : decode cX9_sizeOf 43 = .ok (.lconst 0, 1) := by decide +kernel
theorem dX9_sizeOf_44 : decode cX9_sizeOf 44 = .ok (.lcmp, 1) := by decide +kernel
theorem dX9_sizeOf_45 : decode cX9_sizeOf 45 = .ok (.ifCond .ne 7, 3) := by decide +kernel
theorem dX9_sizeOf_48 : decode cX9_sizeOf 48 = .ok (.iconst 1, 1) := by decide +kernel
theorem dX9_sizeOf_49 : decode cX9_sizeOf 49 = .ok (.goto 4, 3) := by decide +kernel
theorem dX9_sizeOf_52 : decode cX9_sizeOf 52 = .ok (.iconst 0, 1) := by decide +kernel
theorem dX9_sizeOf_53 : decode cX9_sizeOf 53 = .ok (.istore_n 2, 1) := by decide +kernel
theorem dX9_sizeOf_54 : decode cX9_sizeOf 54 = .ok (.lload_n 3, 1) := by decide +kernel
theorem dX9_sizeOf_55 : decode cX9_sizeOf 55 = .ok (.lload 6, 2) := by decide +kernel
theorem dX9_sizeOf_57 : decode cX9_sizeOf 57 = .ok (.invokestatic 97, 3) := by decide +kernel
theorem dX9_sizeOf_60 : decode cX9_sizeOf 60 = .ok (.lstore_n 3, 1) := by decide +kernel
theorem dX9_sizeOf_61 : decode cX9_sizeOf 61 = .ok (.iinc 5 1, 3) := by decide +kernel
theorem dX9_sizeOf_64 : decode cX9_sizeOf 64 = .ok (.goto (-57), 3) := by decide +kernel
theorem dX9_sizeOf_67 : decode cX9_sizeOf 67 = .ok (.iload_n 2, 1) := by decide +kernel
theorem dX9_sizeOf_68 : decode cX9_sizeOf 68 = .ok (.ifCond .eq 7, 3) := by decide +kernel
theorem dX9_sizeOf_71 : decode cX9_sizeOf 71 = .ok (.lconst 0, 1) := by decide +kernel
theorem dX9_sizeOf_72 : decode cX9_sizeOf 72 = .ok (.goto 4, 3) := by decide +kernel
theorem dX9_sizeOf_75 : decode cX9_sizeOf 75 = .ok (.lload_n 3, 1) := by decide +kernel
theorem dX9_sizeOf_76 : decode cX9_sizeOf 76 = .ok (.lreturn, 1) := by decide +kernel
theorem dX9_begin_0 : decode cX9_begin 0 = .ok (.aload_n 0, 1) := by decide +kernel
theorem dX9_begin_1 : decode cX9_begin 1 = .ok (.getfield 54, 3) := by decide +kernel
theorem dX9_begin_4 : decode cX9_begin 4 = .ok (.istore 4, 2) := by decide +kernel
theorem dX9_begin_6 : decode cX9_begin 6 = .ok (.aload_n 0, 1) := by decide +kernel
theorem dX9_begin_7 : decode cX9_begin 7 = .ok (.getfield 7, 3) := by decide +kernel
theorem dX9_begin_10 : decode cX9_begin 10 = .ok (.iload 4, 2) := by decide +kernel
theorem dX9_begin_12 : decode cX9_begin 12 = .ok (.iload_n 1, 1) := by decide +kernel
theorem dX9_begin_13 : decode cX9_begin 13 = .ok (.iastore, 1) := by decide +kernel
theorem dX9_begin_14 : decode cX9_begin 14 = .ok (.aload_n 0, 1) := by decide +kernel
theorem dX9_begin_15 : decode cX9_begin 15 = .ok (.getfield 13, 3) := by decide +kernel
theorem dX9_begin_18 : decode cX9_begin 18 = .ok (.iload 4, 2) := by decide +kernel
theorem dX9_begin_20 : decode cX9_begin 20 = .ok (.iload_n 2, 1) := by decide +kernel
theorem dX9_begin_21 : decode cX9_begin 21 = .ok (.iastore, 1) := by decide +kernel
theorem dX9_begin_22 : decode cX9_begin 22 = .ok (.aload_n 0, 1) := by decide +kernel
theorem dX9_begin_23 : decode cX9_begin 23 = .ok (.getfield 16, 3) := by decide +kernel
theorem dX9_begin_26 : decode cX9_begin 26 = .ok (.iload 4, 2) := by decide +kernel
theorem dX9_begin_28 : decode cX9_begin 28 = .ok (.iload_n 3, 1) := by decide +kernel
theorem dX9_begin_29 : decode cX9_begin 29 = .ok (.iastore, 1) := by decide +kernel
theorem dX9_begin_30 : decode cX9_begin 30 = .ok (.aload_n 0, 1) := by decide +kernel
theorem dX9_begin_31 : decode cX9_begin 31 = .ok (.dup, 1) := by decide +kernel
theorem dX9_begin_32 : decode cX9_begin 32 = .ok (.getfield 54, 3) := by decide +kernel
theorem dX9_begin_35 : decode cX9_begin 35 = .ok (.iconst 1, 1) := by decide +kernel
theorem dX9_begin_36 : decode cX9_begin 36 = .ok (.iadd, 1) := by decide +kernel
theorem dX9_begin_37 : decode cX9_begin 37 = .ok (.putfield 54, 3) := by decide +kernel
theorem dX9_begin_40 : decode cX9_begin 40 = .ok (.iload 4, 2) := by decide +kernel
theorem dX9_begin_42 : decode cX9_begin 42 = .ok (.ireturn, 1) := by decide +kernel
theorem dX9_back_0 : decode cX9_back 0 = .ok (.aload_n 0, 1) := by decide +kernel
theorem dX9_back_1 : decode cX9_back 1 = .ok (.iload_n 1, 1) := by decide +kernel
theorem dX9_back_2 : decode cX9_back 2 = .ok (.invokevirtual 101, 3) := by decide +kernel
theorem dX9_back_5 : decode cX9_back 5 = .ok (.ifCond .eq 6, 3) := by decide +kernel
theorem dX9_back_8 : decode cX9_back 8 = .ok (.bipush (-101), 2) := by decide +kernel
theorem dX9_back_10 : decode cX9_back 10 = .ok (.ireturn, 1) := by decide +kernel
theorem dX9_back_11 : decode cX9_back 11 = .ok (.aload_n 0, 1) := by decide +kernel
theorem dX9_back_12 : decode cX9_back 12 = .ok (.getfield 19, 3) := by decide +kernel
theorem dX9_back_15 : decode cX9_back 15 = .ok (.iload_n 1, 1) := by decide +kernel
theorem dX9_back_16 : decode cX9_back 16 = .ok (.laload, 1) := by decide +kernel
theorem dX9_back_17 : decode cX9_back 17 = .ok (.ldc2_w 68, 3) := by decide +kernel
theorem dX9_back_20 : decode cX9_back 20 = .ok (.lcmp, 1) := by decide +kernel
theorem dX9_back_21 : decode cX9_back 21 = .ok (.ifCond .ne 6, 3) := by decide +kernel
theorem dX9_back_24 : decode cX9_back 24 = .ok (.bipush (-103), 2) := by decide +kernel
theorem dX9_back_26 : decode cX9_back 26 = .ok (.ireturn, 1) := by decide +kernel
theorem dX9_back_27 : decode cX9_back 27 = .ok (.aload_n 0, 1) := by decide +kernel
theorem dX9_back_28 : decode cX9_back 28 = .ok (.getfield 54, 3) := by decide +kernel
theorem dX9_back_31 : decode cX9_back 31 = .ok (.bipush 40, 2) := by decide +kernel
theorem dX9_back_33 : decode cX9_back 33 = .ok (.if_icmp .ne 6, 3) := by decide +kernel
theorem dX9_back_36 : decode cX9_back 36 = .ok (.bipush (-104), 2) := by decide +kernel
theorem dX9_back_38 : decode cX9_back 38 = .ok (.ireturn, 1) := by decide +kernel
theorem dX9_back_39 : decode cX9_back 39 = .ok (.aload_n 0, 1) := by decide +kernel
theorem dX9_back_40 : decode cX9_back 40 = .ok (.iconst 4, 1) := by decide +kernel
theorem dX9_back_41 : decode cX9_back 41 = .ok (.iconst 1, 1) := by decide +kernel
theorem dX9_back_42 : decode cX9_back 42 = .ok (.aload_n 0, 1) := by decide +kernel
theorem dX9_back_43 : decode cX9_back 43 = .ok (.getfield 16, 3) := by decide +kernel
theorem dX9_back_46 : decode cX9_back 46 = .ok (.iload_n 1, 1) := by decide +kernel
theorem dX9_back_47 : decode cX9_back 47 = .ok (.iaload, 1) := by decide +kernel
theorem dX9_back_48 : decode cX9_back 48 = .ok (.invokevirtual 105, 3) := by decide +kernel
theorem dX9_back_51 : decode cX9_back 51 = .ok (.istore_n 2, 1) := by decide +kernel
theorem dX9_back_52 : decode cX9_back 52 = .ok (.aload_n 0, 1) := by decide +kernel
theorem dX9_back_53 : decode cX9_back 53 = .ok (.iload_n 2, 1) := by decide +kernel
theorem dX9_back_54 : decode cX9_back 54 = .ok (.iconst 0, 1) := by decide +kernel
theorem dX9_back_55 : decode cX9_back 55 = .ok (.iload_n 1, 1) := by decide +kernel
theorem dX9_back_56 : decode cX9_back 56 = .ok (.iconst 1, 1) := by decide +kernel
theorem dX9_back_57 : decode cX9_back 57 = .ok (.invokevirtual 109, 3) := by decide +kernel
theorem dX9_back_60 : decode cX9_back 60 = .ok (.aload_n 0, 1) := by decide +kernel
theorem dX9_back_61 : decode cX9_back 61 = .ok (.getfield 19, 3) := by decide +kernel
theorem dX9_back_64 : decode cX9_back 64 = .ok (.iload_n 2, 1) := by decide +kernel
theorem dX9_back_65 : decode cX9_back 65 = .ok (.aload_n 0, 1) := by decide +kernel
theorem dX9_back_66 : decode cX9_back 66 = .ok (.iload_n 2, 1) := by decide +kernel
theorem dX9_back_67 : decode cX9_back 67 = .ok (.invokevirtual 113, 3) := by decide +kernel
theorem dX9_back_70 : decode cX9_back 70 = .ok (.lastore, 1) := by decide +kernel
theorem dX9_back_71 : decode cX9_back 71 = .ok (.iload_n 2, 1) := by decide +kernel
theorem dX9_back_72 : decode cX9_back 72 = .ok (.ireturn, 1) := by decide +kernel
theorem dX9_pair_0 : decode cX9_pair 0 = .ok (.aload_n 0, 1) := by decide +kernel
theorem dX9_pair_1 : decode cX9_pair 1 = .ok (.iload_n 1, 1) := by decide +kernel
theorem dX9_pair_2 : decode cX9_pair 2 = .ok (.invokevirtual 101, 3) := by decide +kernel
theorem dX9_pair_5 : decode cX9_pair 5 = .ok (.ifCond .ne 11, 3) := by decide +kernel
theorem dX9_pair_8 : decode cX9_pair 8 = .ok (.aload_n 0, 1) := by decide +kernel
theorem dX9_pair_9 : decode cX9_pair 9 = .ok (.iload_n 2, 1) := by decide +kernel
theorem dX9_pair_10 : decode cX9_pair 10 = .ok (.invokevirtual 101, 3) := by decide +kernel
theorem dX9_pair_13 : decode cX9_pair 13 = .ok (.ifCond .eq 6, 3) := by decide +kernel
theorem dX9_pair_16 : decode cX9_pair 16 = .ok (.bipush (-101), 2) := by decide +kernel
theorem dX9_pair_18 : decode cX9_pair 18 = .ok (.ireturn, 1) := by decide +kernel
theorem dX9_pair_19 : decode cX9_pair 19 = .ok (.aload_n 0, 1) := by decide +kernel
theorem dX9_pair_20 : decode cX9_pair 20 = .ok (.getfield 16, 3) := by decide +kernel
theorem dX9_pair_23 : decode cX9_pair 23 = .ok (.iload_n 1, 1) := by decide +kernel
theorem dX9_pair_24 : decode cX9_pair 24 = .ok (.iaload, 1) := by decide +kernel
theorem dX9_pair_25 : decode cX9_pair 25 = .ok (.aload_n 0, 1) := by decide +kernel
theorem dX9_pair_26 : decode cX9_pair 26 = .ok (.getfield 16, 3) := by decide +kernel
theorem dX9_pair_29 : decode cX9_pair 29 = .ok (.iload_n 2, 1) := by decide +kernel
theorem dX9_pair_30 : decode cX9_pair 30 = .ok (.iaload, 1) := by decide +kernel
theorem dX9_pair_31 : decode cX9_pair 31 = .ok (.iadd, 1) := by decide +kernel
theorem dX9_pair_32 : decode cX9_pair 32 = .ok (.bipush 8, 2) := by decide +kernel
theorem dX9_pair_34 : decode cX9_pair 34 = .ok (.if_icmp .le 6, 3) := by decide +kernel
theorem dX9_pair_37 : decode cX9_pair 37 = .ok (.bipush (-103), 2) := by decide +kernel
theorem dX9_pair_39 : decode cX9_pair 39 = .ok (.ireturn, 1) := by decide +kernel
theorem dX9_pair_40 : decode cX9_pair 40 = .ok (.aload_n 0, 1) := by decide +kernel
theorem dX9_pair_41 : decode cX9_pair 41 = .ok (.getfield 54, 3) := by decide +kernel
theorem dX9_pair_44 : decode cX9_pair 44 = .ok (.bipush 40, 2) := by decide +kernel
theorem dX9_pair_46 : decode cX9_pair 46 = .ok (.if_icmp .ne 6, 3) := by decide +kernel
theorem dX9_pair_49 : decode cX9_pair 49 = .ok (.bipush (-104), 2) := by decide +kernel
theorem dX9_pair_51 : decode cX9_pair 51 = .ok (.ireturn, 1) := by decide +kernel
theorem dX9_pair_52 : decode cX9_pair 52 = .ok (.aload_n 0, 1) := by decide +kernel
theorem dX9_pair_53 : decode cX9_pair 53 = .ok (.iconst 5, 1) := by decide +kernel
theorem dX9_pair_54 : decode cX9_pair 54 = .ok (.iconst 2, 1) := by decide +kernel
theorem dX9_pair_55 : decode cX9_pair 55 = .ok (.aload_n 0, 1) := by decide +kernel
theorem dX9_pair_56 : decode cX9_pair 56 = .ok (.getfield 16, 3) := by decide +kernel
theorem dX9_pair_59 : decode cX9_pair 59 = .ok (.iload_n 1, 1) := by decide +kernel
theorem dX9_pair_60 : decode cX9_pair 60 = .ok (.iaload, 1) := by decide +kernel
theorem dX9_pair_61 : decode cX9_pair 61 = .ok (.aload_n 0, 1) := by decide +kernel
theorem dX9_pair_62 : decode cX9_pair 62 = .ok (.getfield 16, 3) := by decide +kernel
theorem dX9_pair_65 : decode cX9_pair 65 = .ok (.iload_n 2, 1) := by decide +kernel
theorem dX9_pair_66 : decode cX9_pair 66 = .ok (.iaload, 1) := by decide +kernel
theorem dX9_pair_67 : decode cX9_pair 67 = .ok (.iadd, 1) := by decide +kernel
theorem dX9_pair_68 : decode cX9_pair 68 = .ok (.invokevirtual 105, 3) := by decide +kernel
theorem dX9_pair_71 : decode cX9_pair 71 = .ok (.istore_n 3, 1) := by decide +kernel
theorem dX9_pair_72 : decode cX9_pair 72 = .ok (.aload_n 0, 1) := by decide +kernel
theorem dX9_pair_73 : decode cX9_pair 73 = .ok (.iload_n 3, 1) := by decide +kernel
theorem dX9_pair_74 : decode cX9_pair 74 = .ok (.iconst 0, 1) := by decide +kernel
theorem dX9_pair_75 : decode cX9_pair 75 = .ok (.iload_n 1, 1) := by decide +kernel
theorem dX9_pair_76 : decode cX9_pair 76 = .ok (.iconst 0, 1) := by decide +kernel
theorem dX9_pair_77 : decode cX9_pair 77 = .ok (.invokevirtual 109, 3) := by decide +kernel
theorem dX9_pair_80 : decode cX9_pair 80 = .ok (.aload_n 0, 1) := by decide +kernel
theorem dX9_pair_81 : decode cX9_pair 81 = .ok (.iload_n 3, 1) := by decide +kernel
theorem dX9_pair_82 : decode cX9_pair 82 = .ok (.aload_n 0, 1) := by decide +kernel
theorem dX9_pair_83 : decode cX9_pair 83 = .ok (.getfield 16, 3) := by decide +kernel
theorem dX9_pair_86 : decode cX9_pair 86 = .ok (.iload_n 1, 1) := by decide +kernel
theorem dX9_pair_87 : decode cX9_pair 87 = .ok (.iaload, 1) := by decide +kernel
theorem dX9_pair_88 : decode cX9_pair 88 = .ok (.iload_n 2, 1) := by decide +kernel
theorem dX9_pair_89 : decode cX9_pair 89 = .ok (.iconst 0, 1) := by decide +kernel
theorem dX9_pair_90 : decode cX9_pair 90 = .ok (.invokevirtual 109, 3) := by decide +kernel
theorem dX9_pair_93 : decode cX9_pair 93 = .ok (.aload_n 0, 1) := by decide +kernel
theorem dX9_pair_94 : decode cX9_pair 94 = .ok (.getfield 19, 3) := by decide +kernel
theorem dX9_pair_97 : decode cX9_pair 97 = .ok (.iload_n 3, 1) := by decide +kernel
theorem dX9_pair_98 : decode cX9_pair 98 = .ok (.aload_n 0, 1) := by decide +kernel
theorem dX9_pair_99 : decode cX9_pair 99 = .ok (.iload_n 3, 1) := by decide +kernel
theorem dX9_pair_100 : decode cX9_pair 100 = .ok (.invokevirtual 113, 3) := by decide +kernel
theorem dX9_pair_103 : decode cX9_pair 103 = .ok (.lastore, 1) := by decide +kernel
theorem dX9_pair_104 : decode cX9_pair 104 = .ok (.iload_n 3, 1) := by decide +kernel
theorem dX9_pair_105 : decode cX9_pair 105 = .ok (.ireturn, 1) := by decide +kernel
theorem dX9_triple_0 : decode cX9_triple 0 = .ok (.aload_n 0, 1) := by decide +kernel
theorem dX9_triple_1 : decode cX9_triple 1 = .ok (.iload_n 1, 1) := by decide +kernel
theorem dX9_triple_2 : decode cX9_triple 2 = .ok (.invokevirtual 101, 3) := by decide +kernel
theorem dX9_triple_5 : decode cX9_triple 5 = .ok (.ifCond .ne 19, 3) := by decide +kernel
theorem dX9_triple_8 : decode cX9_triple 8 = .ok (.aload_n 0, 1) := by decide +kernel
theorem dX9_triple_9 : decode cX9_triple 9 = .ok (.iload_n 2, 1) := by decide +kernel
theorem dX9_triple_10 : decode cX9_triple 10 = .ok (.invokevirtual 101, 3) := by decide +kernel
theorem dX9_triple_13 : decode cX9_triple 13 = .ok (.ifCond .ne 11, 3) := by decide +kernel
theorem dX9_triple_16 : decode cX9_triple 16 = .ok (.aload_n 0, 1) := by decide +kernel
theorem dX9_triple_17 : decode cX9_triple 17 = .ok (.iload_n 3, 1) := by decide +kernel
theorem dX9_triple_18 : decode cX9_triple 18 = .ok (.invokevirtual 101, 3) := by decide +kernel
theorem dX9_triple_21 : decode cX9_triple 21 = .ok (.ifCond .eq 6, 3) := by decide +kernel
theorem dX9_triple_24 : decode cX9_triple 24 = .ok (.bipush (-101), 2) := by decide +kernel
theorem dX9_triple_26 : decode cX9_triple 26 = .ok (.ireturn, 1) := by decide +kernel
theorem dX9_triple_27 : decode cX9_triple 27 = .ok (.aload_n 0, 1) := by decide +kernel
theorem dX9_triple_28 : decode cX9_triple 28 = .ok (.getfield 16, 3) := by decide +kernel
theorem dX9_triple_31 : decode cX9_triple 31 = .ok (.iload_n 1, 1) := by decide +kernel
theorem dX9_triple_32 : decode cX9_triple 32 = .ok (.iaload, 1) := by decide +kernel
theorem dX9_triple_33 : decode cX9_triple 33 = .ok (.aload_n 0, 1) := by decide +kernel
theorem dX9_triple_34 : decode cX9_triple 34 = .ok (.getfield 16, 3) := by decide +kernel
theorem dX9_triple_37 : decode cX9_triple 37 = .ok (.iload_n 2, 1) := by decide +kernel
theorem dX9_triple_38 : decode cX9_triple 38 = .ok (.iaload, 1) := by decide +kernel
theorem dX9_triple_39 : decode cX9_triple 39 = .ok (.iadd, 1) := by decide +kernel
theorem dX9_triple_40 : decode cX9_triple 40 = .ok (.aload_n 0, 1) := by decide +kernel
theorem dX9_triple_41 : decode cX9_triple 41 = .ok (.getfield 16, 3) := by decide +kernel
theorem dX9_triple_44 : decode cX9_triple 44 = .ok (.iload_n 3, 1) := by decide +kernel
theorem dX9_triple_45 : decode cX9_triple 45 = .ok (.iaload, 1) := by decide +kernel
theorem dX9_triple_46 : decode cX9_triple 46 = .ok (.iadd, 1) := by decide +kernel
theorem dX9_triple_47 : decode cX9_triple 47 = .ok (.bipush 8, 2) := by decide +kernel
theorem dX9_triple_49 : decode cX9_triple 49 = .ok (.if_icmp .le 6, 3) := by decide +kernel
theorem dX9_triple_52 : decode cX9_triple 52 = .ok (.bipush (-103), 2) := by decide +kernel
theorem dX9_triple_54 : decode cX9_triple 54 = .ok (.ireturn, 1) := by decide +kernel
theorem dX9_triple_55 : decode cX9_triple 55 = .ok (.aload_n 0, 1) := by decide +kernel
theorem dX9_triple_56 : decode cX9_triple 56 = .ok (.getfield 54, 3) := by decide +kernel
theorem dX9_triple_59 : decode cX9_triple 59 = .ok (.bipush 40, 2) := by decide +kernel
theorem dX9_triple_61 : decode cX9_triple 61 = .ok (.if_icmp .ne 6, 3) := by decide +kernel
theorem dX9_triple_64 : decode cX9_triple 64 = .ok (.bipush (-104), 2) := by decide +kernel
theorem dX9_triple_66 : decode cX9_triple 66 = .ok (.ireturn, 1) := by decide +kernel
theorem dX9_triple_67 : decode cX9_triple 67 = .ok (.aload_n 0, 1) := by decide +kernel
theorem dX9_triple_68 : decode cX9_triple 68 = .ok (.bipush 6, 2) := by decide +kernel
theorem dX9_triple_70 : decode cX9_triple 70 = .ok (.iconst 3, 1) := by decide +kernel
theorem dX9_triple_71 : decode cX9_triple 71 = .ok (.aload_n 0, 1) := by decide +kernel
theorem dX9_triple_72 : decode cX9_triple 72 = .ok (.getfield 16, 3) := by decide +kernel
theorem dX9_triple_75 : decode cX9_triple 75 = .ok (.iload_n 1, 1) := by decide +kernel
theorem dX9_triple_76 : decode cX9_triple 76 = .ok (.iaload, 1) := by decide +kernel
theorem dX9_triple_77 : decode cX9_triple 77 = .ok (.aload_n 0, 1) := by decide +kernel
theorem dX9_triple_78 : decode cX9_triple 78 = .ok (.getfield 16, 3) := by decide +kernel
theorem dX9_triple_81 : decode cX9_triple 81 = .ok (.iload_n 2, 1) := by decide +kernel
theorem dX9_triple_82 : decode cX9_triple 82 = .ok (.iaload, 1) := by decide +kernel
theorem dX9_triple_83 : decode cX9_triple 83 = .ok (.iadd, 1) := by decide +kernel
theorem dX9_triple_84 : decode cX9_triple 84 = .ok (.aload_n 0, 1) := by decide +kernel
theorem dX9_triple_85 : decode cX9_triple 85 = .ok (.getfield 16, 3) := by decide +kernel
theorem dX9_triple_88 : decode cX9_triple 88 = .ok (.iload_n 3, 1) := by decide +kernel
theorem dX9_triple_89 : decode cX9_triple 89 = .ok (.iaload, 1) := by decide +kernel
theorem dX9_triple_90 : decode cX9_triple 90 = .ok (.iadd, 1) := by decide +kernel
theorem dX9_triple_91 : decode cX9_triple 91 = .ok (.invokevirtual 105, 3) := by decide +kernel
theorem dX9_triple_94 : decode cX9_triple 94 = .ok (.istore 4, 2) := by decide +kernel
theorem dX9_triple_96 : decode cX9_triple 96 = .ok (.aload_n 0, 1) := by decide +kernel
theorem dX9_triple_97 : decode cX9_triple 97 = .ok (.iload 4, 2) := by decide +kernel
theorem dX9_triple_99 : decode cX9_triple 99 = .ok (.iconst 0, 1) := by decide +kernel
theorem dX9_triple_100 : decode cX9_triple 100 = .ok (.iload_n 1, 1) := by decide +kernel
theorem dX9_triple_101 : decode cX9_triple 101 = .ok (.iconst 0, 1) := by decide +kernel
theorem dX9_triple_102 : decode cX9_triple 102 = .ok (.invokevirtual 109, 3) := by decide +kernel
theorem dX9_triple_105 : decode cX9_triple 105 = .ok (.aload_n 0, 1) := by decide +kernel
theorem dX9_triple_106 : decode cX9_triple 106 = .ok (.iload 4, 2) := by decide +kernel
theorem dX9_triple_108 : decode cX9_triple 108 = .ok (.aload_n 0, 1) := by decide +kernel
theorem dX9_triple_109 : decode cX9_triple 109 = .ok (.getfield 16, 3) := by decide +kernel
theorem dX9_triple_112 : decode cX9_triple 112 = .ok (.iload_n 1, 1) := by decide +kernel
theorem dX9_triple_113 : decode cX9_triple 113 = .ok (.iaload, 1) := by decide +kernel
theorem dX9_triple_114 : decode cX9_triple 114 = .ok (.iload_n 2, 1) := by decide +kernel
theorem dX9_triple_115 : decode cX9_triple 115 = .ok (.iconst 0, 1) := by decide +kernel
theorem dX9_triple_116 : decode cX9_triple 116 = .ok (.invokevirtual 109, 3) := by decide +kernel
theorem dX9_triple_119 : decode cX9_triple 119 = .ok (.aload_n 0, 1) := by decide +kernel
theorem dX9_triple_120 : decode cX9_triple 120 = .ok (.iload 4, 2) := by decide +kernel
theorem dX9_triple_122 : decode cX9_triple 122 = .ok (.aload_n 0, 1) := by decide +kernel
theorem dX9_triple_123 : decode cX9_triple 123 = .ok (.getfield 16, 3) := by decide +kernel
theorem dX9_triple_126 : decode cX9_triple 126 = .ok (.iload_n 1, 1) := by decide +kernel
theorem dX9_triple_127 : decode cX9_triple 127 = .ok (.iaload, 1) := by decide +kernel
theorem dX9_triple_128 : decode cX9_triple 128 = .ok (.aload_n 0, 1) := by decide +kernel
theorem dX9_triple_129 : decode cX9_triple 129 = .ok (.getfield 16, 3) := by decide +kernel
theorem dX9_triple_132 : decode cX9_triple 132 = .ok (.iload_n 2, 1) := by decide +kernel
theorem dX9_triple_133 : decode cX9_triple 133 = .ok (.iaload, 1) := by decide +kernel
theorem dX9_triple_134 : decode cX9_triple 134 = .ok (.iadd, 1) := by decide +kernel
theorem dX9_triple_135 : decode cX9_triple 135 = .ok (.iload_n 3, 1) := by decide +kernel
theorem dX9_triple_136 : decode cX9_triple 136 = .ok (.iconst 0, 1) := by decide +kernel
theorem dX9_triple_137 : decode cX9_triple 137 = .ok (.invokevirtual 109, 3) := by decide +kernel
theorem dX9_triple_140 : decode cX9_triple 140 = .ok (.aload_n 0, 1) := by decide +kernel
theorem dX9_triple_141 : decode cX9_triple 141 = .ok (.getfield 19, 3) := by decide +kernel
theorem dX9_triple_144 : decode cX9_triple 144 = .ok (.iload 4, 2) := by decide +kernel
theorem dX9_triple_146 : decode cX9_triple 146 = .ok (.aload_n 0, 1) := by decide +kernel
theorem dX9_triple_147 : decode cX9_triple 147 = .ok (.iload 4, 2) := by decide +kernel
theorem dX9_triple_149 : decode cX9_triple 149 = .ok (.invokevirtual 113, 3) := by decide +kernel
theorem dX9_triple_152 : decode cX9_triple 152 = .ok (.lastore, 1) := by decide +kernel
theorem dX9_triple_153 : decode cX9_triple 153 = .ok (.iload 4, 2) := by decide +kernel
theorem dX9_triple_155 : decode cX9_triple 155 = .ok (.ireturn, 1) := by decide +kernel
theorem dX9_told_0 : decode cX9_told 0 = .ok (.aload_n 0, 1) := by decide +kernel
theorem dX9_told_1 : decode cX9_told 1 = .ok (.iload_n 1, 1) := by decide +kernel
theorem dX9_told_2 : decode cX9_told 2 = .ok (.invokevirtual 101, 3) := by decide +kernel
theorem dX9_told_5 : decode cX9_told 5 = .ok (.ifCond .eq 6, 3) := by decide +kernel
theorem dX9_told_8 : decode cX9_told 8 = .ok (.bipush (-101), 2) := by decide +kernel
theorem dX9_told_10 : decode cX9_told 10 = .ok (.ireturn, 1) := by decide +kernel
theorem dX9_told_11 : decode cX9_told 11 = .ok (.iload_n 2, 1) := by decide +kernel
theorem dX9_told_12 : decode cX9_told 12 = .ok (.tableswitch 53 0 3 #[32, 39, 46, 39], 32) := by decide +kernel
theorem dX9_told_44 : decode cX9_told 44 = .ok (.aload_n 0, 1) := by decide +kernel
theorem dX9_told_45 : decode cX9_told 45 = .ok (.getfield 7, 3) := by decide +kernel
theorem dX9_told_48 : decode cX9_told 48 = .ok (.iload_n 1, 1) := by decide +kernel
theorem dX9_told_49 : decode cX9_told 49 = .ok (.iaload, 1) := by decide +kernel
theorem dX9_told_50 : decode cX9_told 50 = .ok (.ireturn, 1) := by decide +kernel
theorem dX9_told_51 : decode cX9_told 51 = .ok (.aload_n 0, 1) := by decide +kernel
theorem dX9_told_52 : decode cX9_told 52 = .ok (.getfield 16, 3) := by decide +kernel
theorem dX9_told_55 : decode cX9_told 55 = .ok (.iload_n 1, 1) := by decide +kernel
theorem dX9_told_56 : decode cX9_told 56 = .ok (.iaload, 1) := by decide +kernel
theorem dX9_told_57 : decode cX9_told 57 = .ok (.ireturn, 1) := by decide +kernel
theorem dX9_told_58 : decode cX9_told 58 = .ok (.aload_n 0, 1) := by decide +kernel
theorem dX9_told_59 : decode cX9_told 59 = .ok (.getfield 13, 3) := by decide +kernel
theorem dX9_told_62 : decode cX9_told 62 = .ok (.iload_n 1, 1) := by decide +kernel
theorem dX9_told_63 : decode cX9_told 63 = .ok (.iaload, 1) := by decide +kernel
theorem dX9_told_64 : decode cX9_told 64 = .ok (.ireturn, 1) := by decide +kernel
theorem dX9_told_65 : decode cX9_told 65 = .ok (.bipush (-102), 2) := by decide +kernel
theorem dX9_told_67 : decode cX9_told 67 = .ok (.ireturn, 1) := by decide +kernel
theorem dX9_size_0 : decode cX9_size 0 = .ok (.aload_n 0, 1) := by decide +kernel
theorem dX9_size_1 : decode cX9_size 1 = .ok (.iload_n 1, 1) := by decide +kernel
theorem dX9_size_2 : decode cX9_size 2 = .ok (.invokevirtual 101, 3) := by decide +kernel
theorem dX9_size_5 : decode cX9_size 5 = .ok (.ifCond .eq 9, 3) := by decide +kernel
theorem dX9_size_8 : decode cX9_size 8 = .ok (.ldc2_w 116, 3) := by decide +kernel
theorem dX9_size_11 : decode cX9_size 11 = .ok (.goto 9, 3) := by decide +kernel
theorem dX9_size_14 : decode cX9_size 14 = .ok (.aload_n 0, 1) := by decide +kernel
theorem dX9_size_15 : decode cX9_size 15 = .ok (.getfield 19, 3) := by decide +kernel
theorem dX9_size_18 : decode cX9_size 18 = .ok (.iload_n 1, 1) := by decide +kernel
theorem dX9_size_19 : decode cX9_size 19 = .ok (.laload, 1) := by decide +kernel
theorem dX9_size_20 : decode cX9_size 20 = .ok (.lreturn, 1) := by decide +kernel
theorem dX9_hold_0 : decode cX9_hold 0 = .ok (.aload_n 0, 1) := by decide +kernel
theorem dX9_hold_1 : decode cX9_hold 1 = .ok (.iload_n 1, 1) := by decide +kernel
theorem dX9_hold_2 : decode cX9_hold 2 = .ok (.i2l, 1) := by decide +kernel
theorem dX9_hold_3 : decode cX9_hold 3 = .ok (.lconst 0, 1) := by decide +kernel
theorem dX9_hold_4 : decode cX9_hold 4 = .ok (.ldc2_w 118, 3) := by decide +kernel
theorem dX9_hold_7 : decode cX9_hold 7 = .ok (.invokestatic 58, 3) := by decide +kernel
theorem dX9_hold_10 : decode cX9_hold 10 = .ok (.ifCond .eq 7, 3) := by decide +kernel
theorem dX9_hold_13 : decode cX9_hold 13 = .ok (.iconst 0, 1) := by decide +kernel
theorem dX9_hold_14 : decode cX9_hold 14 = .ok (.goto 4, 3) := by decide +kernel
theorem dX9_hold_17 : decode cX9_hold 17 = .ok (.iconst 1, 1) := by decide +kernel
theorem dX9_hold_18 : decode cX9_hold 18 = .ok (.putfield 65, 3) := by decide +kernel
theorem dX9_hold_21 : decode cX9_hold 21 = .ok (.aload_n 0, 1) := by decide +kernel
theorem dX9_hold_22 : decode cX9_hold 22 = .ok (.getfield 65, 3) := by decide +kernel
theorem dX9_hold_25 : decode cX9_hold 25 = .ok (.ifCond .le 5, 3) := by decide +kernel
theorem dX9_hold_28 : decode cX9_hold 28 = .ok (.lconst 0, 1) := by decide +kernel
theorem dX9_hold_29 : decode cX9_hold 29 = .ok (.lreturn, 1) := by decide +kernel
theorem dX9_hold_30 : decode cX9_hold 30 = .ok (.aload_n 0, 1) := by decide +kernel
theorem dX9_hold_31 : decode cX9_hold 31 = .ok (.getfield 42, 3) := by decide +kernel
theorem dX9_hold_34 : decode cX9_hold 34 = .ok (.iload_n 1, 1) := by decide +kernel
theorem dX9_hold_35 : decode cX9_hold 35 = .ok (.laload, 1) := by decide +kernel
theorem dX9_hold_36 : decode cX9_hold 36 = .ok (.lstore 4, 2) := by decide +kernel
theorem dX9_hold_38 : decode cX9_hold 38 = .ok (.aload_n 0, 1) := by decide +kernel
theorem dX9_hold_39 : decode cX9_hold 39 = .ok (.getfield 42, 3) := by decide +kernel
theorem dX9_hold_42 : decode cX9_hold 42 = .ok (.iload_n 1, 1) := by decide +kernel
theorem dX9_hold_43 : decode cX9_hold 43 = .ok (.lload_n 2, 1) := by decide +kernel
theorem dX9_hold_44 : decode cX9_hold 44 = .ok (.lastore, 1) := by decide +kernel
theorem dX9_hold_45 : decode cX9_hold 45 = .ok (.lload 4, 2) := by decide +kernel
theorem dX9_hold_47 : decode cX9_hold 47 = .ok (.lreturn, 1) := by decide +kernel
theorem dX9_held_0 : decode cX9_held 0 = .ok (.aload_n 0, 1) := by decide +kernel
theorem dX9_held_1 : decode cX9_held 1 = .ok (.iload_n 1, 1) := by decide +kernel
theorem dX9_held_2 : decode cX9_held 2 = .ok (.i2l, 1) := by decide +kernel
theorem dX9_held_3 : decode cX9_held 3 = .ok (.lconst 0, 1) := by decide +kernel
theorem dX9_held_4 : decode cX9_held 4 = .ok (.ldc2_w 118, 3) := by decide +kernel
theorem dX9_held_7 : decode cX9_held 7 = .ok (.invokestatic 58, 3) := by decide +kernel
theorem dX9_held_10 : decode cX9_held 10 = .ok (.ifCond .eq 7, 3) := by decide +kernel
theorem dX9_held_13 : decode cX9_held 13 = .ok (.iconst 0, 1) := by decide +kernel
theorem dX9_held_14 : decode cX9_held 14 = .ok (.goto 4, 3) := by decide +kernel
theorem dX9_held_17 : decode cX9_held 17 = .ok (.iconst 1, 1) := by decide +kernel
theorem dX9_held_18 : decode cX9_held 18 = .ok (.putfield 65, 3) := by decide +kernel
theorem dX9_held_21 : decode cX9_held 21 = .ok (.aload_n 0, 1) := by decide +kernel
theorem dX9_held_22 : decode cX9_held 22 = .ok (.getfield 65, 3) := by decide +kernel
theorem dX9_held_25 : decode cX9_held 25 = .ok (.ifCond .le 7, 3) := by decide +kernel
theorem dX9_held_28 : decode cX9_held 28 = .ok (.lconst 0, 1) := by decide +kernel
theorem dX9_held_29 : decode cX9_held 29 = .ok (.goto 9, 3) := by decide +kernel
theorem dX9_held_32 : decode cX9_held 32 = .ok (.aload_n 0, 1) := by decide +kernel
theorem dX9_held_33 : decode cX9_held 33 = .ok (.getfield 42, 3) := by decide +kernel
theorem dX9_held_36 : decode cX9_held 36 = .ok (.iload_n 1, 1) := by decide +kernel
theorem dX9_held_37 : decode cX9_held 37 = .ok (.laload, 1) := by decide +kernel
theorem dX9_held_38 : decode cX9_held 38 = .ok (.lreturn, 1) := by decide +kernel
theorem dX9_isHeld_0 : decode cX9_isHeld 0 = .ok (.iconst 0, 1) := by decide +kernel
theorem dX9_isHeld_1 : decode cX9_isHeld 1 = .ok (.istore_n 2, 1) := by decide +kernel
theorem dX9_isHeld_2 : decode cX9_isHeld 2 = .ok (.iload_n 2, 1) := by decide +kernel
theorem dX9_isHeld_3 : decode cX9_isHeld 3 = .ok (.aload_n 0, 1) := by decide +kernel
theorem dX9_isHeld_4 : decode cX9_isHeld 4 = .ok (.getfield 16, 3) := by decide +kernel
theorem dX9_isHeld_7 : decode cX9_isHeld 7 = .ok (.iload_n 1, 1) := by decide +kernel
theorem dX9_isHeld_8 : decode cX9_isHeld 8 = .ok (.iaload, 1) := by decide +kernel
theorem dX9_isHeld_9 : decode cX9_isHeld 9 = .ok (.if_icmp .ge 77, 3) := by decide +kernel
theorem dX9_isHeld_12 : decode cX9_isHeld 12 = .ok (.aload_n 0, 1) := by decide +kernel
theorem dX9_isHeld_13 : decode cX9_isHeld 13 = .ok (.getfield 32, 3) := by decide +kernel
theorem dX9_isHeld_16 : decode cX9_isHeld 16 = .ok (.bipush 8, 2) := by decide +kernel
theorem dX9_isHeld_18 : decode cX9_isHeld 18 = .ok (.iload_n 1, 1) := by decide +kernel
theorem dX9_isHeld_19 : decode cX9_isHeld 19 = .ok (.imul, 1) := by decide +kernel
theorem dX9_isHeld_20 : decode cX9_isHeld 20 = .ok (.iload_n 2, 1) := by decide +kernel
theorem dX9_isHeld_21 : decode cX9_isHeld 21 = .ok (.iadd, 1) := by decide +kernel
theorem dX9_isHeld_22 : decode cX9_isHeld 22 = .ok (.iaload, 1) := by decide +kernel
theorem dX9_isHeld_23 : decode cX9_isHeld 23 = .ok (.istore_n 3, 1) := by decide +kernel
theorem dX9_isHeld_24 : decode cX9_isHeld 24 = .ok (.aload_n 0, 1) := by decide +kernel
theorem dX9_isHeld_25 : decode cX9_isHeld 25 = .ok (.iload_n 3, 1) := by decide +kernel
theorem dX9_isHeld_26 : decode cX9_isHeld 26 = .ok (.aload_n 0, 1) := by decide +kernel
theorem dX9_isHeld_27 : decode cX9_isHeld 27 = .ok (.getfield 42, 3) := by decide +kernel
theorem dX9_isHeld_30 : decode cX9_isHeld 30 = .ok (.iload_n 2, 1) := by decide +kernel
theorem dX9_isHeld_31 : decode cX9_isHeld 31 = .ok (.laload, 1) := by decide +kernel
theorem dX9_isHeld_32 : decode cX9_isHeld 32 = .ok (.invokevirtual 120, 3) := by decide +kernel
theorem dX9_isHeld_35 : decode cX9_isHeld 35 = .ok (.ifCond .ne 45, 3) := by decide +kernel
theorem dX9_isHeld_38 : decode cX9_isHeld 38 = .ok (.aload_n 0, 1) := by decide +kernel
theorem dX9_isHeld_39 : decode cX9_isHeld 39 = .ok (.iconst 1, 1) := by decide +kernel
theorem dX9_isHeld_40 : decode cX9_isHeld 40 = .ok (.putfield 124, 3) := by decide +kernel
theorem dX9_isHeld_43 : decode cX9_isHeld 43 = .ok (.aload_n 0, 1) := by decide +kernel
theorem dX9_isHeld_44 : decode cX9_isHeld 44 = .ok (.iload_n 3, 1) := by decide +kernel
theorem dX9_isHeld_45 : decode cX9_isHeld 45 = .ok (.putfield 128, 3) := by decide +kernel
theorem dX9_isHeld_48 : decode cX9_isHeld 48 = .ok (.aload_n 0, 1) := by decide +kernel
theorem dX9_isHeld_49 : decode cX9_isHeld 49 = .ok (.iload_n 2, 1) := by decide +kernel
theorem dX9_isHeld_50 : decode cX9_isHeld 50 = .ok (.putfield 131, 3) := by decide +kernel
theorem dX9_isHeld_53 : decode cX9_isHeld 53 = .ok (.aload_n 0, 1) := by decide +kernel
theorem dX9_isHeld_54 : decode cX9_isHeld 54 = .ok (.aload_n 0, 1) := by decide +kernel
theorem dX9_isHeld_55 : decode cX9_isHeld 55 = .ok (.getfield 39, 3) := by decide +kernel
theorem dX9_isHeld_58 : decode cX9_isHeld 58 = .ok (.bipush 8, 2) := by decide +kernel
theorem dX9_isHeld_60 : decode cX9_isHeld 60 = .ok (.iload_n 1, 1) := by decide +kernel
theorem dX9_isHeld_61 : decode cX9_isHeld 61 = .ok (.imul, 1) := by decide +kernel
theorem dX9_isHeld_62 : decode cX9_isHeld 62 = .ok (.iload_n 2, 1) := by decide +kernel
theorem dX9_isHeld_63 : decode cX9_isHeld 63 = .ok (.iadd, 1) := by decide +kernel
theorem dX9_isHeld_64 : decode cX9_isHeld 64 = .ok (.iaload, 1) := by decide +kernel
theorem dX9_isHeld_65 : decode cX9_isHeld 65 = .ok (.putfield 134, 3) := by decide +kernel
theorem dX9_isHeld_68 : decode cX9_isHeld 68 = .ok (.aload_n 0, 1) := by decide +kernel
theorem dX9_isHeld_69 : decode cX9_isHeld 69 = .ok (.dup, 1) := by decide +kernel
theorem dX9_isHeld_70 : decode cX9_isHeld 70 = .ok (.getfield 137, 3) := by decide +kernel
theorem dX9_isHeld_73 : decode cX9_isHeld 73 = .ok (.iconst 1, 1) := by decide +kernel
theorem dX9_isHeld_74 : decode cX9_isHeld 74 = .ok (.iadd, 1) := by decide +kernel
theorem dX9_isHeld_75 : decode cX9_isHeld 75 = .ok (.putfield 137, 3) := by decide +kernel
theorem dX9_isHeld_78 : decode cX9_isHeld 78 = .ok (.iconst 0, 1) := by decide +kernel
theorem dX9_isHeld_79 : decode cX9_isHeld 79 = .ok (.ireturn, 1) := by decide +kernel
theorem dX9_isHeld_80 : decode cX9_isHeld 80 = .ok (.iinc 2 1, 3) := by decide +kernel
theorem dX9_isHeld_83 : decode cX9_isHeld 83 = .ok (.goto (-81), 3) := by decide +kernel
theorem dX9_isHeld_86 : decode cX9_isHeld 86 = .ok (.iconst 1, 1) := by decide +kernel
theorem dX9_isHeld_87 : decode cX9_isHeld 87 = .ok (.ireturn, 1) := by decide +kernel
theorem dX9_place_0 : decode cX9_place 0 = .ok (.lconst 0, 1) := by decide +kernel
theorem dX9_place_1 : decode cX9_place 1 = .ok (.lstore_n 2, 1) := by decide +kernel
theorem dX9_place_2 : decode cX9_place 2 = .ok (.iconst 0, 1) := by decide +kernel
theorem dX9_place_3 : decode cX9_place 3 = .ok (.istore 4, 2) := by decide +kernel
theorem dX9_place_5 : decode cX9_place 5 = .ok (.iload 4, 2) := by decide +kernel
theorem dX9_place_7 : decode cX9_place 7 = .ok (.aload_n 0, 1) := by decide +kernel
theorem dX9_place_8 : decode cX9_place 8 = .ok (.getfield 16, 3) := by decide +kernel
theorem dX9_place_11 : decode cX9_place 11 = .ok (.iload_n 1, 1) := by decide +kernel
theorem dX9_place_12 : decode cX9_place 12 = .ok (.iaload, 1) := by decide +kernel
theorem dX9_place_13 : decode cX9_place 13 = .ok (.if_icmp .ge 133, 3) := by decide +kernel
theorem dX9_place_16 : decode cX9_place 16 = .ok (.aload_n 0, 1) := by decide +kernel
theorem dX9_place_17 : decode cX9_place 17 = .ok (.getfield 32, 3) := by decide +kernel
theorem dX9_place_20 : decode cX9_place 20 = .ok (.bipush 8, 2) := by decide +kernel
theorem dX9_place_22 : decode cX9_place 22 = .ok (.iload_n 1, 1) := by decide +kernel
theorem dX9_place_23 : decode cX9_place 23 = .ok (.imul, 1) := by decide +kernel
theorem dX9_place_24 : decode cX9_place 24 = .ok (.iload 4, 2) := by decide +kernel
theorem dX9_place_26 : decode cX9_place 26 = .ok (.iadd, 1) := by decide +kernel
theorem dX9_place_27 : decode cX9_place 27 = .ok (.iaload, 1) := by decide +kernel
theorem dX9_place_28 : decode cX9_place 28 = .ok (.istore 5, 2) := by decide +kernel
theorem dX9_place_30 : decode cX9_place 30 = .ok (.aload_n 0, 1) := by decide +kernel
theorem dX9_place_31 : decode cX9_place 31 = .ok (.iload 5, 2) := by decide +kernel
theorem dX9_place_33 : decode cX9_place 33 = .ok (.aload_n 0, 1) := by decide +kernel
theorem dX9_place_34 : decode cX9_place 34 = .ok (.getfield 42, 3) := by decide +kernel
theorem dX9_place_37 : decode cX9_place 37 = .ok (.iload 4, 2) := by decide +kernel
theorem dX9_place_39 : decode cX9_place 39 = .ok (.laload, 1) := by decide +kernel
theorem dX9_place_40 : decode cX9_place 40 = .ok (.invokevirtual 140, 3) := by decide +kernel
theorem dX9_place_43 : decode cX9_place 43 = .ok (.lstore 6, 2) := by decide +kernel
theorem dX9_place_45 : decode cX9_place 45 = .ok (.aload_n 0, 1) := by decide +kernel
theorem dX9_place_46 : decode cX9_place 46 = .ok (.getfield 35, 3) := by decide +kernel
theorem dX9_place_49 : decode cX9_place 49 = .ok (.bipush 8, 2) := by decide +kernel
theorem dX9_place_51 : decode cX9_place 51 = .ok (.iload_n 1, 1) := by decide +kernel
theorem dX9_place_52 : decode cX9_place 52 = .ok (.imul, 1) := by decide +kernel
theorem dX9_place_53 : decode cX9_place 53 = .ok (.iload 4, 2) := by decide +kernel
theorem dX9_place_55 : decode cX9_place 55 = .ok (.iadd, 1) := by decide +kernel
theorem dX9_place_56 : decode cX9_place 56 = .ok (.baload, 1) := by decide +kernel
theorem dX9_place_57 : decode cX9_place 57 = .ok (.ifCond .eq 18, 3) := by decide +kernel
theorem dX9_place_60 : decode cX9_place 60 = .ok (.aload_n 0, 1) := by decide +kernel
theorem dX9_place_61 : decode cX9_place 61 = .ok (.getfield 19, 3) := by decide +kernel
theorem dX9_place_64 : decode cX9_place 64 = .ok (.iload 5, 2) := by decide +kernel
theorem dX9_place_66 : decode cX9_place 66 = .ok (.laload, 1) := by decide +kernel
theorem dX9_place_67 : decode cX9_place 67 = .ok (.lconst 1, 1) := by decide +kernel
theorem dX9_place_68 : decode cX9_place 68 = .ok (.lsub, 1) := by decide +kernel
theorem dX9_place_69 : decode cX9_place 69 = .ok (.lload 6, 2) := by decide +kernel
theorem dX9_place_71 : decode cX9_place 71 = .ok (.lsub, 1) := by decide +kernel
theorem dX9_place_72 : decode cX9_place 72 = .ok (.goto 5, 3) := by decide +kernel
theorem dX9_place_75 : decode cX9_place 75 = .ok (.lload 6, 2) := by decide +kernel
theorem dX9_place_77 : decode cX9_place 77 = .ok (.lstore 6, 2) := by decide +kernel
theorem dX9_place_79 : decode cX9_place 79 = .ok (.lload_n 2, 1) := by decide +kernel
theorem dX9_place_80 : decode cX9_place 80 = .ok (.aload_n 0, 1) := by decide +kernel
theorem dX9_place_81 : decode cX9_place 81 = .ok (.getfield 19, 3) := by decide +kernel
theorem dX9_place_84 : decode cX9_place 84 = .ok (.iload 5, 2) := by decide +kernel
theorem dX9_place_86 : decode cX9_place 86 = .ok (.laload, 1) := by decide +kernel
theorem dX9_place_87 : decode cX9_place 87 = .ok (.invokestatic 97, 3) := by decide +kernel
theorem dX9_place_90 : decode cX9_place 90 = .ok (.lstore 8, 2) := by decide +kernel
theorem dX9_place_92 : decode cX9_place 92 = .ok (.lload_n 2, 1) := by decide +kernel
theorem dX9_place_93 : decode cX9_place 93 = .ok (.ldc2_w 68, 3) := by decide +kernel
theorem dX9_place_96 : decode cX9_place 96 = .ok (.lcmp, 1) := by decide +kernel
theorem dX9_place_97 : decode cX9_place 97 = .ok (.ifCond .eq 31, 3) := by decide +kernel
theorem dX9_place_100 : decode cX9_place 100 = .ok (.lload 8, 2) := by decide +kernel
theorem dX9_place_102 : decode cX9_place 102 = .ok (.ldc2_w 68, 3) := by decide +kernel
theorem dX9_place_105 : decode cX9_place 105 = .ok (.lcmp, 1) := by decide +kernel
theorem dX9_place_106 : decode cX9_place 106 = .ok (.ifCond .eq 22, 3) := by decide +kernel
theorem dX9_place_109 : decode cX9_place 109 = .ok (.lload 6, 2) := by decide +kernel
theorem dX9_place_111 : decode cX9_place 111 = .ok (.lconst 0, 1) := by decide +kernel
theorem dX9_place_112 : decode cX9_place 112 = .ok (.lcmp, 1) := by decide +kernel
theorem dX9_place_113 : decode cX9_place 113 = .ok (.ifCond .lt 15, 3) := by decide +kernel
theorem dX9_place_116 : decode cX9_place 116 = .ok (.lload 8, 2) := by decide +kernel
theorem dX9_place_118 : decode cX9_place 118 = .ok (.ldc2_w 76, 3) := by decide +kernel
theorem dX9_place_121 : decode cX9_place 121 = .ok (.lload 6, 2) := by decide +kernel
theorem dX9_place_123 : decode cX9_place 123 = .ok (.lsub, 1) := by decide +kernel
theorem dX9_place_124 : decode cX9_place 124 = .ok (.lcmp, 1) := by decide +kernel
theorem dX9_place_125 : decode cX9_place 125 = .ok (.ifCond .le 9, 3) := by decide +kernel
theorem dX9_place_128 : decode cX9_place 128 = .ok (.ldc2_w 68, 3) := by decide +kernel
theorem dX9_place_131 : decode cX9_place 131 = .ok (.goto 8, 3) := by decide +kernel
theorem dX9_place_134 : decode cX9_place 134 = .ok (.lload 8, 2) := by decide +kernel
theorem dX9_place_136 : decode cX9_place 136 = .ok (.lload 6, 2) := by decide +kernel
theorem dX9_place_138 : decode cX9_place 138 = .ok (.ladd, 1) := by decide +kernel
theorem dX9_place_139 : decode cX9_place 139 = .ok (.lstore_n 2, 1) := by decide +kernel
theorem dX9_place_140 : decode cX9_place 140 = .ok (.iinc 4 1, 3) := by decide +kernel
theorem dX9_place_143 : decode cX9_place 143 = .ok (.goto (-138), 3) := by decide +kernel
theorem dX9_place_146 : decode cX9_place 146 = .ok (.lload_n 2, 1) := by decide +kernel
theorem dX9_place_147 : decode cX9_place 147 = .ok (.lreturn, 1) := by decide +kernel
theorem dX9_lay_0 : decode cX9_lay 0 = .ok (.lload_n 2, 1) := by decide +kernel
theorem dX9_lay_1 : decode cX9_lay 1 = .ok (.lstore 5, 2) := by decide +kernel
theorem dX9_lay_3 : decode cX9_lay 3 = .ok (.aload_n 0, 1) := by decide +kernel
theorem dX9_lay_4 : decode cX9_lay 4 = .ok (.getfield 16, 3) := by decide +kernel
theorem dX9_lay_7 : decode cX9_lay 7 = .ok (.iload_n 1, 1) := by decide +kernel
theorem dX9_lay_8 : decode cX9_lay 8 = .ok (.iaload, 1) := by decide +kernel
theorem dX9_lay_9 : decode cX9_lay 9 = .ok (.iconst 1, 1) := by decide +kernel
theorem dX9_lay_10 : decode cX9_lay 10 = .ok (.isub, 1) := by decide +kernel
theorem dX9_lay_11 : decode cX9_lay 11 = .ok (.istore 7, 2) := by decide +kernel
theorem dX9_lay_13 : decode cX9_lay 13 = .ok (.iload 7, 2) := by decide +kernel
theorem dX9_lay_15 : decode cX9_lay 15 = .ok (.ifCond .lt 127, 3) := by decide +kernel
theorem dX9_lay_18 : decode cX9_lay 18 = .ok (.aload_n 0, 1) := by decide +kernel
theorem dX9_lay_19 : decode cX9_lay 19 = .ok (.getfield 32, 3) := by decide +kernel
theorem dX9_lay_22 : decode cX9_lay 22 = .ok (.bipush 8, 2) := by decide +kernel
theorem dX9_lay_24 : decode cX9_lay 24 = .ok (.iload_n 1, 1) := by decide +kernel
theorem dX9_lay_25 : decode cX9_lay 25 = .ok (.imul, 1) := by decide +kernel
theorem dX9_lay_26 : decode cX9_lay 26 = .ok (.iload 7, 2) := by decide +kernel
theorem dX9_lay_28 : decode cX9_lay 28 = .ok (.iadd, 1) := by decide +kernel
theorem dX9_lay_29 : decode cX9_lay 29 = .ok (.iaload, 1) := by decide +kernel
theorem dX9_lay_30 : decode cX9_lay 30 = .ok (.istore 8, 2) := by decide +kernel
theorem dX9_lay_32 : decode cX9_lay 32 = .ok (.aload_n 0, 1) := by decide +kernel
theorem dX9_lay_33 : decode cX9_lay 33 = .ok (.getfield 19, 3) := by decide +kernel
theorem dX9_lay_36 : decode cX9_lay 36 = .ok (.iload 8, 2) := by decide +kernel
theorem dX9_lay_38 : decode cX9_lay 38 = .ok (.laload, 1) := by decide +kernel
theorem dX9_lay_39 : decode cX9_lay 39 = .ok (.ldc2_w 68, 3) := by decide +kernel
theorem dX9_lay_42 : decode cX9_lay 42 = .ok (.lcmp, 1) := by decide +kernel
theorem dX9_lay_43 : decode cX9_lay 43 = .ok (.ifCond .ne 8, 3) := by decide +kernel
theorem dX9_lay_46 : decode cX9_lay 46 = .ok (.lload 5, 2) := by decide +kernel
theorem dX9_lay_48 : decode cX9_lay 48 = .ok (.goto 13, 3) := by decide +kernel
theorem dX9_lay_51 : decode cX9_lay 51 = .ok (.lload 5, 2) := by decide +kernel
theorem dX9_lay_53 : decode cX9_lay 53 = .ok (.aload_n 0, 1) := by decide +kernel
theorem dX9_lay_54 : decode cX9_lay 54 = .ok (.getfield 19, 3) := by decide +kernel
theorem dX9_lay_57 : decode cX9_lay 57 = .ok (.iload 8, 2) := by decide +kernel
theorem dX9_lay_59 : decode cX9_lay 59 = .ok (.laload, 1) := by decide +kernel
theorem dX9_lay_60 : decode cX9_lay 60 = .ok (.lrem, 1) := by decide +kernel
theorem dX9_lay_61 : decode cX9_lay 61 = .ok (.lstore 9, 2) := by decide +kernel
theorem dX9_lay_63 : decode cX9_lay 63 = .ok (.aload_n 0, 1) := by decide +kernel
theorem dX9_lay_64 : decode cX9_lay 64 = .ok (.getfield 19, 3) := by decide +kernel
theorem dX9_lay_67 : decode cX9_lay 67 = .ok (.iload 8, 2) := by decide +kernel
theorem dX9_lay_69 : decode cX9_lay 69 = .ok (.laload, 1) := by decide +kernel
theorem dX9_lay_70 : decode cX9_lay 70 = .ok (.ldc2_w 68, 3) := by decide +kernel
theorem dX9_lay_73 : decode cX9_lay 73 = .ok (.lcmp, 1) := by decide +kernel
theorem dX9_lay_74 : decode cX9_lay 74 = .ok (.ifCond .ne 7, 3) := by decide +kernel
theorem dX9_lay_77 : decode cX9_lay 77 = .ok (.lconst 0, 1) := by decide +kernel
theorem dX9_lay_78 : decode cX9_lay 78 = .ok (.goto 13, 3) := by decide +kernel
theorem dX9_lay_81 : decode cX9_lay 81 = .ok (.lload 5, 2) := by decide +kernel
theorem dX9_lay_83 : decode cX9_lay 83 = .ok (.aload_n 0, 1) := by decide +kernel
theorem dX9_lay_84 : decode cX9_lay 84 = .ok (.getfield 19, 3) := by decide +kernel
theorem dX9_lay_87 : decode cX9_lay 87 = .ok (.iload 8, 2) := by decide +kernel
theorem dX9_lay_89 : decode cX9_lay 89 = .ok (.laload, 1) := by decide +kernel
theorem dX9_lay_90 : decode cX9_lay 90 = .ok (.ldiv, 1) := by decide +kernel
theorem dX9_lay_91 : decode cX9_lay 91 = .ok (.lstore 5, 2) := by decide +kernel
theorem dX9_lay_93 : decode cX9_lay 93 = .ok (.aload 4, 2) := by decide +kernel
theorem dX9_lay_95 : decode cX9_lay 95 = .ok (.iload 7, 2) := by decide +kernel
theorem dX9_lay_97 : decode cX9_lay 97 = .ok (.aload_n 0, 1) := by decide +kernel
theorem dX9_lay_98 : decode cX9_lay 98 = .ok (.iload 8, 2) := by decide +kernel
theorem dX9_lay_100 : decode cX9_lay 100 = .ok (.aload_n 0, 1) := by decide +kernel
theorem dX9_lay_101 : decode cX9_lay 101 = .ok (.getfield 35, 3) := by decide +kernel
theorem dX9_lay_104 : decode cX9_lay 104 = .ok (.bipush 8, 2) := by decide +kernel
theorem dX9_lay_106 : decode cX9_lay 106 = .ok (.iload_n 1, 1) := by decide +kernel
theorem dX9_lay_107 : decode cX9_lay 107 = .ok (.imul, 1) := by decide +kernel
theorem dX9_lay_108 : decode cX9_lay 108 = .ok (.iload 7, 2) := by decide +kernel
theorem dX9_lay_110 : decode cX9_lay 110 = .ok (.iadd, 1) := by decide +kernel
theorem dX9_lay_111 : decode cX9_lay 111 = .ok (.baload, 1) := by decide +kernel
theorem dX9_lay_112 : decode cX9_lay 112 = .ok (.ifCond .eq 18, 3) := by decide +kernel
theorem dX9_lay_115 : decode cX9_lay 115 = .ok (.aload_n 0, 1) := by decide +kernel
theorem dX9_lay_116 : decode cX9_lay 116 = .ok (.getfield 19, 3) := by decide +kernel
theorem dX9_lay_119 : decode cX9_lay 119 = .ok (.iload 8, 2) := by decide +kernel
theorem dX9_lay_121 : decode cX9_lay 121 = .ok (.laload, 1) := by decide +kernel
theorem dX9_lay_122 : decode cX9_lay 122 = .ok (.lconst 1, 1) := by decide +kernel
theorem dX9_lay_123 : decode cX9_lay 123 = .ok (.lsub, 1) := by decide +kernel
theorem dX9_lay_124 : decode cX9_lay 124 = .ok (.lload 9, 2) := by decide +kernel
theorem dX9_lay_126 : decode cX9_lay 126 = .ok (.lsub, 1) := by decide +kernel
theorem dX9_lay_127 : decode cX9_lay 127 = .ok (.goto 5, 3) := by decide +kernel
theorem dX9_lay_130 : decode cX9_lay 130 = .ok (.lload 9, 2) := by decide +kernel
theorem dX9_lay_132 : decode cX9_lay 132 = .ok (.invokevirtual 144, 3) := by decide +kernel
theorem dX9_lay_135 : decode cX9_lay 135 = .ok (.lastore, 1) := by decide +kernel
theorem dX9_lay_136 : decode cX9_lay 136 = .ok (.iinc 7 (-1), 3) := by decide +kernel
theorem dX9_lay_139 : decode cX9_lay 139 = .ok (.goto (-126), 3) := by decide +kernel
theorem dX9_lay_142 : decode cX9_lay 142 = .ok (.return_, 1) := by decide +kernel
theorem dX9_hasPlace_0 : decode cX9_hasPlace 0 = .ok (.lload_n 2, 1) := by decide +kernel
theorem dX9_hasPlace_1 : decode cX9_hasPlace 1 = .ok (.lconst 0, 1) := by decide +kernel
theorem dX9_hasPlace_2 : decode cX9_hasPlace 2 = .ok (.lcmp, 1) := by decide +kernel
theorem dX9_hasPlace_3 : decode cX9_hasPlace 3 = .ok (.ifCond .lt 31, 3) := by decide +kernel
theorem dX9_hasPlace_6 : decode cX9_hasPlace 6 = .ok (.aload_n 0, 1) := by decide +kernel
theorem dX9_hasPlace_7 : decode cX9_hasPlace 7 = .ok (.getfield 19, 3) := by decide +kernel
theorem dX9_hasPlace_10 : decode cX9_hasPlace 10 = .ok (.iload_n 1, 1) := by decide +kernel
theorem dX9_hasPlace_11 : decode cX9_hasPlace 11 = .ok (.laload, 1) := by decide +kernel
theorem dX9_hasPlace_12 : decode cX9_hasPlace 12 = .ok (.ldc2_w 68, 3) := by decide +kernel
theorem dX9_hasPlace_15 : decode cX9_hasPlace 15 = .ok (.lcmp, 1) := by decide +kernel
theorem dX9_hasPlace_16 : decode cX9_hasPlace 16 = .ok (.ifCond .eq 14, 3) := by decide +kernel
theorem dX9_hasPlace_19 : decode cX9_hasPlace 19 = .ok (.lload_n 2, 1) := by decide +kernel
theorem dX9_hasPlace_20 : decode cX9_hasPlace 20 = .ok (.aload_n 0, 1) := by decide +kernel
theorem dX9_hasPlace_21 : decode cX9_hasPlace 21 = .ok (.getfield 19, 3) := by decide +kernel
theorem dX9_hasPlace_24 : decode cX9_hasPlace 24 = .ok (.iload_n 1, 1) := by decide +kernel
theorem dX9_hasPlace_25 : decode cX9_hasPlace 25 = .ok (.laload, 1) := by decide +kernel
theorem dX9_hasPlace_26 : decode cX9_hasPlace 26 = .ok (.lcmp, 1) := by decide +kernel
theorem dX9_hasPlace_27 : decode cX9_hasPlace 27 = .ok (.ifCond .ge 7, 3) := by decide +kernel
theorem dX9_hasPlace_30 : decode cX9_hasPlace 30 = .ok (.iconst 1, 1) := by decide +kernel
theorem dX9_hasPlace_31 : decode cX9_hasPlace 31 = .ok (.goto 4, 3) := by decide +kernel
theorem dX9_hasPlace_34 : decode cX9_hasPlace 34 = .ok (.iconst 0, 1) := by decide +kernel
theorem dX9_hasPlace_35 : decode cX9_hasPlace 35 = .ok (.ireturn, 1) := by decide +kernel
theorem dX9_index_0 : decode cX9_index 0 = .ok (.aload_n 0, 1) := by decide +kernel
theorem dX9_index_1 : decode cX9_index 1 = .ok (.iconst 0, 1) := by decide +kernel
theorem dX9_index_2 : decode cX9_index 2 = .ok (.putfield 65, 3) := by decide +kernel
theorem dX9_index_5 : decode cX9_index 5 = .ok (.aload_n 0, 1) := by decide +kernel
theorem dX9_index_6 : decode cX9_index 6 = .ok (.iload_n 1, 1) := by decide +kernel
theorem dX9_index_7 : decode cX9_index 7 = .ok (.invokevirtual 101, 3) := by decide +kernel
theorem dX9_index_10 : decode cX9_index 10 = .ok (.ifCond .eq 7, 3) := by decide +kernel
theorem dX9_index_13 : decode cX9_index 13 = .ok (.ldc2_w 116, 3) := by decide +kernel
theorem dX9_index_16 : decode cX9_index 16 = .ok (.lreturn, 1) := by decide +kernel
theorem dX9_index_17 : decode cX9_index 17 = .ok (.aload_n 0, 1) := by decide +kernel
theorem dX9_index_18 : decode cX9_index 18 = .ok (.iload_n 1, 1) := by decide +kernel
theorem dX9_index_19 : decode cX9_index 19 = .ok (.invokevirtual 147, 3) := by decide +kernel
theorem dX9_index_22 : decode cX9_index 22 = .ok (.ifCond .ne 10, 3) := by decide +kernel
theorem dX9_index_25 : decode cX9_index 25 = .ok (.aload_n 0, 1) := by decide +kernel
theorem dX9_index_26 : decode cX9_index 26 = .ok (.iconst 1, 1) := by decide +kernel
theorem dX9_index_27 : decode cX9_index 27 = .ok (.putfield 65, 3) := by decide +kernel
theorem dX9_index_30 : decode cX9_index 30 = .ok (.lconst 0, 1) := by decide +kernel
theorem dX9_index_31 : decode cX9_index 31 = .ok (.lreturn, 1) := by decide +kernel
theorem dX9_index_32 : decode cX9_index 32 = .ok (.aload_n 0, 1) := by decide +kernel
theorem dX9_index_33 : decode cX9_index 33 = .ok (.iload_n 1, 1) := by decide +kernel
theorem dX9_index_34 : decode cX9_index 34 = .ok (.invokevirtual 150, 3) := by decide +kernel
theorem dX9_index_37 : decode cX9_index 37 = .ok (.lreturn, 1) := by decide +kernel
theorem dX9_has_0 : decode cX9_has 0 = .ok (.aload_n 0, 1) := by decide +kernel
theorem dX9_has_1 : decode cX9_has 1 = .ok (.iload_n 1, 1) := by decide +kernel
theorem dX9_has_2 : decode cX9_has 2 = .ok (.invokevirtual 101, 3) := by decide +kernel
theorem dX9_has_5 : decode cX9_has 5 = .ok (.ifCond .eq 8, 3) := by decide +kernel
theorem dX9_has_8 : decode cX9_has 8 = .ok (.bipush (-101), 2) := by decide +kernel
theorem dX9_has_10 : decode cX9_has 10 = .ok (.goto 16, 3) := by decide +kernel
theorem dX9_has_13 : decode cX9_has 13 = .ok (.aload_n 0, 1) := by decide +kernel
theorem dX9_has_14 : decode cX9_has 14 = .ok (.iload_n 1, 1) := by decide +kernel
theorem dX9_has_15 : decode cX9_has 15 = .ok (.invokevirtual 147, 3) := by decide +kernel
theorem dX9_has_18 : decode cX9_has 18 = .ok (.ifCond .eq 7, 3) := by decide +kernel
theorem dX9_has_21 : decode cX9_has 21 = .ok (.iconst 1, 1) := by decide +kernel
theorem dX9_has_22 : decode cX9_has 22 = .ok (.goto 4, 3) := by decide +kernel
theorem dX9_has_25 : decode cX9_has 25 = .ok (.iconst 0, 1) := by decide +kernel
theorem dX9_has_26 : decode cX9_has 26 = .ok (.ireturn, 1) := by decide +kernel
theorem dX9_element_0 : decode cX9_element 0 = .ok (.aload_n 0, 1) := by decide +kernel
theorem dX9_element_1 : decode cX9_element 1 = .ok (.iconst 0, 1) := by decide +kernel
theorem dX9_element_2 : decode cX9_element 2 = .ok (.putfield 65, 3) := by decide +kernel
theorem dX9_element_5 : decode cX9_element 5 = .ok (.aload_n 0, 1) := by decide +kernel
theorem dX9_element_6 : decode cX9_element 6 = .ok (.iload_n 1, 1) := by decide +kernel
theorem dX9_element_7 : decode cX9_element 7 = .ok (.invokevirtual 101, 3) := by decide +kernel
theorem dX9_element_10 : decode cX9_element 10 = .ok (.ifCond .eq 6, 3) := by decide +kernel
theorem dX9_element_13 : decode cX9_element 13 = .ok (.bipush (-101), 2) := by decide +kernel
theorem dX9_element_15 : decode cX9_element 15 = .ok (.ireturn, 1) := by decide +kernel
theorem dX9_element_16 : decode cX9_element 16 = .ok (.aload_n 0, 1) := by decide +kernel
theorem dX9_element_17 : decode cX9_element 17 = .ok (.iload_n 1, 1) := by decide +kernel
theorem dX9_element_18 : decode cX9_element 18 = .ok (.lload_n 2, 1) := by decide +kernel
theorem dX9_element_19 : decode cX9_element 19 = .ok (.invokevirtual 153, 3) := by decide +kernel
theorem dX9_element_22 : decode cX9_element 22 = .ok (.ifCond .ne 10, 3) := by decide +kernel
theorem dX9_element_25 : decode cX9_element 25 = .ok (.aload_n 0, 1) := by decide +kernel
theorem dX9_element_26 : decode cX9_element 26 = .ok (.iconst 1, 1) := by decide +kernel
theorem dX9_element_27 : decode cX9_element 27 = .ok (.putfield 65, 3) := by decide +kernel
theorem dX9_element_30 : decode cX9_element 30 = .ok (.iconst 0, 1) := by decide +kernel
theorem dX9_element_31 : decode cX9_element 31 = .ok (.ireturn, 1) := by decide +kernel
theorem dX9_element_32 : decode cX9_element 32 = .ok (.aload_n 0, 1) := by decide +kernel
theorem dX9_element_33 : decode cX9_element 33 = .ok (.iload_n 1, 1) := by decide +kernel
theorem dX9_element_34 : decode cX9_element 34 = .ok (.lload_n 2, 1) := by decide +kernel
theorem dX9_element_35 : decode cX9_element 35 = .ok (.aload_n 0, 1) := by decide +kernel
theorem dX9_element_36 : decode cX9_element 36 = .ok (.getfield 42, 3) := by decide +kernel
theorem dX9_element_39 : decode cX9_element 39 = .ok (.invokevirtual 156, 3) := by decide +kernel
theorem dX9_element_42 : decode cX9_element 42 = .ok (.aload_n 0, 1) := by decide +kernel
theorem dX9_element_43 : decode cX9_element 43 = .ok (.getfield 16, 3) := by decide +kernel
theorem dX9_element_46 : decode cX9_element 46 = .ok (.iload_n 1, 1) := by decide +kernel
theorem dX9_element_47 : decode cX9_element 47 = .ok (.iaload, 1) := by decide +kernel
theorem dX9_element_48 : decode cX9_element 48 = .ok (.ireturn, 1) := by decide +kernel
theorem dX9_go_0 : decode cX9_go 0 = .ok (.aload_n 0, 1) := by decide +kernel
theorem dX9_go_1 : decode cX9_go 1 = .ok (.iconst 0, 1) := by decide +kernel
theorem dX9_go_2 : decode cX9_go 2 = .ok (.putfield 65, 3) := by decide +kernel
theorem dX9_go_5 : decode cX9_go 5 = .ok (.aload_n 0, 1) := by decide +kernel
theorem dX9_go_6 : decode cX9_go 6 = .ok (.iload_n 1, 1) := by decide +kernel
theorem dX9_go_7 : decode cX9_go 7 = .ok (.invokevirtual 101, 3) := by decide +kernel
theorem dX9_go_10 : decode cX9_go 10 = .ok (.ifCond .eq 7, 3) := by decide +kernel
theorem dX9_go_13 : decode cX9_go 13 = .ok (.ldc2_w 116, 3) := by decide +kernel
theorem dX9_go_16 : decode cX9_go 16 = .ok (.lreturn, 1) := by decide +kernel
theorem dX9_go_17 : decode cX9_go 17 = .ok (.aload_n 0, 1) := by decide +kernel
theorem dX9_go_18 : decode cX9_go 18 = .ok (.iload_n 1, 1) := by decide +kernel
theorem dX9_go_19 : decode cX9_go 19 = .ok (.invokevirtual 147, 3) := by decide +kernel
theorem dX9_go_22 : decode cX9_go 22 = .ok (.ifCond .ne 10, 3) := by decide +kernel
theorem dX9_go_25 : decode cX9_go 25 = .ok (.aload_n 0, 1) := by decide +kernel
theorem dX9_go_26 : decode cX9_go 26 = .ok (.iconst 1, 1) := by decide +kernel
theorem dX9_go_27 : decode cX9_go 27 = .ok (.putfield 65, 3) := by decide +kernel
theorem dX9_go_30 : decode cX9_go 30 = .ok (.lconst 0, 1) := by decide +kernel
theorem dX9_go_31 : decode cX9_go 31 = .ok (.lreturn, 1) := by decide +kernel
theorem dX9_go_32 : decode cX9_go 32 = .ok (.aload_n 0, 1) := by decide +kernel
theorem dX9_go_33 : decode cX9_go 33 = .ok (.iload_n 1, 1) := by decide +kernel
theorem dX9_go_34 : decode cX9_go 34 = .ok (.invokevirtual 150, 3) := by decide +kernel
theorem dX9_go_37 : decode cX9_go 37 = .ok (.lstore 4, 2) := by decide +kernel
theorem dX9_go_39 : decode cX9_go 39 = .ok (.lload 4, 2) := by decide +kernel
theorem dX9_go_41 : decode cX9_go 41 = .ok (.ldc2_w 68, 3) := by decide +kernel
theorem dX9_go_44 : decode cX9_go 44 = .ok (.lcmp, 1) := by decide +kernel
theorem dX9_go_45 : decode cX9_go 45 = .ok (.ifCond .ne 7, 3) := by decide +kernel
theorem dX9_go_48 : decode cX9_go 48 = .ok (.ldc2_w 160, 3) := by decide +kernel
theorem dX9_go_51 : decode cX9_go 51 = .ok (.lreturn, 1) := by decide +kernel
theorem dX9_go_52 : decode cX9_go 52 = .ok (.lload_n 2, 1) := by decide +kernel
theorem dX9_go_53 : decode cX9_go 53 = .ok (.ldc2_w 76, 3) := by decide +kernel
theorem dX9_go_56 : decode cX9_go 56 = .ok (.lload 4, 2) := by decide +kernel
theorem dX9_go_58 : decode cX9_go 58 = .ok (.lsub, 1) := by decide +kernel
theorem dX9_go_59 : decode cX9_go 59 = .ok (.lcmp, 1) := by decide +kernel
theorem dX9_go_60 : decode cX9_go 60 = .ok (.ifCond .gt 15, 3) := by decide +kernel
theorem dX9_go_63 : decode cX9_go 63 = .ok (.aload_n 0, 1) := by decide +kernel
theorem dX9_go_64 : decode cX9_go 64 = .ok (.iload_n 1, 1) := by decide +kernel
theorem dX9_go_65 : decode cX9_go 65 = .ok (.lload 4, 2) := by decide +kernel
theorem dX9_go_67 : decode cX9_go 67 = .ok (.lload_n 2, 1) := by decide +kernel
theorem dX9_go_68 : decode cX9_go 68 = .ok (.ladd, 1) := by decide +kernel
theorem dX9_go_69 : decode cX9_go 69 = .ok (.invokevirtual 153, 3) := by decide +kernel
theorem dX9_go_72 : decode cX9_go 72 = .ok (.ifCond .ne 10, 3) := by decide +kernel
theorem dX9_go_75 : decode cX9_go 75 = .ok (.aload_n 0, 1) := by decide +kernel
theorem dX9_go_76 : decode cX9_go 76 = .ok (.iconst 1, 1) := by decide +kernel
theorem dX9_go_77 : decode cX9_go 77 = .ok (.putfield 65, 3) := by decide +kernel
theorem dX9_go_80 : decode cX9_go 80 = .ok (.lconst 0, 1) := by decide +kernel
theorem dX9_go_81 : decode cX9_go 81 = .ok (.lreturn, 1) := by decide +kernel
theorem dX9_go_82 : decode cX9_go 82 = .ok (.aload_n 0, 1) := by decide +kernel
theorem dX9_go_83 : decode cX9_go 83 = .ok (.iload_n 1, 1) := by decide +kernel
theorem dX9_go_84 : decode cX9_go 84 = .ok (.lload 4, 2) := by decide +kernel
theorem dX9_go_86 : decode cX9_go 86 = .ok (.lload_n 2, 1) := by decide +kernel
theorem dX9_go_87 : decode cX9_go 87 = .ok (.ladd, 1) := by decide +kernel
theorem dX9_go_88 : decode cX9_go 88 = .ok (.aload_n 0, 1) := by decide +kernel
theorem dX9_go_89 : decode cX9_go 89 = .ok (.getfield 42, 3) := by decide +kernel
theorem dX9_go_92 : decode cX9_go 92 = .ok (.invokevirtual 156, 3) := by decide +kernel
theorem dX9_go_95 : decode cX9_go 95 = .ok (.lload 4, 2) := by decide +kernel
theorem dX9_go_97 : decode cX9_go 97 = .ok (.lload_n 2, 1) := by decide +kernel
theorem dX9_go_98 : decode cX9_go 98 = .ok (.ladd, 1) := by decide +kernel
theorem dX9_go_99 : decode cX9_go 99 = .ok (.lreturn, 1) := by decide +kernel
theorem dX9_miss_0 : decode cX9_miss 0 = .ok (.iload_n 1, 1) := by decide +kernel
theorem dX9_miss_1 : decode cX9_miss 1 = .ok (.i2l, 1) := by decide +kernel
theorem dX9_miss_2 : decode cX9_miss 2 = .ok (.lconst 0, 1) := by decide +kernel
theorem dX9_miss_3 : decode cX9_miss 3 = .ok (.ldc2_w 70, 3) := by decide +kernel
theorem dX9_miss_6 : decode cX9_miss 6 = .ok (.invokestatic 58, 3) := by decide +kernel
theorem dX9_miss_9 : decode cX9_miss 9 = .ok (.ifCond .ne 6, 3) := by decide +kernel
theorem dX9_miss_12 : decode cX9_miss 12 = .ok (.bipush (-102), 2) := by decide +kernel
theorem dX9_miss_14 : decode cX9_miss 14 = .ok (.ireturn, 1) := by decide +kernel
theorem dX9_miss_15 : decode cX9_miss 15 = .ok (.aload_n 0, 1) := by decide +kernel
theorem dX9_miss_16 : decode cX9_miss 16 = .ok (.getfield 124, 3) := by decide +kernel
theorem dX9_miss_19 : decode cX9_miss 19 = .ok (.ifCond .ne 6, 3) := by decide +kernel
theorem dX9_miss_22 : decode cX9_miss 22 = .ok (.bipush (-103), 2) := by decide +kernel
theorem dX9_miss_24 : decode cX9_miss 24 = .ok (.ireturn, 1) := by decide +kernel
theorem dX9_miss_25 : decode cX9_miss 25 = .ok (.iload_n 1, 1) := by decide +kernel
theorem dX9_miss_26 : decode cX9_miss 26 = .ok (.ifCond .ne 10, 3) := by decide +kernel
theorem dX9_miss_29 : decode cX9_miss 29 = .ok (.aload_n 0, 1) := by decide +kernel
theorem dX9_miss_30 : decode cX9_miss 30 = .ok (.getfield 128, 3) := by decide +kernel
theorem dX9_miss_33 : decode cX9_miss 33 = .ok (.goto 19, 3) := by decide +kernel
theorem dX9_miss_36 : decode cX9_miss 36 = .ok (.iload_n 1, 1) := by decide +kernel
theorem dX9_miss_37 : decode cX9_miss 37 = .ok (.iconst 1, 1) := by decide +kernel
theorem dX9_miss_38 : decode cX9_miss 38 = .ok (.if_icmp .ne 10, 3) := by decide +kernel
theorem dX9_miss_41 : decode cX9_miss 41 = .ok (.aload_n 0, 1) := by decide +kernel
theorem dX9_miss_42 : decode cX9_miss 42 = .ok (.getfield 131, 3) := by decide +kernel
theorem dX9_miss_45 : decode cX9_miss 45 = .ok (.goto 7, 3) := by decide +kernel
theorem dX9_miss_48 : decode cX9_miss 48 = .ok (.aload_n 0, 1) := by decide +kernel
theorem dX9_miss_49 : decode cX9_miss 49 = .ok (.getfield 134, 3) := by decide +kernel
theorem dX9_miss_52 : decode cX9_miss 52 = .ok (.ireturn, 1) := by decide +kernel
theorem dX9_liesIn_0 : decode cX9_liesIn 0 = .ok (.aload_n 0, 1) := by decide +kernel
theorem dX9_liesIn_1 : decode cX9_liesIn 1 = .ok (.getfield 19, 3) := by decide +kernel
theorem dX9_liesIn_4 : decode cX9_liesIn 4 = .ok (.iload_n 1, 1) := by decide +kernel
theorem dX9_liesIn_5 : decode cX9_liesIn 5 = .ok (.laload, 1) := by decide +kernel
theorem dX9_liesIn_6 : decode cX9_liesIn 6 = .ok (.lstore_n 3, 1) := by decide +kernel
theorem dX9_liesIn_7 : decode cX9_liesIn 7 = .ok (.aload_n 0, 1) := by decide +kernel
theorem dX9_liesIn_8 : decode cX9_liesIn 8 = .ok (.getfield 7, 3) := by decide +kernel
theorem dX9_liesIn_11 : decode cX9_liesIn 11 = .ok (.iload_n 1, 1) := by decide +kernel
theorem dX9_liesIn_12 : decode cX9_liesIn 12 = .ok (.iaload, 1) := by decide +kernel
theorem dX9_liesIn_13 : decode cX9_liesIn 13 = .ok (.iconst 2, 1) := by decide +kernel
theorem dX9_liesIn_14 : decode cX9_liesIn 14 = .ok (.if_icmp .eq 13, 3) := by decide +kernel
theorem dX9_liesIn_17 : decode cX9_liesIn 17 = .ok (.aload_n 0, 1) := by decide +kernel
theorem dX9_liesIn_18 : decode cX9_liesIn 18 = .ok (.getfield 7, 3) := by decide +kernel
theorem dX9_liesIn_21 : decode cX9_liesIn 21 = .ok (.iload_n 2, 1) := by decide +kernel
theorem dX9_liesIn_22 : decode cX9_liesIn 22 = .ok (.iaload, 1) := by decide +kernel
theorem dX9_liesIn_23 : decode cX9_liesIn 23 = .ok (.iconst 2, 1) := by decide +kernel
theorem dX9_liesIn_24 : decode cX9_liesIn 24 = .ok (.if_icmp .ne 53, 3) := by decide +kernel
theorem dX9_liesIn_27 : decode cX9_liesIn 27 = .ok (.lload_n 3, 1) := by decide +kernel
theorem dX9_liesIn_28 : decode cX9_liesIn 28 = .ok (.lconst 0, 1) := by decide +kernel
theorem dX9_liesIn_29 : decode cX9_liesIn 29 = .ok (.ldc2_w 88, 3) := by decide +kernel
theorem dX9_liesIn_32 : decode cX9_liesIn 32 = .ok (.invokestatic 58, 3) := by decide +kernel
theorem dX9_liesIn_35 : decode cX9_liesIn 35 = .ok (.istore 5, 2) := by decide +kernel
theorem dX9_liesIn_37 : decode cX9_liesIn 37 = .ok (.iconst 0, 1) := by decide +kernel
theorem dX9_liesIn_38 : decode cX9_liesIn 38 = .ok (.istore 6, 2) := by decide +kernel
theorem dX9_liesIn_40 : decode cX9_liesIn 40 = .ok (.iload 6, 2) := by decide +kernel
theorem dX9_liesIn_42 : decode cX9_liesIn 42 = .ok (.i2l, 1) := by decide +kernel
theorem dX9_liesIn_43 : decode cX9_liesIn 43 = .ok (.lload_n 3, 1) := by decide +kernel
theorem dX9_liesIn_44 : decode cX9_liesIn 44 = .ok (.lcmp, 1) := by decide +kernel
theorem dX9_liesIn_45 : decode cX9_liesIn 45 = .ok (.ifCond .ge 29, 3) := by decide +kernel
theorem dX9_liesIn_48 : decode cX9_liesIn 48 = .ok (.iload 5, 2) := by decide +kernel
theorem dX9_liesIn_50 : decode cX9_liesIn 50 = .ok (.ifCond .eq 24, 3) := by decide +kernel
theorem dX9_liesIn_53 : decode cX9_liesIn 53 = .ok (.aload_n 0, 1) := by decide +kernel
theorem dX9_liesIn_54 : decode cX9_liesIn 54 = .ok (.iload_n 2, 1) := by decide +kernel
theorem dX9_liesIn_55 : decode cX9_liesIn 55 = .ok (.aload_n 0, 1) := by decide +kernel
theorem dX9_liesIn_56 : decode cX9_liesIn 56 = .ok (.iload_n 1, 1) := by decide +kernel
theorem dX9_liesIn_57 : decode cX9_liesIn 57 = .ok (.iload 6, 2) := by decide +kernel
theorem dX9_liesIn_59 : decode cX9_liesIn 59 = .ok (.i2l, 1) := by decide +kernel
theorem dX9_liesIn_60 : decode cX9_liesIn 60 = .ok (.invokevirtual 144, 3) := by decide +kernel
theorem dX9_liesIn_63 : decode cX9_liesIn 63 = .ok (.invokevirtual 120, 3) := by decide +kernel
theorem dX9_liesIn_66 : decode cX9_liesIn 66 = .ok (.istore 5, 2) := by decide +kernel
theorem dX9_liesIn_68 : decode cX9_liesIn 68 = .ok (.iinc 6 1, 3) := by decide +kernel
theorem dX9_liesIn_71 : decode cX9_liesIn 71 = .ok (.goto (-31), 3) := by decide +kernel
theorem dX9_liesIn_74 : decode cX9_liesIn 74 = .ok (.iload 5, 2) := by decide +kernel
theorem dX9_liesIn_76 : decode cX9_liesIn 76 = .ok (.ireturn, 1) := by decide +kernel
theorem dX9_liesIn_77 : decode cX9_liesIn 77 = .ok (.aload_n 0, 1) := by decide +kernel
theorem dX9_liesIn_78 : decode cX9_liesIn 78 = .ok (.iload_n 2, 1) := by decide +kernel
theorem dX9_liesIn_79 : decode cX9_liesIn 79 = .ok (.aload_n 0, 1) := by decide +kernel
theorem dX9_liesIn_80 : decode cX9_liesIn 80 = .ok (.getfield 23, 3) := by decide +kernel
theorem dX9_liesIn_83 : decode cX9_liesIn 83 = .ok (.iload_n 1, 1) := by decide +kernel
theorem dX9_liesIn_84 : decode cX9_liesIn 84 = .ok (.laload, 1) := by decide +kernel
theorem dX9_liesIn_85 : decode cX9_liesIn 85 = .ok (.invokevirtual 120, 3) := by decide +kernel
theorem dX9_liesIn_88 : decode cX9_liesIn 88 = .ok (.ifCond .ne 5, 3) := by decide +kernel
theorem dX9_liesIn_91 : decode cX9_liesIn 91 = .ok (.iconst 0, 1) := by decide +kernel
theorem dX9_liesIn_92 : decode cX9_liesIn 92 = .ok (.ireturn, 1) := by decide +kernel
theorem dX9_liesIn_93 : decode cX9_liesIn 93 = .ok (.lload_n 3, 1) := by decide +kernel
theorem dX9_liesIn_94 : decode cX9_liesIn 94 = .ok (.lconst 1, 1) := by decide +kernel
theorem dX9_liesIn_95 : decode cX9_liesIn 95 = .ok (.lcmp, 1) := by decide +kernel
theorem dX9_liesIn_96 : decode cX9_liesIn 96 = .ok (.ifCond .ne 5, 3) := by decide +kernel
theorem dX9_liesIn_99 : decode cX9_liesIn 99 = .ok (.iconst 1, 1) := by decide +kernel
theorem dX9_liesIn_100 : decode cX9_liesIn 100 = .ok (.ireturn, 1) := by decide +kernel
theorem dX9_liesIn_101 : decode cX9_liesIn 101 = .ok (.aload_n 0, 1) := by decide +kernel
theorem dX9_liesIn_102 : decode cX9_liesIn 102 = .ok (.getfield 29, 3) := by decide +kernel
theorem dX9_liesIn_105 : decode cX9_liesIn 105 = .ok (.iload_n 1, 1) := by decide +kernel
theorem dX9_liesIn_106 : decode cX9_liesIn 106 = .ok (.iaload, 1) := by decide +kernel
theorem dX9_liesIn_107 : decode cX9_liesIn 107 = .ok (.ifCond .le 13, 3) := by decide +kernel
theorem dX9_liesIn_110 : decode cX9_liesIn 110 = .ok (.aload_n 0, 1) := by decide +kernel
theorem dX9_liesIn_111 : decode cX9_liesIn 111 = .ok (.getfield 29, 3) := by decide +kernel
theorem dX9_liesIn_114 : decode cX9_liesIn 114 = .ok (.iload_n 1, 1) := by decide +kernel
theorem dX9_liesIn_115 : decode cX9_liesIn 115 = .ok (.iaload, 1) := by decide +kernel
theorem dX9_liesIn_116 : decode cX9_liesIn 116 = .ok (.i2l, 1) := by decide +kernel
theorem dX9_liesIn_117 : decode cX9_liesIn 117 = .ok (.goto 11, 3) := by decide +kernel
theorem dX9_liesIn_120 : decode cX9_liesIn 120 = .ok (.aload_n 0, 1) := by decide +kernel
theorem dX9_liesIn_121 : decode cX9_liesIn 121 = .ok (.getfield 29, 3) := by decide +kernel
theorem dX9_liesIn_124 : decode cX9_liesIn 124 = .ok (.iload_n 1, 1) := by decide +kernel
theorem dX9_liesIn_125 : decode cX9_liesIn 125 = .ok (.iaload, 1) := by decide +kernel
theorem dX9_liesIn_126 : decode cX9_liesIn 126 = .ok (.i2l, 1) := by decide +kernel
theorem dX9_liesIn_127 : decode cX9_liesIn 127 = .ok (.lneg, 1) := by decide +kernel
theorem dX9_liesIn_128 : decode cX9_liesIn 128 = .ok (.lstore 5, 2) := by decide +kernel
theorem dX9_liesIn_130 : decode cX9_liesIn 130 = .ok (.aload_n 0, 1) := by decide +kernel
theorem dX9_liesIn_131 : decode cX9_liesIn 131 = .ok (.getfield 29, 3) := by decide +kernel
theorem dX9_liesIn_134 : decode cX9_liesIn 134 = .ok (.iload_n 2, 1) := by decide +kernel
theorem dX9_liesIn_135 : decode cX9_liesIn 135 = .ok (.iaload, 1) := by decide +kernel
theorem dX9_liesIn_136 : decode cX9_liesIn 136 = .ok (.ifCond .le 13, 3) := by decide +kernel
theorem dX9_liesIn_139 : decode cX9_liesIn 139 = .ok (.aload_n 0, 1) := by decide +kernel
theorem dX9_liesIn_140 : decode cX9_liesIn 140 = .ok (.getfield 29, 3) := by decide +kernel
theorem dX9_liesIn_143 : decode cX9_liesIn 143 = .ok (.iload_n 2, 1) := by decide +kernel
theorem dX9_liesIn_144 : decode cX9_liesIn 144 = .ok (.iaload, 1) := by decide +kernel
theorem dX9_liesIn_145 : decode cX9_liesIn 145 = .ok (.i2l, 1) := by decide +kernel
theorem dX9_liesIn_146 : decode cX9_liesIn 146 = .ok (.goto 11, 3) := by decide +kernel
theorem dX9_liesIn_149 : decode cX9_liesIn 149 = .ok (.aload_n 0, 1) := by decide +kernel
theorem dX9_liesIn_150 : decode cX9_liesIn 150 = .ok (.getfield 29, 3) := by decide +kernel
theorem dX9_liesIn_153 : decode cX9_liesIn 153 = .ok (.iload_n 2, 1) := by decide +kernel
theorem dX9_liesIn_154 : decode cX9_liesIn 154 = .ok (.iaload, 1) := by decide +kernel
theorem dX9_liesIn_155 : decode cX9_liesIn 155 = .ok (.i2l, 1) := by decide +kernel
theorem dX9_liesIn_156 : decode cX9_liesIn 156 = .ok (.lneg, 1) := by decide +kernel
theorem dX9_liesIn_157 : decode cX9_liesIn 157 = .ok (.lstore 7, 2) := by decide +kernel
theorem dX9_liesIn_159 : decode cX9_liesIn 159 = .ok (.lload 5, 2) := by decide +kernel
theorem dX9_liesIn_161 : decode cX9_liesIn 161 = .ok (.lload 7, 2) := by decide +kernel
theorem dX9_liesIn_163 : decode cX9_liesIn 163 = .ok (.lrem, 1) := by decide +kernel
theorem dX9_liesIn_164 : decode cX9_liesIn 164 = .ok (.lconst 0, 1) := by decide +kernel
theorem dX9_liesIn_165 : decode cX9_liesIn 165 = .ok (.lcmp, 1) := by decide +kernel
theorem dX9_liesIn_166 : decode cX9_liesIn 166 = .ok (.ifCond .ne 20, 3) := by decide +kernel
theorem dX9_liesIn_169 : decode cX9_liesIn 169 = .ok (.aload_n 0, 1) := by decide +kernel
theorem dX9_liesIn_170 : decode cX9_liesIn 170 = .ok (.iload_n 2, 1) := by decide +kernel
theorem dX9_liesIn_171 : decode cX9_liesIn 171 = .ok (.aload_n 0, 1) := by decide +kernel
theorem dX9_liesIn_172 : decode cX9_liesIn 172 = .ok (.iload_n 1, 1) := by decide +kernel
theorem dX9_liesIn_173 : decode cX9_liesIn 173 = .ok (.invokevirtual 162, 3) := by decide +kernel
theorem dX9_liesIn_176 : decode cX9_liesIn 176 = .ok (.invokevirtual 120, 3) := by decide +kernel
theorem dX9_liesIn_179 : decode cX9_liesIn 179 = .ok (.ifCond .eq 7, 3) := by decide +kernel
theorem dX9_liesIn_182 : decode cX9_liesIn 182 = .ok (.iconst 1, 1) := by decide +kernel
theorem dX9_liesIn_183 : decode cX9_liesIn 183 = .ok (.goto 4, 3) := by decide +kernel
theorem dX9_liesIn_186 : decode cX9_liesIn 186 = .ok (.iconst 0, 1) := by decide +kernel
theorem dX9_liesIn_187 : decode cX9_liesIn 187 = .ok (.ireturn, 1) := by decide +kernel
theorem dX9_lastOf_0 : decode cX9_lastOf 0 = .ok (.aload_n 0, 1) := by decide +kernel
theorem dX9_lastOf_1 : decode cX9_lastOf 1 = .ok (.getfield 29, 3) := by decide +kernel
theorem dX9_lastOf_4 : decode cX9_lastOf 4 = .ok (.iload_n 1, 1) := by decide +kernel
theorem dX9_lastOf_5 : decode cX9_lastOf 5 = .ok (.iaload, 1) := by decide +kernel
theorem dX9_lastOf_6 : decode cX9_lastOf 6 = .ok (.ifCond .le 13, 3) := by decide +kernel
theorem dX9_lastOf_9 : decode cX9_lastOf 9 = .ok (.aload_n 0, 1) := by decide +kernel
theorem dX9_lastOf_10 : decode cX9_lastOf 10 = .ok (.getfield 29, 3) := by decide +kernel
theorem dX9_lastOf_13 : decode cX9_lastOf 13 = .ok (.iload_n 1, 1) := by decide +kernel
theorem dX9_lastOf_14 : decode cX9_lastOf 14 = .ok (.iaload, 1) := by decide +kernel
theorem dX9_lastOf_15 : decode cX9_lastOf 15 = .ok (.i2l, 1) := by decide +kernel
theorem dX9_lastOf_16 : decode cX9_lastOf 16 = .ok (.goto 11, 3) := by decide +kernel
theorem dX9_lastOf_19 : decode cX9_lastOf 19 = .ok (.aload_n 0, 1) := by decide +kernel
theorem dX9_lastOf_20 : decode cX9_lastOf 20 = .ok (.getfield 29, 3) := by decide +kernel
theorem dX9_lastOf_23 : decode cX9_lastOf 23 = .ok (.iload_n 1, 1) := by decide +kernel
theorem dX9_lastOf_24 : decode cX9_lastOf 24 = .ok (.iaload, 1) := by decide +kernel
theorem dX9_lastOf_25 : decode cX9_lastOf 25 = .ok (.i2l, 1) := by decide +kernel
theorem dX9_lastOf_26 : decode cX9_lastOf 26 = .ok (.lneg, 1) := by decide +kernel
theorem dX9_lastOf_27 : decode cX9_lastOf 27 = .ok (.lstore_n 2, 1) := by decide +kernel
theorem dX9_lastOf_28 : decode cX9_lastOf 28 = .ok (.aload_n 0, 1) := by decide +kernel
theorem dX9_lastOf_29 : decode cX9_lastOf 29 = .ok (.getfield 26, 3) := by decide +kernel
theorem dX9_lastOf_32 : decode cX9_lastOf 32 = .ok (.iload_n 1, 1) := by decide +kernel
theorem dX9_lastOf_33 : decode cX9_lastOf 33 = .ok (.laload, 1) := by decide +kernel
theorem dX9_lastOf_34 : decode cX9_lastOf 34 = .ok (.aload_n 0, 1) := by decide +kernel
theorem dX9_lastOf_35 : decode cX9_lastOf 35 = .ok (.getfield 23, 3) := by decide +kernel
theorem dX9_lastOf_38 : decode cX9_lastOf 38 = .ok (.iload_n 1, 1) := by decide +kernel
theorem dX9_lastOf_39 : decode cX9_lastOf 39 = .ok (.laload, 1) := by decide +kernel
theorem dX9_lastOf_40 : decode cX9_lastOf 40 = .ok (.lload_n 2, 1) := by decide +kernel
theorem dX9_lastOf_41 : decode cX9_lastOf 41 = .ok (.invokestatic 94, 3) := by decide +kernel
theorem dX9_lastOf_44 : decode cX9_lastOf 44 = .ok (.lstore 4, 2) := by decide +kernel
theorem dX9_lastOf_46 : decode cX9_lastOf 46 = .ok (.aload_n 0, 1) := by decide +kernel
theorem dX9_lastOf_47 : decode cX9_lastOf 47 = .ok (.getfield 29, 3) := by decide +kernel
theorem dX9_lastOf_50 : decode cX9_lastOf 50 = .ok (.iload_n 1, 1) := by decide +kernel
theorem dX9_lastOf_51 : decode cX9_lastOf 51 = .ok (.iaload, 1) := by decide +kernel
theorem dX9_lastOf_52 : decode cX9_lastOf 52 = .ok (.ifCond .le 15, 3) := by decide +kernel
theorem dX9_lastOf_55 : decode cX9_lastOf 55 = .ok (.aload_n 0, 1) := by decide +kernel
theorem dX9_lastOf_56 : decode cX9_lastOf 56 = .ok (.getfield 26, 3) := by decide +kernel
theorem dX9_lastOf_59 : decode cX9_lastOf 59 = .ok (.iload_n 1, 1) := by decide +kernel
theorem dX9_lastOf_60 : decode cX9_lastOf 60 = .ok (.laload, 1) := by decide +kernel
theorem dX9_lastOf_61 : decode cX9_lastOf 61 = .ok (.lload 4, 2) := by decide +kernel
theorem dX9_lastOf_63 : decode cX9_lastOf 63 = .ok (.lsub, 1) := by decide +kernel
theorem dX9_lastOf_64 : decode cX9_lastOf 64 = .ok (.goto 26, 3) := by decide +kernel
theorem dX9_lastOf_67 : decode cX9_lastOf 67 = .ok (.aload_n 0, 1) := by decide +kernel
theorem dX9_lastOf_68 : decode cX9_lastOf 68 = .ok (.getfield 26, 3) := by decide +kernel
theorem dX9_lastOf_71 : decode cX9_lastOf 71 = .ok (.iload_n 1, 1) := by decide +kernel
theorem dX9_lastOf_72 : decode cX9_lastOf 72 = .ok (.laload, 1) := by decide +kernel
theorem dX9_lastOf_73 : decode cX9_lastOf 73 = .ok (.aload_n 0, 1) := by decide +kernel
theorem dX9_lastOf_74 : decode cX9_lastOf 74 = .ok (.getfield 23, 3) := by decide +kernel
theorem dX9_lastOf_77 : decode cX9_lastOf 77 = .ok (.iload_n 1, 1) := by decide +kernel
theorem dX9_lastOf_78 : decode cX9_lastOf 78 = .ok (.laload, 1) := by decide +kernel
theorem dX9_lastOf_79 : decode cX9_lastOf 79 = .ok (.aload_n 0, 1) := by decide +kernel
theorem dX9_lastOf_80 : decode cX9_lastOf 80 = .ok (.getfield 26, 3) := by decide +kernel
theorem dX9_lastOf_83 : decode cX9_lastOf 83 = .ok (.iload_n 1, 1) := by decide +kernel
theorem dX9_lastOf_84 : decode cX9_lastOf 84 = .ok (.laload, 1) := by decide +kernel
theorem dX9_lastOf_85 : decode cX9_lastOf 85 = .ok (.lload_n 2, 1) := by decide +kernel
theorem dX9_lastOf_86 : decode cX9_lastOf 86 = .ok (.invokestatic 94, 3) := by decide +kernel
theorem dX9_lastOf_89 : decode cX9_lastOf 89 = .ok (.ladd, 1) := by decide +kernel
theorem dX9_lastOf_90 : decode cX9_lastOf 90 = .ok (.lreturn, 1) := by decide +kernel
theorem dX9_within_0 : decode cX9_within 0 = .ok (.aload_n 0, 1) := by decide +kernel
theorem dX9_within_1 : decode cX9_within 1 = .ok (.iload_n 1, 1) := by decide +kernel
theorem dX9_within_2 : decode cX9_within 2 = .ok (.invokevirtual 101, 3) := by decide +kernel
theorem dX9_within_5 : decode cX9_within 5 = .ok (.ifCond .ne 11, 3) := by decide +kernel
theorem dX9_within_8 : decode cX9_within 8 = .ok (.aload_n 0, 1) := by decide +kernel
theorem dX9_within_9 : decode cX9_within 9 = .ok (.iload_n 2, 1) := by decide +kernel
theorem dX9_within_10 : decode cX9_within 10 = .ok (.invokevirtual 101, 3) := by decide +kernel
theorem dX9_within_13 : decode cX9_within 13 = .ok (.ifCond .eq 6, 3) := by decide +kernel
theorem dX9_within_16 : decode cX9_within 16 = .ok (.bipush (-101), 2) := by decide +kernel
theorem dX9_within_18 : decode cX9_within 18 = .ok (.ireturn, 1) := by decide +kernel
theorem dX9_within_19 : decode cX9_within 19 = .ok (.aload_n 0, 1) := by decide +kernel
theorem dX9_within_20 : decode cX9_within 20 = .ok (.getfield 16, 3) := by decide +kernel
theorem dX9_within_23 : decode cX9_within 23 = .ok (.iload_n 1, 1) := by decide +kernel
theorem dX9_within_24 : decode cX9_within 24 = .ok (.iaload, 1) := by decide +kernel
theorem dX9_within_25 : decode cX9_within 25 = .ok (.aload_n 0, 1) := by decide +kernel
theorem dX9_within_26 : decode cX9_within 26 = .ok (.getfield 16, 3) := by decide +kernel
theorem dX9_within_29 : decode cX9_within 29 = .ok (.iload_n 2, 1) := by decide +kernel
theorem dX9_within_30 : decode cX9_within 30 = .ok (.iaload, 1) := by decide +kernel
theorem dX9_within_31 : decode cX9_within 31 = .ok (.if_icmp .ne 7, 3) := by decide +kernel
theorem dX9_within_34 : decode cX9_within 34 = .ok (.iconst 1, 1) := by decide +kernel
theorem dX9_within_35 : decode cX9_within 35 = .ok (.goto 4, 3) := by decide +kernel
theorem dX9_within_38 : decode cX9_within 38 = .ok (.iconst 0, 1) := by decide +kernel
theorem dX9_within_39 : decode cX9_within 39 = .ok (.istore_n 3, 1) := by decide +kernel
theorem dX9_within_40 : decode cX9_within 40 = .ok (.iconst 0, 1) := by decide +kernel
theorem dX9_within_41 : decode cX9_within 41 = .ok (.istore 4, 2) := by decide +kernel
theorem dX9_within_43 : decode cX9_within 43 = .ok (.iload 4, 2) := by decide +kernel
theorem dX9_within_45 : decode cX9_within 45 = .ok (.aload_n 0, 1) := by decide +kernel
theorem dX9_within_46 : decode cX9_within 46 = .ok (.getfield 16, 3) := by decide +kernel
theorem dX9_within_49 : decode cX9_within 49 = .ok (.iload_n 1, 1) := by decide +kernel
theorem dX9_within_50 : decode cX9_within 50 = .ok (.iaload, 1) := by decide +kernel
theorem dX9_within_51 : decode cX9_within 51 = .ok (.if_icmp .ge 53, 3) := by decide +kernel
theorem dX9_within_54 : decode cX9_within 54 = .ok (.iload_n 3, 1) := by decide +kernel
theorem dX9_within_55 : decode cX9_within 55 = .ok (.ifCond .eq 49, 3) := by decide +kernel
theorem dX9_within_58 : decode cX9_within 58 = .ok (.aload_n 0, 1) := by decide +kernel
theorem dX9_within_59 : decode cX9_within 59 = .ok (.getfield 19, 3) := by decide +kernel
theorem dX9_within_62 : decode cX9_within 62 = .ok (.iload_n 1, 1) := by decide +kernel
theorem dX9_within_63 : decode cX9_within 63 = .ok (.laload, 1) := by decide +kernel
theorem dX9_within_64 : decode cX9_within 64 = .ok (.lconst 0, 1) := by decide +kernel
theorem dX9_within_65 : decode cX9_within 65 = .ok (.lcmp, 1) := by decide +kernel
theorem dX9_within_66 : decode cX9_within 66 = .ok (.ifCond .eq 38, 3) := by decide +kernel
theorem dX9_within_69 : decode cX9_within 69 = .ok (.aload_n 0, 1) := by decide +kernel
theorem dX9_within_70 : decode cX9_within 70 = .ok (.aload_n 0, 1) := by decide +kernel
theorem dX9_within_71 : decode cX9_within 71 = .ok (.getfield 32, 3) := by decide +kernel
theorem dX9_within_74 : decode cX9_within 74 = .ok (.bipush 8, 2) := by decide +kernel
theorem dX9_within_76 : decode cX9_within 76 = .ok (.iload_n 1, 1) := by decide +kernel
theorem dX9_within_77 : decode cX9_within 77 = .ok (.imul, 1) := by decide +kernel
theorem dX9_within_78 : decode cX9_within 78 = .ok (.iload 4, 2) := by decide +kernel
theorem dX9_within_80 : decode cX9_within 80 = .ok (.iadd, 1) := by decide +kernel
theorem dX9_within_81 : decode cX9_within 81 = .ok (.iaload, 1) := by decide +kernel
theorem dX9_within_82 : decode cX9_within 82 = .ok (.aload_n 0, 1) := by decide +kernel
theorem dX9_within_83 : decode cX9_within 83 = .ok (.getfield 32, 3) := by decide +kernel
theorem dX9_within_86 : decode cX9_within 86 = .ok (.bipush 8, 2) := by decide +kernel
theorem dX9_within_88 : decode cX9_within 88 = .ok (.iload_n 2, 1) := by decide +kernel
theorem dX9_within_89 : decode cX9_within 89 = .ok (.imul, 1) := by decide +kernel
theorem dX9_within_90 : decode cX9_within 90 = .ok (.iload 4, 2) := by decide +kernel
theorem dX9_within_92 : decode cX9_within 92 = .ok (.iadd, 1) := by decide +kernel
theorem dX9_within_93 : decode cX9_within 93 = .ok (.iaload, 1) := by decide +kernel
theorem dX9_within_94 : decode cX9_within 94 = .ok (.invokevirtual 165, 3) := by decide +kernel
theorem dX9_within_97 : decode cX9_within 97 = .ok (.istore_n 3, 1) := by decide +kernel
theorem dX9_within_98 : decode cX9_within 98 = .ok (.iinc 4 1, 3) := by decide +kernel
theorem dX9_within_101 : decode cX9_within 101 = .ok (.goto (-58), 3) := by decide +kernel
theorem dX9_within_104 : decode cX9_within 104 = .ok (.iload_n 3, 1) := by decide +kernel
theorem dX9_within_105 : decode cX9_within 105 = .ok (.ifCond .eq 7, 3) := by decide +kernel
theorem dX9_within_108 : decode cX9_within 108 = .ok (.iconst 1, 1) := by decide +kernel
theorem dX9_within_109 : decode cX9_within 109 = .ok (.goto 4, 3) := by decide +kernel
theorem dX9_within_112 : decode cX9_within 112 = .ok (.iconst 0, 1) := by decide +kernel
theorem dX9_within_113 : decode cX9_within 113 = .ok (.ireturn, 1) := by decide +kernel
theorem dX9_array_0 : decode cX9_array 0 = .ok (.aload_n 0, 1) := by decide +kernel
theorem dX9_array_1 : decode cX9_array 1 = .ok (.iconst 0, 1) := by decide +kernel
theorem dX9_array_2 : decode cX9_array 2 = .ok (.putfield 65, 3) := by decide +kernel
theorem dX9_array_5 : decode cX9_array 5 = .ok (.aload_n 0, 1) := by decide +kernel
theorem dX9_array_6 : decode cX9_array 6 = .ok (.iload_n 1, 1) := by decide +kernel
theorem dX9_array_7 : decode cX9_array 7 = .ok (.invokevirtual 101, 3) := by decide +kernel
theorem dX9_array_10 : decode cX9_array 10 = .ok (.ifCond .eq 6, 3) := by decide +kernel
theorem dX9_array_13 : decode cX9_array 13 = .ok (.bipush (-101), 2) := by decide +kernel
theorem dX9_array_15 : decode cX9_array 15 = .ok (.ireturn, 1) := by decide +kernel
theorem dX9_array_16 : decode cX9_array 16 = .ok (.aload_n 0, 1) := by decide +kernel
theorem dX9_array_17 : decode cX9_array 17 = .ok (.getfield 62, 3) := by decide +kernel
theorem dX9_array_20 : decode cX9_array 20 = .ok (.bipush 6, 2) := by decide +kernel
theorem dX9_array_22 : decode cX9_array 22 = .ok (.if_icmp .ne 6, 3) := by decide +kernel
theorem dX9_array_25 : decode cX9_array 25 = .ok (.bipush (-104), 2) := by decide +kernel
theorem dX9_array_27 : decode cX9_array 27 = .ok (.ireturn, 1) := by decide +kernel
theorem dX9_array_28 : decode cX9_array 28 = .ok (.aload_n 0, 1) := by decide +kernel
theorem dX9_array_29 : decode cX9_array 29 = .ok (.aload_n 0, 1) := by decide +kernel
theorem dX9_array_30 : decode cX9_array 30 = .ok (.getfield 19, 3) := by decide +kernel
theorem dX9_array_33 : decode cX9_array 33 = .ok (.iload_n 1, 1) := by decide +kernel
theorem dX9_array_34 : decode cX9_array 34 = .ok (.laload, 1) := by decide +kernel
theorem dX9_array_35 : decode cX9_array 35 = .ok (.ldc2_w 68, 3) := by decide +kernel
theorem dX9_array_38 : decode cX9_array 38 = .ok (.lcmp, 1) := by decide +kernel
theorem dX9_array_39 : decode cX9_array 39 = .ok (.ifCond .ne 7, 3) := by decide +kernel
theorem dX9_array_42 : decode cX9_array 42 = .ok (.iconst 1, 1) := by decide +kernel
theorem dX9_array_43 : decode cX9_array 43 = .ok (.goto 21, 3) := by decide +kernel
theorem dX9_array_46 : decode cX9_array 46 = .ok (.aload_n 0, 1) := by decide +kernel
theorem dX9_array_47 : decode cX9_array 47 = .ok (.getfield 19, 3) := by decide +kernel
theorem dX9_array_50 : decode cX9_array 50 = .ok (.iload_n 1, 1) := by decide +kernel
theorem dX9_array_51 : decode cX9_array 51 = .ok (.laload, 1) := by decide +kernel
theorem dX9_array_52 : decode cX9_array 52 = .ok (.ldc2_w 169, 3) := by decide +kernel
theorem dX9_array_55 : decode cX9_array 55 = .ok (.lcmp, 1) := by decide +kernel
theorem dX9_array_56 : decode cX9_array 56 = .ok (.ifCond .le 7, 3) := by decide +kernel
theorem dX9_array_59 : decode cX9_array 59 = .ok (.iconst 2, 1) := by decide +kernel
theorem dX9_array_60 : decode cX9_array 60 = .ok (.goto 4, 3) := by decide +kernel
theorem dX9_array_63 : decode cX9_array 63 = .ok (.iconst 0, 1) := by decide +kernel
theorem dX9_array_64 : decode cX9_array 64 = .ok (.putfield 65, 3) := by decide +kernel
theorem dX9_array_67 : decode cX9_array 67 = .ok (.aload_n 0, 1) := by decide +kernel
theorem dX9_array_68 : decode cX9_array 68 = .ok (.getfield 65, 3) := by decide +kernel
theorem dX9_array_71 : decode cX9_array 71 = .ok (.ifCond .le 5, 3) := by decide +kernel
theorem dX9_array_74 : decode cX9_array 74 = .ok (.iconst 0, 1) := by decide +kernel
theorem dX9_array_75 : decode cX9_array 75 = .ok (.ireturn, 1) := by decide +kernel
theorem dX9_array_76 : decode cX9_array 76 = .ok (.iconst 0, 1) := by decide +kernel
theorem dX9_array_77 : decode cX9_array 77 = .ok (.istore_n 2, 1) := by decide +kernel
theorem dX9_array_78 : decode cX9_array 78 = .ok (.iload_n 2, 1) := by decide +kernel
theorem dX9_array_79 : decode cX9_array 79 = .ok (.sipush 400, 3) := by decide +kernel
theorem dX9_array_82 : decode cX9_array 82 = .ok (.if_icmp .ge 25, 3) := by decide +kernel
theorem dX9_array_85 : decode cX9_array 85 = .ok (.aload_n 0, 1) := by decide +kernel
theorem dX9_array_86 : decode cX9_array 86 = .ok (.getfield 51, 3) := by decide +kernel
theorem dX9_array_89 : decode cX9_array 89 = .ok (.sipush 400, 3) := by decide +kernel
theorem dX9_array_92 : decode cX9_array 92 = .ok (.aload_n 0, 1) := by decide +kernel
theorem dX9_array_93 : decode cX9_array 93 = .ok (.getfield 62, 3) := by decide +kernel
theorem dX9_array_96 : decode cX9_array 96 = .ok (.imul, 1) := by decide +kernel
theorem dX9_array_97 : decode cX9_array 97 = .ok (.iload_n 2, 1) := by decide +kernel
theorem dX9_array_98 : decode cX9_array 98 = .ok (.iadd, 1) := by decide +kernel
theorem dX9_array_99 : decode cX9_array 99 = .ok (.iconst 0, 1) := by decide +kernel
theorem dX9_array_100 : decode cX9_array 100 = .ok (.iastore, 1) := by decide +kernel
theorem dX9_array_101 : decode cX9_array 101 = .ok (.iinc 2 1, 3) := by decide +kernel
theorem dX9_array_104 : decode cX9_array 104 = .ok (.goto (-26), 3) := by decide +kernel
theorem dX9_array_107 : decode cX9_array 107 = .ok (.aload_n 0, 1) := by decide +kernel
theorem dX9_array_108 : decode cX9_array 108 = .ok (.getfield 48, 3) := by decide +kernel
theorem dX9_array_111 : decode cX9_array 111 = .ok (.aload_n 0, 1) := by decide +kernel
theorem dX9_array_112 : decode cX9_array 112 = .ok (.getfield 62, 3) := by decide +kernel
theorem dX9_array_115 : decode cX9_array 115 = .ok (.iload_n 1, 1) := by decide +kernel
theorem dX9_array_116 : decode cX9_array 116 = .ok (.iastore, 1) := by decide +kernel
theorem dX9_array_117 : decode cX9_array 117 = .ok (.aload_n 0, 1) := by decide +kernel
theorem dX9_array_118 : decode cX9_array 118 = .ok (.dup, 1) := by decide +kernel
theorem dX9_array_119 : decode cX9_array 119 = .ok (.getfield 62, 3) := by decide +kernel
theorem dX9_array_122 : decode cX9_array 122 = .ok (.iconst 1, 1) := by decide +kernel
theorem dX9_array_123 : decode cX9_array 123 = .ok (.iadd, 1) := by decide +kernel
theorem dX9_array_124 : decode cX9_array 124 = .ok (.putfield 62, 3) := by decide +kernel
theorem dX9_array_127 : decode cX9_array 127 = .ok (.aload_n 0, 1) := by decide +kernel
theorem dX9_array_128 : decode cX9_array 128 = .ok (.getfield 62, 3) := by decide +kernel
theorem dX9_array_131 : decode cX9_array 131 = .ok (.iconst 1, 1) := by decide +kernel
theorem dX9_array_132 : decode cX9_array 132 = .ok (.isub, 1) := by decide +kernel
theorem dX9_array_133 : decode cX9_array 133 = .ok (.ireturn, 1) := by decide +kernel
theorem dX9_cellOf_0 : decode cX9_cellOf 0 = .ok (.aload_n 0, 1) := by decide +kernel
theorem dX9_cellOf_1 : decode cX9_cellOf 1 = .ok (.aload_n 0, 1) := by decide +kernel
theorem dX9_cellOf_2 : decode cX9_cellOf 2 = .ok (.getfield 48, 3) := by decide +kernel
theorem dX9_cellOf_5 : decode cX9_cellOf 5 = .ok (.iload_n 1, 1) := by decide +kernel
theorem dX9_cellOf_6 : decode cX9_cellOf 6 = .ok (.iaload, 1) := by decide +kernel
theorem dX9_cellOf_7 : decode cX9_cellOf 7 = .ok (.invokevirtual 147, 3) := by decide +kernel
theorem dX9_cellOf_10 : decode cX9_cellOf 10 = .ok (.ifCond .eq 23, 3) := by decide +kernel
theorem dX9_cellOf_13 : decode cX9_cellOf 13 = .ok (.sipush 400, 3) := by decide +kernel
theorem dX9_cellOf_16 : decode cX9_cellOf 16 = .ok (.iload_n 1, 1) := by decide +kernel
theorem dX9_cellOf_17 : decode cX9_cellOf 17 = .ok (.imul, 1) := by decide +kernel
theorem dX9_cellOf_18 : decode cX9_cellOf 18 = .ok (.aload_n 0, 1) := by decide +kernel
theorem dX9_cellOf_19 : decode cX9_cellOf 19 = .ok (.aload_n 0, 1) := by decide +kernel
theorem dX9_cellOf_20 : decode cX9_cellOf 20 = .ok (.getfield 48, 3) := by decide +kernel
theorem dX9_cellOf_23 : decode cX9_cellOf 23 = .ok (.iload_n 1, 1) := by decide +kernel
theorem dX9_cellOf_24 : decode cX9_cellOf 24 = .ok (.iaload, 1) := by decide +kernel
theorem dX9_cellOf_25 : decode cX9_cellOf 25 = .ok (.invokevirtual 150, 3) := by decide +kernel
theorem dX9_cellOf_28 : decode cX9_cellOf 28 = .ok (.l2i, 1) := by decide +kernel
theorem dX9_cellOf_29 : decode cX9_cellOf 29 = .ok (.iadd, 1) := by decide +kernel
theorem dX9_cellOf_30 : decode cX9_cellOf 30 = .ok (.goto 4, 3) := by decide +kernel
theorem dX9_cellOf_33 : decode cX9_cellOf 33 = .ok (.iconst (-1), 1) := by decide +kernel
theorem dX9_cellOf_34 : decode cX9_cellOf 34 = .ok (.ireturn, 1) := by decide +kernel
theorem dX9_put_0 : decode cX9_put 0 = .ok (.aload_n 0, 1) := by decide +kernel
theorem dX9_put_1 : decode cX9_put 1 = .ok (.iconst 0, 1) := by decide +kernel
theorem dX9_put_2 : decode cX9_put 2 = .ok (.putfield 65, 3) := by decide +kernel
theorem dX9_put_5 : decode cX9_put 5 = .ok (.aload_n 0, 1) := by decide +kernel
theorem dX9_put_6 : decode cX9_put 6 = .ok (.iload_n 1, 1) := by decide +kernel
theorem dX9_put_7 : decode cX9_put 7 = .ok (.invokevirtual 171, 3) := by decide +kernel
theorem dX9_put_10 : decode cX9_put 10 = .ok (.ifCond .eq 6, 3) := by decide +kernel
theorem dX9_put_13 : decode cX9_put 13 = .ok (.bipush (-101), 2) := by decide +kernel
theorem dX9_put_15 : decode cX9_put 15 = .ok (.ireturn, 1) := by decide +kernel
theorem dX9_put_16 : decode cX9_put 16 = .ok (.aload_n 0, 1) := by decide +kernel
theorem dX9_put_17 : decode cX9_put 17 = .ok (.iload_n 1, 1) := by decide +kernel
theorem dX9_put_18 : decode cX9_put 18 = .ok (.invokevirtual 174, 3) := by decide +kernel
theorem dX9_put_21 : decode cX9_put 21 = .ok (.istore_n 3, 1) := by decide +kernel
theorem dX9_put_22 : decode cX9_put 22 = .ok (.iload_n 3, 1) := by decide +kernel
theorem dX9_put_23 : decode cX9_put 23 = .ok (.ifCond .ge 10, 3) := by decide +kernel
theorem dX9_put_26 : decode cX9_put 26 = .ok (.aload_n 0, 1) := by decide +kernel
theorem dX9_put_27 : decode cX9_put 27 = .ok (.iconst 1, 1) := by decide +kernel
theorem dX9_put_28 : decode cX9_put 28 = .ok (.putfield 65, 3) := by decide +kernel
theorem dX9_put_31 : decode cX9_put 31 = .ok (.iconst 0, 1) := by decide +kernel
theorem dX9_put_32 : decode cX9_put 32 = .ok (.ireturn, 1) := by decide +kernel
theorem dX9_put_33 : decode cX9_put 33 = .ok (.aload_n 0, 1) := by decide +kernel
theorem dX9_put_34 : decode cX9_put 34 = .ok (.getfield 51, 3) := by decide +kernel
theorem dX9_put_37 : decode cX9_put 37 = .ok (.iload_n 3, 1) := by decide +kernel
theorem dX9_put_38 : decode cX9_put 38 = .ok (.iaload, 1) := by decide +kernel
theorem dX9_put_39 : decode cX9_put 39 = .ok (.istore 4, 2) := by decide +kernel
theorem dX9_put_41 : decode cX9_put 41 = .ok (.aload_n 0, 1) := by decide +kernel
theorem dX9_put_42 : decode cX9_put 42 = .ok (.getfield 51, 3) := by decide +kernel
theorem dX9_put_45 : decode cX9_put 45 = .ok (.iload_n 3, 1) := by decide +kernel
theorem dX9_put_46 : decode cX9_put 46 = .ok (.iload_n 2, 1) := by decide +kernel
theorem dX9_put_47 : decode cX9_put 47 = .ok (.iastore, 1) := by decide +kernel
theorem dX9_put_48 : decode cX9_put 48 = .ok (.iload 4, 2) := by decide +kernel
theorem dX9_put_50 : decode cX9_put 50 = .ok (.ireturn, 1) := by decide +kernel
theorem dX9_at_0 : decode cX9_at 0 = .ok (.aload_n 0, 1) := by decide +kernel
theorem dX9_at_1 : decode cX9_at 1 = .ok (.iconst 0, 1) := by decide +kernel
theorem dX9_at_2 : decode cX9_at 2 = .ok (.putfield 65, 3) := by decide +kernel
theorem dX9_at_5 : decode cX9_at 5 = .ok (.aload_n 0, 1) := by decide +kernel
theorem dX9_at_6 : decode cX9_at 6 = .ok (.iload_n 1, 1) := by decide +kernel
theorem dX9_at_7 : decode cX9_at 7 = .ok (.invokevirtual 171, 3) := by decide +kernel
theorem dX9_at_10 : decode cX9_at 10 = .ok (.ifCond .eq 6, 3) := by decide +kernel
theorem dX9_at_13 : decode cX9_at 13 = .ok (.bipush (-101), 2) := by decide +kernel
theorem dX9_at_15 : decode cX9_at 15 = .ok (.ireturn, 1) := by decide +kernel
theorem dX9_at_16 : decode cX9_at 16 = .ok (.aload_n 0, 1) := by decide +kernel
theorem dX9_at_17 : decode cX9_at 17 = .ok (.iload_n 1, 1) := by decide +kernel
theorem dX9_at_18 : decode cX9_at 18 = .ok (.invokevirtual 174, 3) := by decide +kernel
theorem dX9_at_21 : decode cX9_at 21 = .ok (.istore_n 2, 1) := by decide +kernel
theorem dX9_at_22 : decode cX9_at 22 = .ok (.aload_n 0, 1) := by decide +kernel
theorem dX9_at_23 : decode cX9_at 23 = .ok (.iload_n 2, 1) := by decide +kernel
theorem dX9_at_24 : decode cX9_at 24 = .ok (.ifCond .ge 7, 3) := by decide +kernel
theorem dX9_at_27 : decode cX9_at 27 = .ok (.iconst 1, 1) := by decide +kernel
theorem dX9_at_28 : decode cX9_at 28 = .ok (.goto 4, 3) := by decide +kernel
theorem dX9_at_31 : decode cX9_at 31 = .ok (.iconst 0, 1) := by decide +kernel
theorem dX9_at_32 : decode cX9_at 32 = .ok (.putfield 65, 3) := by decide +kernel
theorem dX9_at_35 : decode cX9_at 35 = .ok (.iload_n 2, 1) := by decide +kernel
theorem dX9_at_36 : decode cX9_at 36 = .ok (.ifCond .ge 7, 3) := by decide +kernel
theorem dX9_at_39 : decode cX9_at 39 = .ok (.iconst 0, 1) := by decide +kernel
theorem dX9_at_40 : decode cX9_at 40 = .ok (.goto 9, 3) := by decide +kernel
theorem dX9_at_43 : decode cX9_at 43 = .ok (.aload_n 0, 1) := by decide +kernel
theorem dX9_at_44 : decode cX9_at 44 = .ok (.getfield 51, 3) := by decide +kernel
theorem dX9_at_47 : decode cX9_at 47 = .ok (.iload_n 2, 1) := by decide +kernel
theorem dX9_at_48 : decode cX9_at 48 = .ok (.iaload, 1) := by decide +kernel
theorem dX9_at_49 : decode cX9_at 49 = .ok (.ireturn, 1) := by decide +kernel
theorem dX9_sum_0 : decode cX9_sum 0 = .ok (.aload_n 0, 1) := by decide +kernel
theorem dX9_sum_1 : decode cX9_sum 1 = .ok (.iload_n 1, 1) := by decide +kernel
theorem dX9_sum_2 : decode cX9_sum 2 = .ok (.invokevirtual 171, 3) := by decide +kernel
theorem dX9_sum_5 : decode cX9_sum 5 = .ok (.ifCond .eq 7, 3) := by decide +kernel
theorem dX9_sum_8 : decode cX9_sum 8 = .ok (.ldc2_w 116, 3) := by decide +kernel
theorem dX9_sum_11 : decode cX9_sum 11 = .ok (.lreturn, 1) := by decide +kernel
theorem dX9_sum_12 : decode cX9_sum 12 = .ok (.aload_n 0, 1) := by decide +kernel
theorem dX9_sum_13 : decode cX9_sum 13 = .ok (.getfield 48, 3) := by decide +kernel
theorem dX9_sum_16 : decode cX9_sum 16 = .ok (.iload_n 1, 1) := by decide +kernel
theorem dX9_sum_17 : decode cX9_sum 17 = .ok (.iaload, 1) := by decide +kernel
theorem dX9_sum_18 : decode cX9_sum 18 = .ok (.istore 5, 2) := by decide +kernel
theorem dX9_sum_20 : decode cX9_sum 20 = .ok (.iload_n 2, 1) := by decide +kernel
theorem dX9_sum_21 : decode cX9_sum 21 = .ok (.i2l, 1) := by decide +kernel
theorem dX9_sum_22 : decode cX9_sum 22 = .ok (.lconst 0, 1) := by decide +kernel
theorem dX9_sum_23 : decode cX9_sum 23 = .ok (.aload_n 0, 1) := by decide +kernel
theorem dX9_sum_24 : decode cX9_sum 24 = .ok (.getfield 16, 3) := by decide +kernel
theorem dX9_sum_27 : decode cX9_sum 27 = .ok (.iload 5, 2) := by decide +kernel
theorem dX9_sum_29 : decode cX9_sum 29 = .ok (.iaload, 1) := by decide +kernel
theorem dX9_sum_30 : decode cX9_sum 30 = .ok (.iconst 1, 1) := by decide +kernel
theorem dX9_sum_31 : decode cX9_sum 31 = .ok (.isub, 1) := by decide +kernel
theorem dX9_sum_32 : decode cX9_sum 32 = .ok (.i2l, 1) := by decide +kernel
theorem dX9_sum_33 : decode cX9_sum 33 = .ok (.invokestatic 58, 3) := by decide +kernel
theorem dX9_sum_36 : decode cX9_sum 36 = .ok (.ifCond .ne 7, 3) := by decide +kernel
theorem dX9_sum_39 : decode cX9_sum 39 = .ok (.ldc2_w 178, 3) := by decide +kernel
theorem dX9_sum_42 : decode cX9_sum 42 = .ok (.lreturn, 1) := by decide +kernel
theorem dX9_sum_43 : decode cX9_sum 43 = .ok (.lconst 0, 1) := by decide +kernel
theorem dX9_sum_44 : decode cX9_sum 44 = .ok (.lstore 6, 2) := by decide +kernel
theorem dX9_sum_46 : decode cX9_sum 46 = .ok (.iconst 0, 1) := by decide +kernel
theorem dX9_sum_47 : decode cX9_sum 47 = .ok (.istore 8, 2) := by decide +kernel
theorem dX9_sum_49 : decode cX9_sum 49 = .ok (.iload 8, 2) := by decide +kernel
theorem dX9_sum_51 : decode cX9_sum 51 = .ok (.i2l, 1) := by decide +kernel
theorem dX9_sum_52 : decode cX9_sum 52 = .ok (.aload_n 0, 1) := by decide +kernel
theorem dX9_sum_53 : decode cX9_sum 53 = .ok (.getfield 19, 3) := by decide +kernel
theorem dX9_sum_56 : decode cX9_sum 56 = .ok (.iload 5, 2) := by decide +kernel
theorem dX9_sum_58 : decode cX9_sum 58 = .ok (.laload, 1) := by decide +kernel
theorem dX9_sum_59 : decode cX9_sum 59 = .ok (.lcmp, 1) := by decide +kernel
theorem dX9_sum_60 : decode cX9_sum 60 = .ok (.ifCond .ge 56, 3) := by decide +kernel
theorem dX9_sum_63 : decode cX9_sum 63 = .ok (.aload_n 0, 1) := by decide +kernel
theorem dX9_sum_64 : decode cX9_sum 64 = .ok (.iload 5, 2) := by decide +kernel
theorem dX9_sum_66 : decode cX9_sum 66 = .ok (.iload 8, 2) := by decide +kernel
theorem dX9_sum_68 : decode cX9_sum 68 = .ok (.i2l, 1) := by decide +kernel
theorem dX9_sum_69 : decode cX9_sum 69 = .ok (.aload_n 0, 1) := by decide +kernel
theorem dX9_sum_70 : decode cX9_sum 70 = .ok (.getfield 45, 3) := by decide +kernel
theorem dX9_sum_73 : decode cX9_sum 73 = .ok (.invokevirtual 156, 3) := by decide +kernel
theorem dX9_sum_76 : decode cX9_sum 76 = .ok (.lload 6, 2) := by decide +kernel
theorem dX9_sum_78 : decode cX9_sum 78 = .ok (.aload_n 0, 1) := by decide +kernel
theorem dX9_sum_79 : decode cX9_sum 79 = .ok (.getfield 45, 3) := by decide +kernel
theorem dX9_sum_82 : decode cX9_sum 82 = .ok (.iload_n 2, 1) := by decide +kernel
theorem dX9_sum_83 : decode cX9_sum 83 = .ok (.laload, 1) := by decide +kernel
theorem dX9_sum_84 : decode cX9_sum 84 = .ok (.lload_n 3, 1) := by decide +kernel
theorem dX9_sum_85 : decode cX9_sum 85 = .ok (.lcmp, 1) := by decide +kernel
theorem dX9_sum_86 : decode cX9_sum 86 = .ok (.ifCond .ne 20, 3) := by decide +kernel
theorem dX9_sum_89 : decode cX9_sum 89 = .ok (.aload_n 0, 1) := by decide +kernel
theorem dX9_sum_90 : decode cX9_sum 90 = .ok (.getfield 51, 3) := by decide +kernel
theorem dX9_sum_93 : decode cX9_sum 93 = .ok (.sipush 400, 3) := by decide +kernel
theorem dX9_sum_96 : decode cX9_sum 96 = .ok (.iload_n 1, 1) := by decide +kernel
theorem dX9_sum_97 : decode cX9_sum 97 = .ok (.imul, 1) := by decide +kernel
theorem dX9_sum_98 : decode cX9_sum 98 = .ok (.iload 8, 2) := by decide +kernel
theorem dX9_sum_100 : decode cX9_sum 100 = .ok (.iadd, 1) := by decide +kernel
theorem dX9_sum_101 : decode cX9_sum 101 = .ok (.iaload, 1) := by decide +kernel
theorem dX9_sum_102 : decode cX9_sum 102 = .ok (.i2l, 1) := by decide +kernel
theorem dX9_sum_103 : decode cX9_sum 103 = .ok (.goto 4, 3) := by decide +kernel
theorem dX9_sum_106 : decode cX9_sum 106 = .ok (.lconst 0, 1) := by decide +kernel
theorem dX9_sum_107 : decode cX9_sum 107 = .ok (.ladd, 1) := by decide +kernel
theorem dX9_sum_108 : decode cX9_sum 108 = .ok (.lstore 6, 2) := by decide +kernel
theorem dX9_sum_110 : decode cX9_sum 110 = .ok (.iinc 8 1, 3) := by decide +kernel
theorem dX9_sum_113 : decode cX9_sum 113 = .ok (.goto (-64), 3) := by decide +kernel
theorem dX9_sum_116 : decode cX9_sum 116 = .ok (.lload 6, 2) := by decide +kernel
theorem dX9_sum_118 : decode cX9_sum 118 = .ok (.lreturn, 1) := by decide +kernel
theorem dX9_over_0 : decode cX9_over 0 = .ok (.aload_n 0, 1) := by decide +kernel
theorem dX9_over_1 : decode cX9_over 1 = .ok (.iload_n 1, 1) := by decide +kernel
theorem dX9_over_2 : decode cX9_over 2 = .ok (.invokevirtual 171, 3) := by decide +kernel
theorem dX9_over_5 : decode cX9_over 5 = .ok (.ifCond .eq 8, 3) := by decide +kernel
theorem dX9_over_8 : decode cX9_over 8 = .ok (.bipush (-101), 2) := by decide +kernel
theorem dX9_over_10 : decode cX9_over 10 = .ok (.goto 9, 3) := by decide +kernel
theorem dX9_over_13 : decode cX9_over 13 = .ok (.aload_n 0, 1) := by decide +kernel
theorem dX9_over_14 : decode cX9_over 14 = .ok (.getfield 48, 3) := by decide +kernel
theorem dX9_over_17 : decode cX9_over 17 = .ok (.iload_n 1, 1) := by decide +kernel
theorem dX9_over_18 : decode cX9_over 18 = .ok (.iaload, 1) := by decide +kernel
theorem dX9_over_19 : decode cX9_over 19 = .ok (.ireturn, 1) := by decide +kernel
theorem dX9_count_0 : decode cX9_count 0 = .ok (.iconst 0, 1) := by decide +kernel
theorem dX9_count_1 : decode cX9_count 1 = .ok (.istore_n 2, 1) := by decide +kernel
theorem dX9_count_2 : decode cX9_count 2 = .ok (.iconst 0, 1) := by decide +kernel
theorem dX9_count_3 : decode cX9_count 3 = .ok (.istore_n 3, 1) := by decide +kernel
theorem dX9_count_4 : decode cX9_count 4 = .ok (.iload_n 3, 1) := by decide +kernel
theorem dX9_count_5 : decode cX9_count 5 = .ok (.aload_n 0, 1) := by decide +kernel
theorem dX9_count_6 : decode cX9_count 6 = .ok (.getfield 62, 3) := by decide +kernel
theorem dX9_count_9 : decode cX9_count 9 = .ok (.if_icmp .ge 24, 3) := by decide +kernel
theorem dX9_count_12 : decode cX9_count 12 = .ok (.iload_n 2, 1) := by decide +kernel
theorem dX9_count_13 : decode cX9_count 13 = .ok (.aload_n 0, 1) := by decide +kernel
theorem dX9_count_14 : decode cX9_count 14 = .ok (.getfield 19, 3) := by decide +kernel
theorem dX9_count_17 : decode cX9_count 17 = .ok (.aload_n 0, 1) := by decide +kernel
theorem dX9_count_18 : decode cX9_count 18 = .ok (.getfield 48, 3) := by decide +kernel
theorem dX9_count_21 : decode cX9_count 21 = .ok (.iload_n 3, 1) := by decide +kernel
theorem dX9_count_22 : decode cX9_count 22 = .ok (.iaload, 1) := by decide +kernel
theorem dX9_count_23 : decode cX9_count 23 = .ok (.laload, 1) := by decide +kernel
theorem dX9_count_24 : decode cX9_count 24 = .ok (.l2i, 1) := by decide +kernel
theorem dX9_count_25 : decode cX9_count 25 = .ok (.iadd, 1) := by decide +kernel
theorem dX9_count_26 : decode cX9_count 26 = .ok (.istore_n 2, 1) := by decide +kernel
theorem dX9_count_27 : decode cX9_count 27 = .ok (.iinc 3 1, 3) := by decide +kernel
theorem dX9_count_30 : decode cX9_count 30 = .ok (.goto (-26), 3) := by decide +kernel
theorem dX9_count_33 : decode cX9_count 33 = .ok (.iload_n 1, 1) := by decide +kernel
theorem dX9_count_34 : decode cX9_count 34 = .ok (.tableswitch 47 0 3 #[30, 35, 40, 45], 30) := by decide +kernel
theorem dX9_count_64 : decode cX9_count 64 = .ok (.aload_n 0, 1) := by decide +kernel
theorem dX9_count_65 : decode cX9_count 65 = .ok (.getfield 54, 3) := by decide +kernel
theorem dX9_count_68 : decode cX9_count 68 = .ok (.ireturn, 1) := by decide +kernel
theorem dX9_count_69 : decode cX9_count 69 = .ok (.aload_n 0, 1) := by decide +kernel
theorem dX9_count_70 : decode cX9_count 70 = .ok (.getfield 62, 3) := by decide +kernel
theorem dX9_count_73 : decode cX9_count 73 = .ok (.ireturn, 1) := by decide +kernel
theorem dX9_count_74 : decode cX9_count 74 = .ok (.aload_n 0, 1) := by decide +kernel
theorem dX9_count_75 : decode cX9_count 75 = .ok (.getfield 137, 3) := by decide +kernel
theorem dX9_count_78 : decode cX9_count 78 = .ok (.ireturn, 1) := by decide +kernel
theorem dX9_count_79 : decode cX9_count 79 = .ok (.iload_n 2, 1) := by decide +kernel
theorem dX9_count_80 : decode cX9_count 80 = .ok (.ireturn, 1) := by decide +kernel
theorem dX9_count_81 : decode cX9_count 81 = .ok (.bipush (-102), 2) := by decide +kernel
theorem dX9_count_83 : decode cX9_count 83 = .ok (.ireturn, 1) := by decide +kernel
theorem dX9_clear_0 : decode cX9_clear 0 = .ok (.aload_n 0, 1) := by decide +kernel
theorem dX9_clear_1 : decode cX9_clear 1 = .ok (.getfield 54, 3) := by decide +kernel
theorem dX9_clear_4 : decode cX9_clear 4 = .ok (.istore_n 1, 1) := by decide +kernel
theorem dX9_clear_5 : decode cX9_clear 5 = .ok (.aload_n 0, 1) := by decide +kernel
theorem dX9_clear_6 : decode cX9_clear 6 = .ok (.iconst 0, 1) := by decide +kernel
theorem dX9_clear_7 : decode cX9_clear 7 = .ok (.putfield 54, 3) := by decide +kernel
theorem dX9_clear_10 : decode cX9_clear 10 = .ok (.aload_n 0, 1) := by decide +kernel
theorem dX9_clear_11 : decode cX9_clear 11 = .ok (.iconst 0, 1) := by decide +kernel
theorem dX9_clear_12 : decode cX9_clear 12 = .ok (.putfield 62, 3) := by decide +kernel
theorem dX9_clear_15 : decode cX9_clear 15 = .ok (.aload_n 0, 1) := by decide +kernel
theorem dX9_clear_16 : decode cX9_clear 16 = .ok (.iconst 0, 1) := by decide +kernel
theorem dX9_clear_17 : decode cX9_clear 17 = .ok (.putfield 137, 3) := by decide +kernel
theorem dX9_clear_20 : decode cX9_clear 20 = .ok (.aload_n 0, 1) := by decide +kernel
theorem dX9_clear_21 : decode cX9_clear 21 = .ok (.iconst 0, 1) := by decide +kernel
theorem dX9_clear_22 : decode cX9_clear 22 = .ok (.putfield 124, 3) := by decide +kernel
theorem dX9_clear_25 : decode cX9_clear 25 = .ok (.iconst 0, 1) := by decide +kernel
theorem dX9_clear_26 : decode cX9_clear 26 = .ok (.istore_n 2, 1) := by decide +kernel
theorem dX9_clear_27 : decode cX9_clear 27 = .ok (.iload_n 2, 1) := by decide +kernel
theorem dX9_clear_28 : decode cX9_clear 28 = .ok (.bipush 8, 2) := by decide +kernel
theorem dX9_clear_30 : decode cX9_clear 30 = .ok (.if_icmp .ge 16, 3) := by decide +kernel
theorem dX9_clear_33 : decode cX9_clear 33 = .ok (.aload_n 0, 1) := by decide +kernel
theorem dX9_clear_34 : decode cX9_clear 34 = .ok (.getfield 42, 3) := by decide +kernel
theorem dX9_clear_37 : decode cX9_clear 37 = .ok (.iload_n 2, 1) := by decide +kernel
theorem dX9_clear_38 : decode cX9_clear 38 = .ok (.lconst 0, 1) := by decide +kernel
theorem dX9_clear_39 : decode cX9_clear 39 = .ok (.lastore, 1) := by decide +kernel
theorem dX9_clear_40 : decode cX9_clear 40 = .ok (.iinc 2 1, 3) := by decide +kernel
theorem dX9_clear_43 : decode cX9_clear 43 = .ok (.goto (-16), 3) := by decide +kernel
theorem dX9_clear_46 : decode cX9_clear 46 = .ok (.iload_n 1, 1) := by decide +kernel
theorem dX9_clear_47 : decode cX9_clear 47 = .ok (.ireturn, 1) := by decide +kernel
theorem dJx00060_init_a7421_0 : decode cJx00060_init_a7421 0 = .ok (.aload_n 0, 1) := by decide +kernel
theorem dJx00060_init_a7421_1 : decode cJx00060_init_a7421 1 = .ok (.aload_n 1, 1) := by decide +kernel
theorem dJx00060_init_a7421_2 : decode cJx00060_init_a7421 2 = .ok (.invokespecial 7, 3) := by decide +kernel
theorem dJx00060_init_a7421_5 : decode cJx00060_init_a7421 5 = .ok (.return_, 1) := by decide +kernel
theorem dJxde1cd_init_a7421_0 : decode cJxde1cd_init_a7421 0 = .ok (.aload_n 0, 1) := by decide +kernel
theorem dJxde1cd_init_a7421_1 : decode cJxde1cd_init_a7421 1 = .ok (.aload_n 1, 1) := by decide +kernel
theorem dJxde1cd_init_a7421_2 : decode cJxde1cd_init_a7421 2 = .ok (.invokespecial 7, 3) := by decide +kernel
theorem dJxde1cd_init_a7421_5 : decode cJxde1cd_init_a7421 5 = .ok (.return_, 1) := by decide +kernel
theorem dJ7_fill_d0a16_0 : decode cJ7_fill_d0a16 0 = .ok (.iconst 0, 1) := by decide +kernel
theorem dJ7_fill_d0a16_1 : decode cJ7_fill_d0a16 1 = .ok (.istore_n 3, 1) := by decide +kernel
theorem dJ7_fill_d0a16_2 : decode cJ7_fill_d0a16 2 = .ok (.aload_n 0, 1) := by decide +kernel
theorem dJ7_fill_d0a16_3 : decode cJ7_fill_d0a16 3 = .ok (.arraylength, 1) := by decide +kernel
theorem dJ7_fill_d0a16_4 : decode cJ7_fill_d0a16 4 = .ok (.istore 4, 2) := by decide +kernel
theorem dJ7_fill_d0a16_6 : decode cJ7_fill_d0a16 6 = .ok (.iload_n 3, 1) := by decide +kernel
theorem dJ7_fill_d0a16_7 : decode cJ7_fill_d0a16 7 = .ok (.iload 4, 2) := by decide +kernel
theorem dJ7_fill_d0a16_9 : decode cJ7_fill_d0a16 9 = .ok (.if_icmp .ge 13, 3) := by decide +kernel
theorem dJ7_fill_d0a16_12 : decode cJ7_fill_d0a16 12 = .ok (.aload_n 0, 1) := by decide +kernel
theorem dJ7_fill_d0a16_13 : decode cJ7_fill_d0a16 13 = .ok (.iload_n 3, 1) := by decide +kernel
theorem dJ7_fill_d0a16_14 : decode cJ7_fill_d0a16 14 = .ok (.lload_n 1, 1) := by decide +kernel
theorem dJ7_fill_d0a16_15 : decode cJ7_fill_d0a16 15 = .ok (.lastore, 1) := by decide +kernel
theorem dJ7_fill_d0a16_16 : decode cJ7_fill_d0a16 16 = .ok (.iinc 3 1, 3) := by decide +kernel
theorem dJ7_fill_d0a16_19 : decode cJ7_fill_d0a16 19 = .ok (.goto (-13), 3) := by decide +kernel
theorem dJ7_fill_d0a16_22 : decode cJ7_fill_d0a16 22 = .ok (.return_, 1) := by decide +kernel
theorem dJ7_fill_53178_0 : decode cJ7_fill_53178 0 = .ok (.iconst 0, 1) := by decide +kernel
theorem dJ7_fill_53178_1 : decode cJ7_fill_53178 1 = .ok (.istore_n 2, 1) := by decide +kernel
theorem dJ7_fill_53178_2 : decode cJ7_fill_53178 2 = .ok (.aload_n 0, 1) := by decide +kernel
theorem dJ7_fill_53178_3 : decode cJ7_fill_53178 3 = .ok (.arraylength, 1) := by decide +kernel
theorem dJ7_fill_53178_4 : decode cJ7_fill_53178 4 = .ok (.istore_n 3, 1) := by decide +kernel
theorem dJ7_fill_53178_5 : decode cJ7_fill_53178 5 = .ok (.iload_n 2, 1) := by decide +kernel
theorem dJ7_fill_53178_6 : decode cJ7_fill_53178 6 = .ok (.iload_n 3, 1) := by decide +kernel
theorem dJ7_fill_53178_7 : decode cJ7_fill_53178 7 = .ok (.if_icmp .ge 13, 3) := by decide +kernel
theorem dJ7_fill_53178_10 : decode cJ7_fill_53178 10 = .ok (.aload_n 0, 1) := by decide +kernel
theorem dJ7_fill_53178_11 : decode cJ7_fill_53178 11 = .ok (.iload_n 2, 1) := by decide +kernel
theorem dJ7_fill_53178_12 : decode cJ7_fill_53178 12 = .ok (.iload_n 1, 1) := by decide +kernel
theorem dJ7_fill_53178_13 : decode cJ7_fill_53178 13 = .ok (.iastore, 1) := by decide +kernel
theorem dJ7_fill_53178_14 : decode cJ7_fill_53178 14 = .ok (.iinc 2 1, 3) := by decide +kernel
theorem dJ7_fill_53178_17 : decode cJ7_fill_53178 17 = .ok (.goto (-12), 3) := by decide +kernel
theorem dJ7_fill_53178_20 : decode cJ7_fill_53178 20 = .ok (.return_, 1) := by decide +kernel
