theorem dX1_init_0 : decode cX1_init 0 = .ok (.aload_n 0, 1) := by decide +kernel
theorem dX1_init_1 : decode cX1_init 1 = .ok (.invokespecial 1, 3) := by decide +kernel
theorem dX1_init_4 : decode cX1_init 4 = .ok (.aload_n 0, 1) := by decide +kernel
theorem dX1_init_5 : decode cX1_init 5 = .ok (.iload_n 1, 1) := by decide +kernel
theorem dX1_init_6 : decode cX1_init 6 = .ok (.putfield 7, 3) := by decide +kernel
theorem dX1_init_9 : decode cX1_init 9 = .ok (.return_, 1) := by decide +kernel
theorem dX1_draw_0 : decode cX1_draw 0 = .ok (.aload_n 0, 1) := by decide +kernel
theorem dX1_draw_1 : decode cX1_draw 1 = .ok (.ldc 13, 2) := by decide +kernel
theorem dX1_draw_3 : decode cX1_draw 3 = .ok (.aload_n 0, 1) := by decide +kernel
theorem dX1_draw_4 : decode cX1_draw 4 = .ok (.getfield 7, 3) := by decide +kernel
theorem dX1_draw_7 : decode cX1_draw 7 = .ok (.imul, 1) := by decide +kernel
theorem dX1_draw_8 : decode cX1_draw 8 = .ok (.sipush 12345, 3) := by decide +kernel
theorem dX1_draw_11 : decode cX1_draw 11 = .ok (.iadd, 1) := by decide +kernel
theorem dX1_draw_12 : decode cX1_draw 12 = .ok (.putfield 7, 3) := by decide +kernel
theorem dX1_draw_15 : decode cX1_draw 15 = .ok (.aload_n 0, 1) := by decide +kernel
theorem dX1_draw_16 : decode cX1_draw 16 = .ok (.getfield 7, 3) := by decide +kernel
theorem dX1_draw_19 : decode cX1_draw 19 = .ok (.bipush 16, 2) := by decide +kernel
theorem dX1_draw_21 : decode cX1_draw 21 = .ok (.iushr, 1) := by decide +kernel
theorem dX1_draw_22 : decode cX1_draw 22 = .ok (.ireturn, 1) := by decide +kernel
theorem dX2_init_0 : decode cX2_init 0 = .ok (.aload_n 0, 1) := by decide +kernel
theorem dX2_init_1 : decode cX2_init 1 = .ok (.invokespecial 3, 3) := by decide +kernel
theorem dX2_init_4 : decode cX2_init 4 = .ok (.aload_n 0, 1) := by decide +kernel
theorem dX2_init_5 : decode cX2_init 5 = .ok (.bipush 6, 2) := by decide +kernel
theorem dX2_init_7 : decode cX2_init 7 = .ok (.newarray .int, 2) := by decide +kernel
theorem dX2_init_9 : decode cX2_init 9 = .ok (.putfield 9, 3) := by decide +kernel
theorem dX2_init_12 : decode cX2_init 12 = .ok (.aload_n 0, 1) := by decide +kernel
theorem dX2_init_13 : decode cX2_init 13 = .ok (.bipush 6, 2) := by decide +kernel
theorem dX2_init_15 : decode cX2_init 15 = .ok (.newarray .boolean, 2) := by decide +kernel
theorem dX2_init_17 : decode cX2_init 17 = .ok (.putfield 15, 3) := by decide +kernel
theorem dX2_init_20 : decode cX2_init 20 = .ok (.aload_n 0, 1) := by decide +kernel
theorem dX2_init_21 : decode cX2_init 21 = .ok (.bipush 6, 2) := by decide +kernel
theorem dX2_init_23 : decode cX2_init 23 = .ok (.newarray .int, 2) := by decide +kernel
theorem dX2_init_25 : decode cX2_init 25 = .ok (.putfield 19, 3) := by decide +kernel
theorem dX2_init_28 : decode cX2_init 28 = .ok (.aload_n 0, 1) := by decide +kernel
theorem dX2_init_29 : decode cX2_init 29 = .ok (.iconst 0, 1) := by decide +kernel
theorem dX2_init_30 : decode cX2_init 30 = .ok (.putfield 22, 3) := by decide +kernel
theorem dX2_init_33 : decode cX2_init 33 = .ok (.aload_n 0, 1) := by decide +kernel
theorem dX2_init_34 : decode cX2_init 34 = .ok (.iconst 0, 1) := by decide +kernel
theorem dX2_init_35 : decode cX2_init 35 = .ok (.putfield 26, 3) := by decide +kernel
theorem dX2_init_38 : decode cX2_init 38 = .ok (.return_, 1) := by decide +kernel
theorem dX2_flatten_0 : decode cX2_flatten 0 = .ok (.aload_n 0, 1) := by decide +kernel
theorem dX2_flatten_1 : decode cX2_flatten 1 = .ok (.invokevirtual 29, 3) := by decide +kernel
theorem dX2_flatten_4 : decode cX2_flatten 4 = .ok (.iconst 0, 1) := by decide +kernel
theorem dX2_flatten_5 : decode cX2_flatten 5 = .ok (.istore_n 2, 1) := by decide +kernel
theorem dX2_flatten_6 : decode cX2_flatten 6 = .ok (.iload_n 2, 1) := by decide +kernel
theorem dX2_flatten_7 : decode cX2_flatten 7 = .ok (.iload_n 1, 1) := by decide +kernel
theorem dX2_flatten_8 : decode cX2_flatten 8 = .ok (.if_icmp .ge 19, 3) := by decide +kernel
theorem dX2_flatten_11 : decode cX2_flatten 11 = .ok (.aload_n 0, 1) := by decide +kernel
theorem dX2_flatten_12 : decode cX2_flatten 12 = .ok (.iload_n 2, 1) := by decide +kernel
theorem dX2_flatten_13 : decode cX2_flatten 13 = .ok (.iconst 1, 1) := by decide +kernel
theorem dX2_flatten_14 : decode cX2_flatten 14 = .ok (.invokevirtual 32, 3) := by decide +kernel
theorem dX2_flatten_17 : decode cX2_flatten 17 = .ok (.aload_n 0, 1) := by decide +kernel
theorem dX2_flatten_18 : decode cX2_flatten 18 = .ok (.invokevirtual 36, 3) := by decide +kernel
theorem dX2_flatten_21 : decode cX2_flatten 21 = .ok (.iinc 2 1, 3) := by decide +kernel
theorem dX2_flatten_24 : decode cX2_flatten 24 = .ok (.goto (-18), 3) := by decide +kernel
theorem dX2_flatten_27 : decode cX2_flatten 27 = .ok (.return_, 1) := by decide +kernel
theorem dX2_take_0 : decode cX2_take 0 = .ok (.aload_n 0, 1) := by decide +kernel
theorem dX2_take_1 : decode cX2_take 1 = .ok (.invokevirtual 29, 3) := by decide +kernel
theorem dX2_take_4 : decode cX2_take 4 = .ok (.iconst 0, 1) := by decide +kernel
theorem dX2_take_5 : decode cX2_take 5 = .ok (.istore_n 2, 1) := by decide +kernel
theorem dX2_take_6 : decode cX2_take 6 = .ok (.iload_n 2, 1) := by decide +kernel
theorem dX2_take_7 : decode cX2_take 7 = .ok (.aload_n 1, 1) := by decide +kernel
theorem dX2_take_8 : decode cX2_take 8 = .ok (.getfield 26, 3) := by decide +kernel
theorem dX2_take_11 : decode cX2_take 11 = .ok (.if_icmp .ge 19, 3) := by decide +kernel
theorem dX2_take_14 : decode cX2_take 14 = .ok (.aload_n 0, 1) := by decide +kernel
theorem dX2_take_15 : decode cX2_take 15 = .ok (.aload_n 1, 1) := by decide +kernel
theorem dX2_take_16 : decode cX2_take 16 = .ok (.iload_n 2, 1) := by decide +kernel
theorem dX2_take_17 : decode cX2_take 17 = .ok (.invokevirtual 39, 3) := by decide +kernel
theorem dX2_take_20 : decode cX2_take 20 = .ok (.aload_n 0, 1) := by decide +kernel
theorem dX2_take_21 : decode cX2_take 21 = .ok (.invokevirtual 36, 3) := by decide +kernel
theorem dX2_take_24 : decode cX2_take 24 = .ok (.iinc 2 1, 3) := by decide +kernel
theorem dX2_take_27 : decode cX2_take 27 = .ok (.goto (-21), 3) := by decide +kernel
theorem dX2_take_30 : decode cX2_take 30 = .ok (.return_, 1) := by decide +kernel
theorem dX2_foldFrom_0 : decode cX2_foldFrom 0 = .ok (.aload_n 0, 1) := by decide +kernel
theorem dX2_foldFrom_1 : decode cX2_foldFrom 1 = .ok (.invokevirtual 29, 3) := by decide +kernel
theorem dX2_foldFrom_4 : decode cX2_foldFrom 4 = .ok (.iload_n 3, 1) := by decide +kernel
theorem dX2_foldFrom_5 : decode cX2_foldFrom 5 = .ok (.iconst 2, 1) := by decide +kernel
theorem dX2_foldFrom_6 : decode cX2_foldFrom 6 = .ok (.if_icmp .ge 7, 3) := by decide +kernel
theorem dX2_foldFrom_9 : decode cX2_foldFrom 9 = .ok (.iconst 1, 1) := by decide +kernel
theorem dX2_foldFrom_10 : decode cX2_foldFrom 10 = .ok (.goto 4, 3) := by decide +kernel
theorem dX2_foldFrom_13 : decode cX2_foldFrom 13 = .ok (.iconst 0, 1) := by decide +kernel
theorem dX2_foldFrom_14 : decode cX2_foldFrom 14 = .ok (.istore 4, 2) := by decide +kernel
theorem dX2_foldFrom_16 : decode cX2_foldFrom 16 = .ok (.iload_n 2, 1) := by decide +kernel
theorem dX2_foldFrom_17 : decode cX2_foldFrom 17 = .ok (.aload_n 1, 1) := by decide +kernel
theorem dX2_foldFrom_18 : decode cX2_foldFrom 18 = .ok (.getfield 26, 3) := by decide +kernel
theorem dX2_foldFrom_21 : decode cX2_foldFrom 21 = .ok (.iload_n 2, 1) := by decide +kernel
theorem dX2_foldFrom_22 : decode cX2_foldFrom 22 = .ok (.isub, 1) := by decide +kernel
theorem dX2_foldFrom_23 : decode cX2_foldFrom 23 = .ok (.invokestatic 43, 3) := by decide +kernel
theorem dX2_foldFrom_26 : decode cX2_foldFrom 26 = .ok (.istore 5, 2) := by decide +kernel
theorem dX2_foldFrom_28 : decode cX2_foldFrom 28 = .ok (.iconst 0, 1) := by decide +kernel
theorem dX2_foldFrom_29 : decode cX2_foldFrom 29 = .ok (.istore 6, 2) := by decide +kernel
theorem dX2_foldFrom_31 : decode cX2_foldFrom 31 = .ok (.iload 6, 2) := by decide +kernel
theorem dX2_foldFrom_33 : decode cX2_foldFrom 33 = .ok (.iload 5, 2) := by decide +kernel
theorem dX2_foldFrom_35 : decode cX2_foldFrom 35 = .ok (.if_icmp .ge 111, 3) := by decide +kernel
theorem dX2_foldFrom_38 : decode cX2_foldFrom 38 = .ok (.iload 4, 2) := by decide +kernel
theorem dX2_foldFrom_40 : decode cX2_foldFrom 40 = .ok (.ifCond .eq 8, 3) := by decide +kernel
theorem dX2_foldFrom_43 : decode cX2_foldFrom 43 = .ok (.iload 6, 2) := by decide +kernel
theorem dX2_foldFrom_45 : decode cX2_foldFrom 45 = .ok (.goto 10, 3) := by decide +kernel
theorem dX2_foldFrom_48 : decode cX2_foldFrom 48 = .ok (.iload 5, 2) := by decide +kernel
theorem dX2_foldFrom_50 : decode cX2_foldFrom 50 = .ok (.iconst 1, 1) := by decide +kernel
theorem dX2_foldFrom_51 : decode cX2_foldFrom 51 = .ok (.isub, 1) := by decide +kernel
theorem dX2_foldFrom_52 : decode cX2_foldFrom 52 = .ok (.iload 6, 2) := by decide +kernel
theorem dX2_foldFrom_54 : decode cX2_foldFrom 54 = .ok (.isub, 1) := by decide +kernel
theorem dX2_foldFrom_55 : decode cX2_foldFrom 55 = .ok (.istore 7, 2) := by decide +kernel
theorem dX2_foldFrom_57 : decode cX2_foldFrom 57 = .ok (.iload_n 2, 1) := by decide +kernel
theorem dX2_foldFrom_58 : decode cX2_foldFrom 58 = .ok (.iload 7, 2) := by decide +kernel
theorem dX2_foldFrom_60 : decode cX2_foldFrom 60 = .ok (.iadd, 1) := by decide +kernel
theorem dX2_foldFrom_61 : decode cX2_foldFrom 61 = .ok (.istore 8, 2) := by decide +kernel
theorem dX2_foldFrom_63 : decode cX2_foldFrom 63 = .ok (.iload_n 2, 1) := by decide +kernel
theorem dX2_foldFrom_64 : decode cX2_foldFrom 64 = .ok (.iconst 1, 1) := by decide +kernel
theorem dX2_foldFrom_65 : decode cX2_foldFrom 65 = .ok (.isub, 1) := by decide +kernel
theorem dX2_foldFrom_66 : decode cX2_foldFrom 66 = .ok (.iload 7, 2) := by decide +kernel
theorem dX2_foldFrom_68 : decode cX2_foldFrom 68 = .ok (.isub, 1) := by decide +kernel
theorem dX2_foldFrom_69 : decode cX2_foldFrom 69 = .ok (.istore 9, 2) := by decide +kernel
theorem dX2_foldFrom_71 : decode cX2_foldFrom 71 = .ok (.iload 4, 2) := by decide +kernel
theorem dX2_foldFrom_73 : decode cX2_foldFrom 73 = .ok (.ifCond .eq 8, 3) := by decide +kernel
theorem dX2_foldFrom_76 : decode cX2_foldFrom 76 = .ok (.iload 8, 2) := by decide +kernel
theorem dX2_foldFrom_78 : decode cX2_foldFrom 78 = .ok (.goto 5, 3) := by decide +kernel
theorem dX2_foldFrom_81 : decode cX2_foldFrom 81 = .ok (.iload 9, 2) := by decide +kernel
theorem dX2_foldFrom_83 : decode cX2_foldFrom 83 = .ok (.istore 10, 2) := by decide +kernel
theorem dX2_foldFrom_85 : decode cX2_foldFrom 85 = .ok (.iload 4, 2) := by decide +kernel
theorem dX2_foldFrom_87 : decode cX2_foldFrom 87 = .ok (.ifCond .eq 8, 3) := by decide +kernel
theorem dX2_foldFrom_90 : decode cX2_foldFrom 90 = .ok (.iload 9, 2) := by decide +kernel
theorem dX2_foldFrom_92 : decode cX2_foldFrom 92 = .ok (.goto 5, 3) := by decide +kernel
theorem dX2_foldFrom_95 : decode cX2_foldFrom 95 = .ok (.iload 8, 2) := by decide +kernel
theorem dX2_foldFrom_97 : decode cX2_foldFrom 97 = .ok (.istore 11, 2) := by decide +kernel
theorem dX2_foldFrom_99 : decode cX2_foldFrom 99 = .ok (.iload_n 3, 1) := by decide +kernel
theorem dX2_foldFrom_100 : decode cX2_foldFrom 100 = .ok (.iconst 2, 1) := by decide +kernel
theorem dX2_foldFrom_101 : decode cX2_foldFrom 101 = .ok (.irem, 1) := by decide +kernel
theorem dX2_foldFrom_102 : decode cX2_foldFrom 102 = .ok (.ifCond .ne 20, 3) := by decide +kernel
theorem dX2_foldFrom_105 : decode cX2_foldFrom 105 = .ok (.aload_n 0, 1) := by decide +kernel
theorem dX2_foldFrom_106 : decode cX2_foldFrom 106 = .ok (.aload_n 1, 1) := by decide +kernel
theorem dX2_foldFrom_107 : decode cX2_foldFrom 107 = .ok (.iload 10, 2) := by decide +kernel
theorem dX2_foldFrom_109 : decode cX2_foldFrom 109 = .ok (.invokevirtual 39, 3) := by decide +kernel
theorem dX2_foldFrom_112 : decode cX2_foldFrom 112 = .ok (.aload_n 0, 1) := by decide +kernel
theorem dX2_foldFrom_113 : decode cX2_foldFrom 113 = .ok (.aload_n 1, 1) := by decide +kernel
theorem dX2_foldFrom_114 : decode cX2_foldFrom 114 = .ok (.iload 11, 2) := by decide +kernel
theorem dX2_foldFrom_116 : decode cX2_foldFrom 116 = .ok (.invokevirtual 49, 3) := by decide +kernel
theorem dX2_foldFrom_119 : decode cX2_foldFrom 119 = .ok (.goto 17, 3) := by decide +kernel
theorem dX2_foldFrom_122 : decode cX2_foldFrom 122 = .ok (.aload_n 0, 1) := by decide +kernel
theorem dX2_foldFrom_123 : decode cX2_foldFrom 123 = .ok (.aload_n 1, 1) := by decide +kernel
theorem dX2_foldFrom_124 : decode cX2_foldFrom 124 = .ok (.iload 11, 2) := by decide +kernel
theorem dX2_foldFrom_126 : decode cX2_foldFrom 126 = .ok (.invokevirtual 49, 3) := by decide +kernel
theorem dX2_foldFrom_129 : decode cX2_foldFrom 129 = .ok (.aload_n 0, 1) := by decide +kernel
theorem dX2_foldFrom_130 : decode cX2_foldFrom 130 = .ok (.aload_n 1, 1) := by decide +kernel
theorem dX2_foldFrom_131 : decode cX2_foldFrom 131 = .ok (.iload 10, 2) := by decide +kernel
theorem dX2_foldFrom_133 : decode cX2_foldFrom 133 = .ok (.invokevirtual 39, 3) := by decide +kernel
theorem dX2_foldFrom_136 : decode cX2_foldFrom 136 = .ok (.aload_n 0, 1) := by decide +kernel
theorem dX2_foldFrom_137 : decode cX2_foldFrom 137 = .ok (.invokevirtual 36, 3) := by decide +kernel
theorem dX2_foldFrom_140 : decode cX2_foldFrom 140 = .ok (.iinc 6 1, 3) := by decide +kernel
theorem dX2_foldFrom_143 : decode cX2_foldFrom 143 = .ok (.goto (-112), 3) := by decide +kernel
theorem dX2_foldFrom_146 : decode cX2_foldFrom 146 = .ok (.return_, 1) := by decide +kernel
theorem dX2_empty_0 : decode cX2_empty 0 = .ok (.aload_n 0, 1) := by decide +kernel
theorem dX2_empty_1 : decode cX2_empty 1 = .ok (.iconst 0, 1) := by decide +kernel
theorem dX2_empty_2 : decode cX2_empty 2 = .ok (.putfield 22, 3) := by decide +kernel
theorem dX2_empty_5 : decode cX2_empty 5 = .ok (.aload_n 0, 1) := by decide +kernel
theorem dX2_empty_6 : decode cX2_empty 6 = .ok (.iconst 0, 1) := by decide +kernel
theorem dX2_empty_7 : decode cX2_empty 7 = .ok (.putfield 26, 3) := by decide +kernel
theorem dX2_empty_10 : decode cX2_empty 10 = .ok (.return_, 1) := by decide +kernel
theorem dX2_lay_0 : decode cX2_lay 0 = .ok (.aload_n 0, 1) := by decide +kernel
theorem dX2_lay_1 : decode cX2_lay 1 = .ok (.getfield 22, 3) := by decide +kernel
theorem dX2_lay_4 : decode cX2_lay 4 = .ok (.ifCond .lt 57, 3) := by decide +kernel
theorem dX2_lay_7 : decode cX2_lay 7 = .ok (.aload_n 0, 1) := by decide +kernel
theorem dX2_lay_8 : decode cX2_lay 8 = .ok (.getfield 22, 3) := by decide +kernel
theorem dX2_lay_11 : decode cX2_lay 11 = .ok (.aload_n 0, 1) := by decide +kernel
theorem dX2_lay_12 : decode cX2_lay 12 = .ok (.getfield 9, 3) := by decide +kernel
theorem dX2_lay_15 : decode cX2_lay 15 = .ok (.arraylength, 1) := by decide +kernel
theorem dX2_lay_16 : decode cX2_lay 16 = .ok (.if_icmp .ge 45, 3) := by decide +kernel
theorem dX2_lay_19 : decode cX2_lay 19 = .ok (.aload_n 0, 1) := by decide +kernel
theorem dX2_lay_20 : decode cX2_lay 20 = .ok (.getfield 22, 3) := by decide +kernel
theorem dX2_lay_23 : decode cX2_lay 23 = .ok (.aload_n 0, 1) := by decide +kernel
theorem dX2_lay_24 : decode cX2_lay 24 = .ok (.getfield 15, 3) := by decide +kernel
theorem dX2_lay_27 : decode cX2_lay 27 = .ok (.arraylength, 1) := by decide +kernel
theorem dX2_lay_28 : decode cX2_lay 28 = .ok (.if_icmp .ge 33, 3) := by decide +kernel
theorem dX2_lay_31 : decode cX2_lay 31 = .ok (.aload_n 0, 1) := by decide +kernel
theorem dX2_lay_32 : decode cX2_lay 32 = .ok (.getfield 9, 3) := by decide +kernel
theorem dX2_lay_35 : decode cX2_lay 35 = .ok (.aload_n 0, 1) := by decide +kernel
theorem dX2_lay_36 : decode cX2_lay 36 = .ok (.getfield 22, 3) := by decide +kernel
theorem dX2_lay_39 : decode cX2_lay 39 = .ok (.iload_n 1, 1) := by decide +kernel
theorem dX2_lay_40 : decode cX2_lay 40 = .ok (.iastore, 1) := by decide +kernel
theorem dX2_lay_41 : decode cX2_lay 41 = .ok (.aload_n 0, 1) := by decide +kernel
theorem dX2_lay_42 : decode cX2_lay 42 = .ok (.getfield 15, 3) := by decide +kernel
theorem dX2_lay_45 : decode cX2_lay 45 = .ok (.aload_n 0, 1) := by decide +kernel
theorem dX2_lay_46 : decode cX2_lay 46 = .ok (.getfield 22, 3) := by decide +kernel
theorem dX2_lay_49 : decode cX2_lay 49 = .ok (.iload_n 2, 1) := by decide +kernel
theorem dX2_lay_50 : decode cX2_lay 50 = .ok (.bastore, 1) := by decide +kernel
theorem dX2_lay_51 : decode cX2_lay 51 = .ok (.aload_n 0, 1) := by decide +kernel
theorem dX2_lay_52 : decode cX2_lay 52 = .ok (.dup, 1) := by decide +kernel
theorem dX2_lay_53 : decode cX2_lay 53 = .ok (.getfield 22, 3) := by decide +kernel
theorem dX2_lay_56 : decode cX2_lay 56 = .ok (.iconst 1, 1) := by decide +kernel
theorem dX2_lay_57 : decode cX2_lay 57 = .ok (.iadd, 1) := by decide +kernel
theorem dX2_lay_58 : decode cX2_lay 58 = .ok (.putfield 22, 3) := by decide +kernel
theorem dX2_lay_61 : decode cX2_lay 61 = .ok (.return_, 1) := by decide +kernel
theorem dX2_closeColumn_0 : decode cX2_closeColumn 0 = .ok (.aload_n 0, 1) := by decide +kernel
theorem dX2_closeColumn_1 : decode cX2_closeColumn 1 = .ok (.getfield 26, 3) := by decide +kernel
theorem dX2_closeColumn_4 : decode cX2_closeColumn 4 = .ok (.ifCond .lt 38, 3) := by decide +kernel
theorem dX2_closeColumn_7 : decode cX2_closeColumn 7 = .ok (.aload_n 0, 1) := by decide +kernel
theorem dX2_closeColumn_8 : decode cX2_closeColumn 8 = .ok (.getfield 26, 3) := by decide +kernel
theorem dX2_closeColumn_11 : decode cX2_closeColumn 11 = .ok (.aload_n 0, 1) := by decide +kernel
theorem dX2_closeColumn_12 : decode cX2_closeColumn 12 = .ok (.getfield 19, 3) := by decide +kernel
theorem dX2_closeColumn_15 : decode cX2_closeColumn 15 = .ok (.arraylength, 1) := by decide +kernel
theorem dX2_closeColumn_16 : decode cX2_closeColumn 16 = .ok (.if_icmp .ge 26, 3) := by decide +kernel
theorem dX2_closeColumn_19 : decode cX2_closeColumn 19 = .ok (.aload_n 0, 1) := by decide +kernel
theorem dX2_closeColumn_20 : decode cX2_closeColumn 20 = .ok (.getfield 19, 3) := by decide +kernel
theorem dX2_closeColumn_23 : decode cX2_closeColumn 23 = .ok (.aload_n 0, 1) := by decide +kernel
theorem dX2_closeColumn_24 : decode cX2_closeColumn 24 = .ok (.getfield 26, 3) := by decide +kernel
theorem dX2_closeColumn_27 : decode cX2_closeColumn 27 = .ok (.aload_n 0, 1) := by decide +kernel
theorem dX2_closeColumn_28 : decode cX2_closeColumn 28 = .ok (.getfield 22, 3) := by decide +kernel
theorem dX2_closeColumn_31 : decode cX2_closeColumn 31 = .ok (.iastore, 1) := by decide +kernel
theorem dX2_closeColumn_32 : decode cX2_closeColumn 32 = .ok (.aload_n 0, 1) := by decide +kernel
theorem dX2_closeColumn_33 : decode cX2_closeColumn 33 = .ok (.dup, 1) := by decide +kernel
theorem dX2_closeColumn_34 : decode cX2_closeColumn 34 = .ok (.getfield 26, 3) := by decide +kernel
theorem dX2_closeColumn_37 : decode cX2_closeColumn 37 = .ok (.iconst 1, 1) := by decide +kernel
theorem dX2_closeColumn_38 : decode cX2_closeColumn 38 = .ok (.iadd, 1) := by decide +kernel
theorem dX2_closeColumn_39 : decode cX2_closeColumn 39 = .ok (.putfield 26, 3) := by decide +kernel
theorem dX2_closeColumn_42 : decode cX2_closeColumn 42 = .ok (.return_, 1) := by decide +kernel
theorem dX2_layColumn_0 : decode cX2_layColumn 0 = .ok (.aload_n 1, 1) := by decide +kernel
theorem dX2_layColumn_1 : decode cX2_layColumn 1 = .ok (.iload_n 2, 1) := by decide +kernel
theorem dX2_layColumn_2 : decode cX2_layColumn 2 = .ok (.invokevirtual 52, 3) := by decide +kernel
theorem dX2_layColumn_5 : decode cX2_layColumn 5 = .ok (.istore_n 3, 1) := by decide +kernel
theorem dX2_layColumn_6 : decode cX2_layColumn 6 = .ok (.iload_n 3, 1) := by decide +kernel
theorem dX2_layColumn_7 : decode cX2_layColumn 7 = .ok (.aload_n 1, 1) := by decide +kernel
theorem dX2_layColumn_8 : decode cX2_layColumn 8 = .ok (.iload_n 2, 1) := by decide +kernel
theorem dX2_layColumn_9 : decode cX2_layColumn 9 = .ok (.invokevirtual 56, 3) := by decide +kernel
theorem dX2_layColumn_12 : decode cX2_layColumn 12 = .ok (.if_icmp .ge 23, 3) := by decide +kernel
theorem dX2_layColumn_15 : decode cX2_layColumn 15 = .ok (.aload_n 0, 1) := by decide +kernel
theorem dX2_layColumn_16 : decode cX2_layColumn 16 = .ok (.aload_n 1, 1) := by decide +kernel
theorem dX2_layColumn_17 : decode cX2_layColumn 17 = .ok (.iload_n 3, 1) := by decide +kernel
theorem dX2_layColumn_18 : decode cX2_layColumn 18 = .ok (.invokevirtual 59, 3) := by decide +kernel
theorem dX2_layColumn_21 : decode cX2_layColumn 21 = .ok (.aload_n 1, 1) := by decide +kernel
theorem dX2_layColumn_22 : decode cX2_layColumn 22 = .ok (.iload_n 3, 1) := by decide +kernel
theorem dX2_layColumn_23 : decode cX2_layColumn 23 = .ok (.invokevirtual 62, 3) := by decide +kernel
theorem dX2_layColumn_26 : decode cX2_layColumn 26 = .ok (.invokevirtual 32, 3) := by decide +kernel
theorem dX2_layColumn_29 : decode cX2_layColumn 29 = .ok (.iinc 3 1, 3) := by decide +kernel
theorem dX2_layColumn_32 : decode cX2_layColumn 32 = .ok (.goto (-26), 3) := by decide +kernel
theorem dX2_layColumn_35 : decode cX2_layColumn 35 = .ok (.return_, 1) := by decide +kernel
theorem dX2_layTurned_0 : decode cX2_layTurned 0 = .ok (.aload_n 1, 1) := by decide +kernel
theorem dX2_layTurned_1 : decode cX2_layTurned 1 = .ok (.iload_n 2, 1) := by decide +kernel
theorem dX2_layTurned_2 : decode cX2_layTurned 2 = .ok (.invokevirtual 56, 3) := by decide +kernel
theorem dX2_layTurned_5 : decode cX2_layTurned 5 = .ok (.iconst 1, 1) := by decide +kernel
theorem dX2_layTurned_6 : decode cX2_layTurned 6 = .ok (.isub, 1) := by decide +kernel
theorem dX2_layTurned_7 : decode cX2_layTurned 7 = .ok (.istore_n 3, 1) := by decide +kernel
theorem dX2_layTurned_8 : decode cX2_layTurned 8 = .ok (.iload_n 3, 1) := by decide +kernel
theorem dX2_layTurned_9 : decode cX2_layTurned 9 = .ok (.aload_n 1, 1) := by decide +kernel
theorem dX2_layTurned_10 : decode cX2_layTurned 10 = .ok (.iload_n 2, 1) := by decide +kernel
theorem dX2_layTurned_11 : decode cX2_layTurned 11 = .ok (.invokevirtual 52, 3) := by decide +kernel
theorem dX2_layTurned_14 : decode cX2_layTurned 14 = .ok (.if_icmp .lt 31, 3) := by decide +kernel
theorem dX2_layTurned_17 : decode cX2_layTurned 17 = .ok (.aload_n 0, 1) := by decide +kernel
theorem dX2_layTurned_18 : decode cX2_layTurned 18 = .ok (.aload_n 1, 1) := by decide +kernel
theorem dX2_layTurned_19 : decode cX2_layTurned 19 = .ok (.iload_n 3, 1) := by decide +kernel
theorem dX2_layTurned_20 : decode cX2_layTurned 20 = .ok (.invokevirtual 59, 3) := by decide +kernel
theorem dX2_layTurned_23 : decode cX2_layTurned 23 = .ok (.aload_n 1, 1) := by decide +kernel
theorem dX2_layTurned_24 : decode cX2_layTurned 24 = .ok (.iload_n 3, 1) := by decide +kernel
theorem dX2_layTurned_25 : decode cX2_layTurned 25 = .ok (.invokevirtual 62, 3) := by decide +kernel
theorem dX2_layTurned_28 : decode cX2_layTurned 28 = .ok (.ifCond .ne 7, 3) := by decide +kernel
theorem dX2_layTurned_31 : decode cX2_layTurned 31 = .ok (.iconst 1, 1) := by decide +kernel
theorem dX2_layTurned_32 : decode cX2_layTurned 32 = .ok (.goto 4, 3) := by decide +kernel
theorem dX2_layTurned_35 : decode cX2_layTurned 35 = .ok (.iconst 0, 1) := by decide +kernel
theorem dX2_layTurned_36 : decode cX2_layTurned 36 = .ok (.invokevirtual 32, 3) := by decide +kernel
theorem dX2_layTurned_39 : decode cX2_layTurned 39 = .ok (.iinc 3 (-1), 3) := by decide +kernel
theorem dX2_layTurned_42 : decode cX2_layTurned 42 = .ok (.goto (-34), 3) := by decide +kernel
theorem dX2_layTurned_45 : decode cX2_layTurned 45 = .ok (.return_, 1) := by decide +kernel
theorem dX2_startOf_0 : decode cX2_startOf 0 = .ok (.iload_n 1, 1) := by decide +kernel
theorem dX2_startOf_1 : decode cX2_startOf 1 = .ok (.iconst 1, 1) := by decide +kernel
theorem dX2_startOf_2 : decode cX2_startOf 2 = .ok (.if_icmp .lt 31, 3) := by decide +kernel
theorem dX2_startOf_5 : decode cX2_startOf 5 = .ok (.iload_n 1, 1) := by decide +kernel
theorem dX2_startOf_6 : decode cX2_startOf 6 = .ok (.aload_n 0, 1) := by decide +kernel
theorem dX2_startOf_7 : decode cX2_startOf 7 = .ok (.getfield 26, 3) := by decide +kernel
theorem dX2_startOf_10 : decode cX2_startOf 10 = .ok (.if_icmp .ge 23, 3) := by decide +kernel
theorem dX2_startOf_13 : decode cX2_startOf 13 = .ok (.iload_n 1, 1) := by decide +kernel
theorem dX2_startOf_14 : decode cX2_startOf 14 = .ok (.aload_n 0, 1) := by decide +kernel
theorem dX2_startOf_15 : decode cX2_startOf 15 = .ok (.getfield 19, 3) := by decide +kernel
theorem dX2_startOf_18 : decode cX2_startOf 18 = .ok (.arraylength, 1) := by decide +kernel
theorem dX2_startOf_19 : decode cX2_startOf 19 = .ok (.if_icmp .gt 14, 3) := by decide +kernel
theorem dX2_startOf_22 : decode cX2_startOf 22 = .ok (.aload_n 0, 1) := by decide +kernel
theorem dX2_startOf_23 : decode cX2_startOf 23 = .ok (.getfield 19, 3) := by decide +kernel
theorem dX2_startOf_26 : decode cX2_startOf 26 = .ok (.iload_n 1, 1) := by decide +kernel
theorem dX2_startOf_27 : decode cX2_startOf 27 = .ok (.iconst 1, 1) := by decide +kernel
theorem dX2_startOf_28 : decode cX2_startOf 28 = .ok (.isub, 1) := by decide +kernel
theorem dX2_startOf_29 : decode cX2_startOf 29 = .ok (.iaload, 1) := by decide +kernel
theorem dX2_startOf_30 : decode cX2_startOf 30 = .ok (.goto 4, 3) := by decide +kernel
theorem dX2_startOf_33 : decode cX2_startOf 33 = .ok (.iconst 0, 1) := by decide +kernel
theorem dX2_startOf_34 : decode cX2_startOf 34 = .ok (.ireturn, 1) := by decide +kernel
theorem dX2_endOf_0 : decode cX2_endOf 0 = .ok (.iload_n 1, 1) := by decide +kernel
theorem dX2_endOf_1 : decode cX2_endOf 1 = .ok (.ifCond .lt 29, 3) := by decide +kernel
theorem dX2_endOf_4 : decode cX2_endOf 4 = .ok (.iload_n 1, 1) := by decide +kernel
theorem dX2_endOf_5 : decode cX2_endOf 5 = .ok (.aload_n 0, 1) := by decide +kernel
theorem dX2_endOf_6 : decode cX2_endOf 6 = .ok (.getfield 26, 3) := by decide +kernel
theorem dX2_endOf_9 : decode cX2_endOf 9 = .ok (.if_icmp .ge 21, 3) := by decide +kernel
theorem dX2_endOf_12 : decode cX2_endOf 12 = .ok (.iload_n 1, 1) := by decide +kernel
theorem dX2_endOf_13 : decode cX2_endOf 13 = .ok (.aload_n 0, 1) := by decide +kernel
theorem dX2_endOf_14 : decode cX2_endOf 14 = .ok (.getfield 19, 3) := by decide +kernel
theorem dX2_endOf_17 : decode cX2_endOf 17 = .ok (.arraylength, 1) := by decide +kernel
theorem dX2_endOf_18 : decode cX2_endOf 18 = .ok (.if_icmp .ge 12, 3) := by decide +kernel
theorem dX2_endOf_21 : decode cX2_endOf 21 = .ok (.aload_n 0, 1) := by decide +kernel
theorem dX2_endOf_22 : decode cX2_endOf 22 = .ok (.getfield 19, 3) := by decide +kernel
theorem dX2_endOf_25 : decode cX2_endOf 25 = .ok (.iload_n 1, 1) := by decide +kernel
theorem dX2_endOf_26 : decode cX2_endOf 26 = .ok (.iaload, 1) := by decide +kernel
theorem dX2_endOf_27 : decode cX2_endOf 27 = .ok (.goto 4, 3) := by decide +kernel
theorem dX2_endOf_30 : decode cX2_endOf 30 = .ok (.iconst 0, 1) := by decide +kernel
theorem dX2_endOf_31 : decode cX2_endOf 31 = .ok (.ireturn, 1) := by decide +kernel
theorem dX2_heightOf_0 : decode cX2_heightOf 0 = .ok (.aload_n 0, 1) := by decide +kernel
theorem dX2_heightOf_1 : decode cX2_heightOf 1 = .ok (.iload_n 1, 1) := by decide +kernel
theorem dX2_heightOf_2 : decode cX2_heightOf 2 = .ok (.invokevirtual 56, 3) := by decide +kernel
theorem dX2_heightOf_5 : decode cX2_heightOf 5 = .ok (.aload_n 0, 1) := by decide +kernel
theorem dX2_heightOf_6 : decode cX2_heightOf 6 = .ok (.iload_n 1, 1) := by decide +kernel
theorem dX2_heightOf_7 : decode cX2_heightOf 7 = .ok (.invokevirtual 52, 3) := by decide +kernel
theorem dX2_heightOf_10 : decode cX2_heightOf 10 = .ok (.isub, 1) := by decide +kernel
theorem dX2_heightOf_11 : decode cX2_heightOf 11 = .ok (.ireturn, 1) := by decide +kernel
theorem dX2_cellAt_0 : decode cX2_cellAt 0 = .ok (.iload_n 1, 1) := by decide +kernel
theorem dX2_cellAt_1 : decode cX2_cellAt 1 = .ok (.ifCond .lt 29, 3) := by decide +kernel
theorem dX2_cellAt_4 : decode cX2_cellAt 4 = .ok (.iload_n 1, 1) := by decide +kernel
theorem dX2_cellAt_5 : decode cX2_cellAt 5 = .ok (.aload_n 0, 1) := by decide +kernel
theorem dX2_cellAt_6 : decode cX2_cellAt 6 = .ok (.getfield 22, 3) := by decide +kernel
theorem dX2_cellAt_9 : decode cX2_cellAt 9 = .ok (.if_icmp .ge 21, 3) := by decide +kernel
theorem dX2_cellAt_12 : decode cX2_cellAt 12 = .ok (.iload_n 1, 1) := by decide +kernel
theorem dX2_cellAt_13 : decode cX2_cellAt 13 = .ok (.aload_n 0, 1) := by decide +kernel
theorem dX2_cellAt_14 : decode cX2_cellAt 14 = .ok (.getfield 9, 3) := by decide +kernel
theorem dX2_cellAt_17 : decode cX2_cellAt 17 = .ok (.arraylength, 1) := by decide +kernel
theorem dX2_cellAt_18 : decode cX2_cellAt 18 = .ok (.if_icmp .ge 12, 3) := by decide +kernel
theorem dX2_cellAt_21 : decode cX2_cellAt 21 = .ok (.aload_n 0, 1) := by decide +kernel
theorem dX2_cellAt_22 : decode cX2_cellAt 22 = .ok (.getfield 9, 3) := by decide +kernel
theorem dX2_cellAt_25 : decode cX2_cellAt 25 = .ok (.iload_n 1, 1) := by decide +kernel
theorem dX2_cellAt_26 : decode cX2_cellAt 26 = .ok (.iaload, 1) := by decide +kernel
theorem dX2_cellAt_27 : decode cX2_cellAt 27 = .ok (.goto 4, 3) := by decide +kernel
theorem dX2_cellAt_30 : decode cX2_cellAt 30 = .ok (.iconst (-1), 1) := by decide +kernel
theorem dX2_cellAt_31 : decode cX2_cellAt 31 = .ok (.ireturn, 1) := by decide +kernel
theorem dX2_isUp_0 : decode cX2_isUp 0 = .ok (.iload_n 1, 1) := by decide +kernel
theorem dX2_isUp_1 : decode cX2_isUp 1 = .ok (.ifCond .lt 33, 3) := by decide +kernel
theorem dX2_isUp_4 : decode cX2_isUp 4 = .ok (.iload_n 1, 1) := by decide +kernel
theorem dX2_isUp_5 : decode cX2_isUp 5 = .ok (.aload_n 0, 1) := by decide +kernel
theorem dX2_isUp_6 : decode cX2_isUp 6 = .ok (.getfield 22, 3) := by decide +kernel
theorem dX2_isUp_9 : decode cX2_isUp 9 = .ok (.if_icmp .ge 25, 3) := by decide +kernel
theorem dX2_isUp_12 : decode cX2_isUp 12 = .ok (.iload_n 1, 1) := by decide +kernel
theorem dX2_isUp_13 : decode cX2_isUp 13 = .ok (.aload_n 0, 1) := by decide +kernel
theorem dX2_isUp_14 : decode cX2_isUp 14 = .ok (.getfield 15, 3) := by decide +kernel
theorem dX2_isUp_17 : decode cX2_isUp 17 = .ok (.arraylength, 1) := by decide +kernel
theorem dX2_isUp_18 : decode cX2_isUp 18 = .ok (.if_icmp .ge 16, 3) := by decide +kernel
theorem dX2_isUp_21 : decode cX2_isUp 21 = .ok (.aload_n 0, 1) := by decide +kernel
theorem dX2_isUp_22 : decode cX2_isUp 22 = .ok (.getfield 15, 3) := by decide +kernel
theorem dX2_isUp_25 : decode cX2_isUp 25 = .ok (.iload_n 1, 1) := by decide +kernel
theorem dX2_isUp_26 : decode cX2_isUp 26 = .ok (.baload, 1) := by decide +kernel
theorem dX2_isUp_27 : decode cX2_isUp 27 = .ok (.ifCond .eq 7, 3) := by decide +kernel
theorem dX2_isUp_30 : decode cX2_isUp 30 = .ok (.iconst 1, 1) := by decide +kernel
theorem dX2_isUp_31 : decode cX2_isUp 31 = .ok (.goto 4, 3) := by decide +kernel
theorem dX2_isUp_34 : decode cX2_isUp 34 = .ok (.iconst 0, 1) := by decide +kernel
theorem dX2_isUp_35 : decode cX2_isUp 35 = .ok (.ireturn, 1) := by decide +kernel
theorem dX2_tallest_0 : decode cX2_tallest 0 = .ok (.iconst 0, 1) := by decide +kernel
theorem dX2_tallest_1 : decode cX2_tallest 1 = .ok (.istore_n 1, 1) := by decide +kernel
theorem dX2_tallest_2 : decode cX2_tallest 2 = .ok (.iconst 0, 1) := by decide +kernel
theorem dX2_tallest_3 : decode cX2_tallest 3 = .ok (.istore_n 2, 1) := by decide +kernel
theorem dX2_tallest_4 : decode cX2_tallest 4 = .ok (.iload_n 2, 1) := by decide +kernel
theorem dX2_tallest_5 : decode cX2_tallest 5 = .ok (.aload_n 0, 1) := by decide +kernel
theorem dX2_tallest_6 : decode cX2_tallest 6 = .ok (.getfield 26, 3) := by decide +kernel
theorem dX2_tallest_9 : decode cX2_tallest 9 = .ok (.if_icmp .ge 19, 3) := by decide +kernel
theorem dX2_tallest_12 : decode cX2_tallest 12 = .ok (.iload_n 1, 1) := by decide +kernel
theorem dX2_tallest_13 : decode cX2_tallest 13 = .ok (.aload_n 0, 1) := by decide +kernel
theorem dX2_tallest_14 : decode cX2_tallest 14 = .ok (.iload_n 2, 1) := by decide +kernel
theorem dX2_tallest_15 : decode cX2_tallest 15 = .ok (.invokevirtual 66, 3) := by decide +kernel
theorem dX2_tallest_18 : decode cX2_tallest 18 = .ok (.invokestatic 43, 3) := by decide +kernel
theorem dX2_tallest_21 : decode cX2_tallest 21 = .ok (.istore_n 1, 1) := by decide +kernel
theorem dX2_tallest_22 : decode cX2_tallest 22 = .ok (.iinc 2 1, 3) := by decide +kernel
theorem dX2_tallest_25 : decode cX2_tallest 25 = .ok (.goto (-21), 3) := by decide +kernel
theorem dX2_tallest_28 : decode cX2_tallest 28 = .ok (.iload_n 1, 1) := by decide +kernel
theorem dX2_tallest_29 : decode cX2_tallest 29 = .ok (.ireturn, 1) := by decide +kernel
theorem dX2_placeOf_0 : decode cX2_placeOf 0 = .ok (.iconst 0, 1) := by decide +kernel
theorem dX2_placeOf_1 : decode cX2_placeOf 1 = .ok (.istore_n 2, 1) := by decide +kernel
theorem dX2_placeOf_2 : decode cX2_placeOf 2 = .ok (.iload_n 2, 1) := by decide +kernel
theorem dX2_placeOf_3 : decode cX2_placeOf 3 = .ok (.aload_n 0, 1) := by decide +kernel
theorem dX2_placeOf_4 : decode cX2_placeOf 4 = .ok (.getfield 22, 3) := by decide +kernel
theorem dX2_placeOf_7 : decode cX2_placeOf 7 = .ok (.if_icmp .ge 20, 3) := by decide +kernel
theorem dX2_placeOf_10 : decode cX2_placeOf 10 = .ok (.aload_n 0, 1) := by decide +kernel
theorem dX2_placeOf_11 : decode cX2_placeOf 11 = .ok (.iload_n 2, 1) := by decide +kernel
theorem dX2_placeOf_12 : decode cX2_placeOf 12 = .ok (.invokevirtual 59, 3) := by decide +kernel
theorem dX2_placeOf_15 : decode cX2_placeOf 15 = .ok (.iload_n 1, 1) := by decide +kernel
theorem dX2_placeOf_16 : decode cX2_placeOf 16 = .ok (.if_icmp .ne 5, 3) := by decide +kernel
theorem dX2_placeOf_19 : decode cX2_placeOf 19 = .ok (.iload_n 2, 1) := by decide +kernel
theorem dX2_placeOf_20 : decode cX2_placeOf 20 = .ok (.ireturn, 1) := by decide +kernel
theorem dX2_placeOf_21 : decode cX2_placeOf 21 = .ok (.iinc 2 1, 3) := by decide +kernel
theorem dX2_placeOf_24 : decode cX2_placeOf 24 = .ok (.goto (-22), 3) := by decide +kernel
theorem dX2_placeOf_27 : decode cX2_placeOf 27 = .ok (.iconst (-1), 1) := by decide +kernel
theorem dX2_placeOf_28 : decode cX2_placeOf 28 = .ok (.ireturn, 1) := by decide +kernel
theorem dX2_columnOf_0 : decode cX2_columnOf 0 = .ok (.aload_n 0, 1) := by decide +kernel
theorem dX2_columnOf_1 : decode cX2_columnOf 1 = .ok (.iload_n 1, 1) := by decide +kernel
theorem dX2_columnOf_2 : decode cX2_columnOf 2 = .ok (.invokevirtual 69, 3) := by decide +kernel
theorem dX2_columnOf_5 : decode cX2_columnOf 5 = .ok (.istore_n 2, 1) := by decide +kernel
theorem dX2_columnOf_6 : decode cX2_columnOf 6 = .ok (.iconst 0, 1) := by decide +kernel
theorem dX2_columnOf_7 : decode cX2_columnOf 7 = .ok (.istore_n 3, 1) := by decide +kernel
theorem dX2_columnOf_8 : decode cX2_columnOf 8 = .ok (.iload_n 3, 1) := by decide +kernel
theorem dX2_columnOf_9 : decode cX2_columnOf 9 = .ok (.aload_n 0, 1) := by decide +kernel
theorem dX2_columnOf_10 : decode cX2_columnOf 10 = .ok (.getfield 26, 3) := by decide +kernel
theorem dX2_columnOf_13 : decode cX2_columnOf 13 = .ok (.if_icmp .ge 20, 3) := by decide +kernel
theorem dX2_columnOf_16 : decode cX2_columnOf 16 = .ok (.iload_n 2, 1) := by decide +kernel
theorem dX2_columnOf_17 : decode cX2_columnOf 17 = .ok (.aload_n 0, 1) := by decide +kernel
theorem dX2_columnOf_18 : decode cX2_columnOf 18 = .ok (.iload_n 3, 1) := by decide +kernel
theorem dX2_columnOf_19 : decode cX2_columnOf 19 = .ok (.invokevirtual 56, 3) := by decide +kernel
theorem dX2_columnOf_22 : decode cX2_columnOf 22 = .ok (.if_icmp .ge 5, 3) := by decide +kernel
theorem dX2_columnOf_25 : decode cX2_columnOf 25 = .ok (.iload_n 3, 1) := by decide +kernel
theorem dX2_columnOf_26 : decode cX2_columnOf 26 = .ok (.ireturn, 1) := by decide +kernel
theorem dX2_columnOf_27 : decode cX2_columnOf 27 = .ok (.iinc 3 1, 3) := by decide +kernel
theorem dX2_columnOf_30 : decode cX2_columnOf 30 = .ok (.goto (-22), 3) := by decide +kernel
theorem dX2_columnOf_33 : decode cX2_columnOf 33 = .ok (.iconst (-1), 1) := by decide +kernel
theorem dX2_columnOf_34 : decode cX2_columnOf 34 = .ok (.ireturn, 1) := by decide +kernel
theorem dX2_markAbove_0 : decode cX2_markAbove 0 = .ok (.aload_n 0, 1) := by decide +kernel
theorem dX2_markAbove_1 : decode cX2_markAbove 1 = .ok (.iload_n 1, 1) := by decide +kernel
theorem dX2_markAbove_2 : decode cX2_markAbove 2 = .ok (.invokevirtual 56, 3) := by decide +kernel
theorem dX2_markAbove_5 : decode cX2_markAbove 5 = .ok (.iconst 1, 1) := by decide +kernel
theorem dX2_markAbove_6 : decode cX2_markAbove 6 = .ok (.isub, 1) := by decide +kernel
theorem dX2_markAbove_7 : decode cX2_markAbove 7 = .ok (.istore_n 3, 1) := by decide +kernel
theorem dX2_markAbove_8 : decode cX2_markAbove 8 = .ok (.aload_n 0, 1) := by decide +kernel
theorem dX2_markAbove_9 : decode cX2_markAbove 9 = .ok (.iload_n 3, 1) := by decide +kernel
theorem dX2_markAbove_10 : decode cX2_markAbove 10 = .ok (.invokevirtual 59, 3) := by decide +kernel
theorem dX2_markAbove_13 : decode cX2_markAbove 13 = .ok (.aload_n 0, 1) := by decide +kernel
theorem dX2_markAbove_14 : decode cX2_markAbove 14 = .ok (.iload_n 3, 1) := by decide +kernel
theorem dX2_markAbove_15 : decode cX2_markAbove 15 = .ok (.invokevirtual 62, 3) := by decide +kernel
theorem dX2_markAbove_18 : decode cX2_markAbove 18 = .ok (.aload_n 2, 1) := by decide +kernel
theorem dX2_markAbove_19 : decode cX2_markAbove 19 = .ok (.invokestatic 72, 3) := by decide +kernel
theorem dX2_markAbove_22 : decode cX2_markAbove 22 = .ok (.ireturn, 1) := by decide +kernel
theorem dX2_markBeneath_0 : decode cX2_markBeneath 0 = .ok (.aload_n 0, 1) := by decide +kernel
theorem dX2_markBeneath_1 : decode cX2_markBeneath 1 = .ok (.iload_n 1, 1) := by decide +kernel
theorem dX2_markBeneath_2 : decode cX2_markBeneath 2 = .ok (.invokevirtual 52, 3) := by decide +kernel
theorem dX2_markBeneath_5 : decode cX2_markBeneath 5 = .ok (.istore_n 3, 1) := by decide +kernel
theorem dX2_markBeneath_6 : decode cX2_markBeneath 6 = .ok (.aload_n 0, 1) := by decide +kernel
theorem dX2_markBeneath_7 : decode cX2_markBeneath 7 = .ok (.iload_n 3, 1) := by decide +kernel
theorem dX2_markBeneath_8 : decode cX2_markBeneath 8 = .ok (.invokevirtual 59, 3) := by decide +kernel
theorem dX2_markBeneath_11 : decode cX2_markBeneath 11 = .ok (.aload_n 0, 1) := by decide +kernel
theorem dX2_markBeneath_12 : decode cX2_markBeneath 12 = .ok (.iload_n 3, 1) := by decide +kernel
theorem dX2_markBeneath_13 : decode cX2_markBeneath 13 = .ok (.invokevirtual 62, 3) := by decide +kernel
theorem dX2_markBeneath_16 : decode cX2_markBeneath 16 = .ok (.ifCond .ne 7, 3) := by decide +kernel
theorem dX2_markBeneath_19 : decode cX2_markBeneath 19 = .ok (.iconst 1, 1) := by decide +kernel
theorem dX2_markBeneath_20 : decode cX2_markBeneath 20 = .ok (.goto 4, 3) := by decide +kernel
theorem dX2_markBeneath_23 : decode cX2_markBeneath 23 = .ok (.iconst 0, 1) := by decide +kernel
theorem dX2_markBeneath_24 : decode cX2_markBeneath 24 = .ok (.aload_n 2, 1) := by decide +kernel
theorem dX2_markBeneath_25 : decode cX2_markBeneath 25 = .ok (.invokestatic 72, 3) := by decide +kernel
theorem dX2_markBeneath_28 : decode cX2_markBeneath 28 = .ok (.ireturn, 1) := by decide +kernel
theorem dX2_markOf_0 : decode cX2_markOf 0 = .ok (.iconst 2, 1) := by decide +kernel
theorem dX2_markOf_1 : decode cX2_markOf 1 = .ok (.iload_n 0, 1) := by decide +kernel
theorem dX2_markOf_2 : decode cX2_markOf 2 = .ok (.imul, 1) := by decide +kernel
theorem dX2_markOf_3 : decode cX2_markOf 3 = .ok (.iload_n 1, 1) := by decide +kernel
theorem dX2_markOf_4 : decode cX2_markOf 4 = .ok (.ifCond .eq 7, 3) := by decide +kernel
theorem dX2_markOf_7 : decode cX2_markOf 7 = .ok (.iconst 0, 1) := by decide +kernel
theorem dX2_markOf_8 : decode cX2_markOf 8 = .ok (.goto 4, 3) := by decide +kernel
theorem dX2_markOf_11 : decode cX2_markOf 11 = .ok (.iconst 1, 1) := by decide +kernel
theorem dX2_markOf_12 : decode cX2_markOf 12 = .ok (.iadd, 1) := by decide +kernel
theorem dX2_markOf_13 : decode cX2_markOf 13 = .ok (.istore_n 3, 1) := by decide +kernel
theorem dX2_markOf_14 : decode cX2_markOf 14 = .ok (.iload_n 3, 1) := by decide +kernel
theorem dX2_markOf_15 : decode cX2_markOf 15 = .ok (.ifCond .lt 15, 3) := by decide +kernel
theorem dX2_markOf_18 : decode cX2_markOf 18 = .ok (.iload_n 3, 1) := by decide +kernel
theorem dX2_markOf_19 : decode cX2_markOf 19 = .ok (.aload_n 2, 1) := by decide +kernel
theorem dX2_markOf_20 : decode cX2_markOf 20 = .ok (.arraylength, 1) := by decide +kernel
theorem dX2_markOf_21 : decode cX2_markOf 21 = .ok (.if_icmp .ge 9, 3) := by decide +kernel
theorem dX2_markOf_24 : decode cX2_markOf 24 = .ok (.aload_n 2, 1) := by decide +kernel
theorem dX2_markOf_25 : decode cX2_markOf 25 = .ok (.iload_n 3, 1) := by decide +kernel
theorem dX2_markOf_26 : decode cX2_markOf 26 = .ok (.iaload, 1) := by decide +kernel
theorem dX2_markOf_27 : decode cX2_markOf 27 = .ok (.goto 4, 3) := by decide +kernel
theorem dX2_markOf_30 : decode cX2_markOf 30 = .ok (.iconst 0, 1) := by decide +kernel
theorem dX2_markOf_31 : decode cX2_markOf 31 = .ok (.ireturn, 1) := by decide +kernel
theorem dX2_creaseAt_0 : decode cX2_creaseAt 0 = .ok (.aload_n 0, 1) := by decide +kernel
theorem dX2_creaseAt_1 : decode cX2_creaseAt 1 = .ok (.iload_n 1, 1) := by decide +kernel
theorem dX2_creaseAt_2 : decode cX2_creaseAt 2 = .ok (.invokevirtual 76, 3) := by decide +kernel
theorem dX2_creaseAt_5 : decode cX2_creaseAt 5 = .ok (.aload_n 0, 1) := by decide +kernel
theorem dX2_creaseAt_6 : decode cX2_creaseAt 6 = .ok (.iload_n 1, 1) := by decide +kernel
theorem dX2_creaseAt_7 : decode cX2_creaseAt 7 = .ok (.iconst 1, 1) := by decide +kernel
theorem dX2_creaseAt_8 : decode cX2_creaseAt 8 = .ok (.iadd, 1) := by decide +kernel
theorem dX2_creaseAt_9 : decode cX2_creaseAt 9 = .ok (.invokevirtual 76, 3) := by decide +kernel
theorem dX2_creaseAt_12 : decode cX2_creaseAt 12 = .ok (.if_icmp .eq 5, 3) := by decide +kernel
theorem dX2_creaseAt_15 : decode cX2_creaseAt 15 = .ok (.iconst 0, 1) := by decide +kernel
theorem dX2_creaseAt_16 : decode cX2_creaseAt 16 = .ok (.ireturn, 1) := by decide +kernel
theorem dX2_creaseAt_17 : decode cX2_creaseAt 17 = .ok (.aload_n 0, 1) := by decide +kernel
theorem dX2_creaseAt_18 : decode cX2_creaseAt 18 = .ok (.aload_n 0, 1) := by decide +kernel
theorem dX2_creaseAt_19 : decode cX2_creaseAt 19 = .ok (.iload_n 1, 1) := by decide +kernel
theorem dX2_creaseAt_20 : decode cX2_creaseAt 20 = .ok (.invokevirtual 69, 3) := by decide +kernel
theorem dX2_creaseAt_23 : decode cX2_creaseAt 23 = .ok (.aload_n 0, 1) := by decide +kernel
theorem dX2_creaseAt_24 : decode cX2_creaseAt 24 = .ok (.iload_n 1, 1) := by decide +kernel
theorem dX2_creaseAt_25 : decode cX2_creaseAt 25 = .ok (.iconst 1, 1) := by decide +kernel
theorem dX2_creaseAt_26 : decode cX2_creaseAt 26 = .ok (.iadd, 1) := by decide +kernel
theorem dX2_creaseAt_27 : decode cX2_creaseAt 27 = .ok (.invokevirtual 69, 3) := by decide +kernel
theorem dX2_creaseAt_30 : decode cX2_creaseAt 30 = .ok (.invokestatic 79, 3) := by decide +kernel
theorem dX2_creaseAt_33 : decode cX2_creaseAt 33 = .ok (.invokevirtual 62, 3) := by decide +kernel
theorem dX2_creaseAt_36 : decode cX2_creaseAt 36 = .ok (.ifCond .eq 7, 3) := by decide +kernel
theorem dX2_creaseAt_39 : decode cX2_creaseAt 39 = .ok (.iconst 2, 1) := by decide +kernel
theorem dX2_creaseAt_40 : decode cX2_creaseAt 40 = .ok (.goto 4, 3) := by decide +kernel
theorem dX2_creaseAt_43 : decode cX2_creaseAt 43 = .ok (.iconst 1, 1) := by decide +kernel
theorem dX2_creaseAt_44 : decode cX2_creaseAt 44 = .ok (.ireturn, 1) := by decide +kernel
theorem dX2_creaseBits_0 : decode cX2_creaseBits 0 = .ok (.iconst 0, 1) := by decide +kernel
theorem dX2_creaseBits_1 : decode cX2_creaseBits 1 = .ok (.istore_n 1, 1) := by decide +kernel
theorem dX2_creaseBits_2 : decode cX2_creaseBits 2 = .ok (.iconst 0, 1) := by decide +kernel
theorem dX2_creaseBits_3 : decode cX2_creaseBits 3 = .ok (.istore_n 2, 1) := by decide +kernel
theorem dX2_creaseBits_4 : decode cX2_creaseBits 4 = .ok (.iload_n 2, 1) := by decide +kernel
theorem dX2_creaseBits_5 : decode cX2_creaseBits 5 = .ok (.iconst 1, 1) := by decide +kernel
theorem dX2_creaseBits_6 : decode cX2_creaseBits 6 = .ok (.iadd, 1) := by decide +kernel
theorem dX2_creaseBits_7 : decode cX2_creaseBits 7 = .ok (.aload_n 0, 1) := by decide +kernel
theorem dX2_creaseBits_8 : decode cX2_creaseBits 8 = .ok (.getfield 22, 3) := by decide +kernel
theorem dX2_creaseBits_11 : decode cX2_creaseBits 11 = .ok (.if_icmp .ge 23, 3) := by decide +kernel
theorem dX2_creaseBits_14 : decode cX2_creaseBits 14 = .ok (.aload_n 0, 1) := by decide +kernel
theorem dX2_creaseBits_15 : decode cX2_creaseBits 15 = .ok (.iload_n 2, 1) := by decide +kernel
theorem dX2_creaseBits_16 : decode cX2_creaseBits 16 = .ok (.invokevirtual 82, 3) := by decide +kernel
theorem dX2_creaseBits_19 : decode cX2_creaseBits 19 = .ok (.ifCond .eq 9, 3) := by decide +kernel
theorem dX2_creaseBits_22 : decode cX2_creaseBits 22 = .ok (.iload_n 1, 1) := by decide +kernel
theorem dX2_creaseBits_23 : decode cX2_creaseBits 23 = .ok (.iconst 1, 1) := by decide +kernel
theorem dX2_creaseBits_24 : decode cX2_creaseBits 24 = .ok (.iload_n 2, 1) := by decide +kernel
theorem dX2_creaseBits_25 : decode cX2_creaseBits 25 = .ok (.ishl, 1) := by decide +kernel
theorem dX2_creaseBits_26 : decode cX2_creaseBits 26 = .ok (.ior, 1) := by decide +kernel
theorem dX2_creaseBits_27 : decode cX2_creaseBits 27 = .ok (.istore_n 1, 1) := by decide +kernel
theorem dX2_creaseBits_28 : decode cX2_creaseBits 28 = .ok (.iinc 2 1, 3) := by decide +kernel
theorem dX2_creaseBits_31 : decode cX2_creaseBits 31 = .ok (.goto (-27), 3) := by decide +kernel
theorem dX2_creaseBits_34 : decode cX2_creaseBits 34 = .ok (.iload_n 1, 1) := by decide +kernel
theorem dX2_creaseBits_35 : decode cX2_creaseBits 35 = .ok (.ireturn, 1) := by decide +kernel
theorem dX2_creaseNumber_0 : decode cX2_creaseNumber 0 = .ok (.iconst 0, 1) := by decide +kernel
theorem dX2_creaseNumber_1 : decode cX2_creaseNumber 1 = .ok (.istore_n 1, 1) := by decide +kernel
theorem dX2_creaseNumber_2 : decode cX2_creaseNumber 2 = .ok (.iconst 0, 1) := by decide +kernel
theorem dX2_creaseNumber_3 : decode cX2_creaseNumber 3 = .ok (.istore_n 2, 1) := by decide +kernel
theorem dX2_creaseNumber_4 : decode cX2_creaseNumber 4 = .ok (.iload_n 2, 1) := by decide +kernel
theorem dX2_creaseNumber_5 : decode cX2_creaseNumber 5 = .ok (.iconst 1, 1) := by decide +kernel
theorem dX2_creaseNumber_6 : decode cX2_creaseNumber 6 = .ok (.iadd, 1) := by decide +kernel
theorem dX2_creaseNumber_7 : decode cX2_creaseNumber 7 = .ok (.aload_n 0, 1) := by decide +kernel
theorem dX2_creaseNumber_8 : decode cX2_creaseNumber 8 = .ok (.getfield 22, 3) := by decide +kernel
theorem dX2_creaseNumber_11 : decode cX2_creaseNumber 11 = .ok (.if_icmp .ge 19, 3) := by decide +kernel
theorem dX2_creaseNumber_14 : decode cX2_creaseNumber 14 = .ok (.iconst 3, 1) := by decide +kernel
theorem dX2_creaseNumber_15 : decode cX2_creaseNumber 15 = .ok (.iload_n 1, 1) := by decide +kernel
theorem dX2_creaseNumber_16 : decode cX2_creaseNumber 16 = .ok (.imul, 1) := by decide +kernel
theorem dX2_creaseNumber_17 : decode cX2_creaseNumber 17 = .ok (.aload_n 0, 1) := by decide +kernel
theorem dX2_creaseNumber_18 : decode cX2_creaseNumber 18 = .ok (.iload_n 2, 1) := by decide +kernel
theorem dX2_creaseNumber_19 : decode cX2_creaseNumber 19 = .ok (.invokevirtual 82, 3) := by decide +kernel
theorem dX2_creaseNumber_22 : decode cX2_creaseNumber 22 = .ok (.iadd, 1) := by decide +kernel
theorem dX2_creaseNumber_23 : decode cX2_creaseNumber 23 = .ok (.istore_n 1, 1) := by decide +kernel
theorem dX2_creaseNumber_24 : decode cX2_creaseNumber 24 = .ok (.iinc 2 1, 3) := by decide +kernel
theorem dX2_creaseNumber_27 : decode cX2_creaseNumber 27 = .ok (.goto (-23), 3) := by decide +kernel
theorem dX2_creaseNumber_30 : decode cX2_creaseNumber 30 = .ok (.iload_n 1, 1) := by decide +kernel
theorem dX2_creaseNumber_31 : decode cX2_creaseNumber 31 = .ok (.ireturn, 1) := by decide +kernel
theorem dX2_orderNumber_0 : decode cX2_orderNumber 0 = .ok (.iconst 0, 1) := by decide +kernel
theorem dX2_orderNumber_1 : decode cX2_orderNumber 1 = .ok (.istore_n 1, 1) := by decide +kernel
theorem dX2_orderNumber_2 : decode cX2_orderNumber 2 = .ok (.iconst 0, 1) := by decide +kernel
theorem dX2_orderNumber_3 : decode cX2_orderNumber 3 = .ok (.istore_n 2, 1) := by decide +kernel
theorem dX2_orderNumber_4 : decode cX2_orderNumber 4 = .ok (.iload_n 2, 1) := by decide +kernel
theorem dX2_orderNumber_5 : decode cX2_orderNumber 5 = .ok (.aload_n 0, 1) := by decide +kernel
theorem dX2_orderNumber_6 : decode cX2_orderNumber 6 = .ok (.getfield 22, 3) := by decide +kernel
theorem dX2_orderNumber_9 : decode cX2_orderNumber 9 = .ok (.if_icmp .ge 59, 3) := by decide +kernel
theorem dX2_orderNumber_12 : decode cX2_orderNumber 12 = .ok (.iconst 0, 1) := by decide +kernel
theorem dX2_orderNumber_13 : decode cX2_orderNumber 13 = .ok (.istore_n 3, 1) := by decide +kernel
theorem dX2_orderNumber_14 : decode cX2_orderNumber 14 = .ok (.iload_n 2, 1) := by decide +kernel
theorem dX2_orderNumber_15 : decode cX2_orderNumber 15 = .ok (.iconst 1, 1) := by decide +kernel
theorem dX2_orderNumber_16 : decode cX2_orderNumber 16 = .ok (.iadd, 1) := by decide +kernel
theorem dX2_orderNumber_17 : decode cX2_orderNumber 17 = .ok (.istore 4, 2) := by decide +kernel
theorem dX2_orderNumber_19 : decode cX2_orderNumber 19 = .ok (.iload 4, 2) := by decide +kernel
theorem dX2_orderNumber_21 : decode cX2_orderNumber 21 = .ok (.aload_n 0, 1) := by decide +kernel
theorem dX2_orderNumber_22 : decode cX2_orderNumber 22 = .ok (.getfield 22, 3) := by decide +kernel
theorem dX2_orderNumber_25 : decode cX2_orderNumber 25 = .ok (.if_icmp .ge 26, 3) := by decide +kernel
theorem dX2_orderNumber_28 : decode cX2_orderNumber 28 = .ok (.aload_n 0, 1) := by decide +kernel
theorem dX2_orderNumber_29 : decode cX2_orderNumber 29 = .ok (.iload 4, 2) := by decide +kernel
theorem dX2_orderNumber_31 : decode cX2_orderNumber 31 = .ok (.invokevirtual 59, 3) := by decide +kernel
theorem dX2_orderNumber_34 : decode cX2_orderNumber 34 = .ok (.aload_n 0, 1) := by decide +kernel
theorem dX2_orderNumber_35 : decode cX2_orderNumber 35 = .ok (.iload_n 2, 1) := by decide +kernel
theorem dX2_orderNumber_36 : decode cX2_orderNumber 36 = .ok (.invokevirtual 59, 3) := by decide +kernel
theorem dX2_orderNumber_39 : decode cX2_orderNumber 39 = .ok (.if_icmp .ge 6, 3) := by decide +kernel
theorem dX2_orderNumber_42 : decode cX2_orderNumber 42 = .ok (.iinc 3 1, 3) := by decide +kernel
theorem dX2_orderNumber_45 : decode cX2_orderNumber 45 = .ok (.iinc 4 1, 3) := by decide +kernel
theorem dX2_orderNumber_48 : decode cX2_orderNumber 48 = .ok (.goto (-29), 3) := by decide +kernel
theorem dX2_orderNumber_51 : decode cX2_orderNumber 51 = .ok (.iload_n 1, 1) := by decide +kernel
theorem dX2_orderNumber_52 : decode cX2_orderNumber 52 = .ok (.aload_n 0, 1) := by decide +kernel
theorem dX2_orderNumber_53 : decode cX2_orderNumber 53 = .ok (.getfield 22, 3) := by decide +kernel
theorem dX2_orderNumber_56 : decode cX2_orderNumber 56 = .ok (.iload_n 2, 1) := by decide +kernel
theorem dX2_orderNumber_57 : decode cX2_orderNumber 57 = .ok (.isub, 1) := by decide +kernel
theorem dX2_orderNumber_58 : decode cX2_orderNumber 58 = .ok (.imul, 1) := by decide +kernel
theorem dX2_orderNumber_59 : decode cX2_orderNumber 59 = .ok (.iload_n 3, 1) := by decide +kernel
theorem dX2_orderNumber_60 : decode cX2_orderNumber 60 = .ok (.iadd, 1) := by decide +kernel
theorem dX2_orderNumber_61 : decode cX2_orderNumber 61 = .ok (.istore_n 1, 1) := by decide +kernel
theorem dX2_orderNumber_62 : decode cX2_orderNumber 62 = .ok (.iinc 2 1, 3) := by decide +kernel
theorem dX2_orderNumber_65 : decode cX2_orderNumber 65 = .ok (.goto (-61), 3) := by decide +kernel
theorem dX2_orderNumber_68 : decode cX2_orderNumber 68 = .ok (.iload_n 1, 1) := by decide +kernel
theorem dX2_orderNumber_69 : decode cX2_orderNumber 69 = .ok (.ireturn, 1) := by decide +kernel
theorem dX2_key_0 : decode cX2_key 0 = .ok (.iconst 0, 1) := by decide +kernel
theorem dX2_key_1 : decode cX2_key 1 = .ok (.istore_n 1, 1) := by decide +kernel
theorem dX2_key_2 : decode cX2_key 2 = .ok (.iconst 0, 1) := by decide +kernel
theorem dX2_key_3 : decode cX2_key 3 = .ok (.istore_n 2, 1) := by decide +kernel
theorem dX2_key_4 : decode cX2_key 4 = .ok (.iconst 0, 1) := by decide +kernel
theorem dX2_key_5 : decode cX2_key 5 = .ok (.istore_n 3, 1) := by decide +kernel
theorem dX2_key_6 : decode cX2_key 6 = .ok (.iload_n 3, 1) := by decide +kernel
theorem dX2_key_7 : decode cX2_key 7 = .ok (.aload_n 0, 1) := by decide +kernel
theorem dX2_key_8 : decode cX2_key 8 = .ok (.getfield 22, 3) := by decide +kernel
theorem dX2_key_11 : decode cX2_key 11 = .ok (.if_icmp .ge 77, 3) := by decide +kernel
theorem dX2_key_14 : decode cX2_key 14 = .ok (.iload_n 3, 1) := by decide +kernel
theorem dX2_key_15 : decode cX2_key 15 = .ok (.iconst 1, 1) := by decide +kernel
theorem dX2_key_16 : decode cX2_key 16 = .ok (.iadd, 1) := by decide +kernel
theorem dX2_key_17 : decode cX2_key 17 = .ok (.aload_n 0, 1) := by decide +kernel
theorem dX2_key_18 : decode cX2_key 18 = .ok (.iload_n 2, 1) := by decide +kernel
theorem dX2_key_19 : decode cX2_key 19 = .ok (.invokevirtual 56, 3) := by decide +kernel
theorem dX2_key_22 : decode cX2_key 22 = .ok (.if_icmp .ne 7, 3) := by decide +kernel
theorem dX2_key_25 : decode cX2_key 25 = .ok (.iconst 1, 1) := by decide +kernel
theorem dX2_key_26 : decode cX2_key 26 = .ok (.goto 4, 3) := by decide +kernel
theorem dX2_key_29 : decode cX2_key 29 = .ok (.iconst 0, 1) := by decide +kernel
theorem dX2_key_30 : decode cX2_key 30 = .ok (.istore 4, 2) := by decide +kernel
theorem dX2_key_32 : decode cX2_key 32 = .ok (.iload_n 1, 1) := by decide +kernel
theorem dX2_key_33 : decode cX2_key 33 = .ok (.iconst 5, 1) := by decide +kernel
theorem dX2_key_34 : decode cX2_key 34 = .ok (.ishl, 1) := by decide +kernel
theorem dX2_key_35 : decode cX2_key 35 = .ok (.aload_n 0, 1) := by decide +kernel
theorem dX2_key_36 : decode cX2_key 36 = .ok (.iload_n 3, 1) := by decide +kernel
theorem dX2_key_37 : decode cX2_key 37 = .ok (.invokevirtual 59, 3) := by decide +kernel
theorem dX2_key_40 : decode cX2_key 40 = .ok (.iconst 2, 1) := by decide +kernel
theorem dX2_key_41 : decode cX2_key 41 = .ok (.ishl, 1) := by decide +kernel
theorem dX2_key_42 : decode cX2_key 42 = .ok (.ior, 1) := by decide +kernel
theorem dX2_key_43 : decode cX2_key 43 = .ok (.aload_n 0, 1) := by decide +kernel
theorem dX2_key_44 : decode cX2_key 44 = .ok (.iload_n 3, 1) := by decide +kernel
theorem dX2_key_45 : decode cX2_key 45 = .ok (.invokevirtual 62, 3) := by decide +kernel
theorem dX2_key_48 : decode cX2_key 48 = .ok (.ifCond .eq 7, 3) := by decide +kernel
theorem dX2_key_51 : decode cX2_key 51 = .ok (.iconst 2, 1) := by decide +kernel
theorem dX2_key_52 : decode cX2_key 52 = .ok (.goto 4, 3) := by decide +kernel
theorem dX2_key_55 : decode cX2_key 55 = .ok (.iconst 0, 1) := by decide +kernel
theorem dX2_key_56 : decode cX2_key 56 = .ok (.ior, 1) := by decide +kernel
theorem dX2_key_57 : decode cX2_key 57 = .ok (.iload 4, 2) := by decide +kernel
theorem dX2_key_59 : decode cX2_key 59 = .ok (.ifCond .eq 7, 3) := by decide +kernel
theorem dX2_key_62 : decode cX2_key 62 = .ok (.iconst 1, 1) := by decide +kernel
theorem dX2_key_63 : decode cX2_key 63 = .ok (.goto 4, 3) := by decide +kernel
theorem dX2_key_66 : decode cX2_key 66 = .ok (.iconst 0, 1) := by decide +kernel
theorem dX2_key_67 : decode cX2_key 67 = .ok (.ior, 1) := by decide +kernel
theorem dX2_key_68 : decode cX2_key 68 = .ok (.istore_n 1, 1) := by decide +kernel
theorem dX2_key_69 : decode cX2_key 69 = .ok (.iload_n 2, 1) := by decide +kernel
theorem dX2_key_70 : decode cX2_key 70 = .ok (.iload 4, 2) := by decide +kernel
theorem dX2_key_72 : decode cX2_key 72 = .ok (.ifCond .eq 7, 3) := by decide +kernel
theorem dX2_key_75 : decode cX2_key 75 = .ok (.iconst 1, 1) := by decide +kernel
theorem dX2_key_76 : decode cX2_key 76 = .ok (.goto 4, 3) := by decide +kernel
theorem dX2_key_79 : decode cX2_key 79 = .ok (.iconst 0, 1) := by decide +kernel
theorem dX2_key_80 : decode cX2_key 80 = .ok (.iadd, 1) := by decide +kernel
theorem dX2_key_81 : decode cX2_key 81 = .ok (.istore_n 2, 1) := by decide +kernel
theorem dX2_key_82 : decode cX2_key 82 = .ok (.iinc 3 1, 3) := by decide +kernel
theorem dX2_key_85 : decode cX2_key 85 = .ok (.goto (-79), 3) := by decide +kernel
theorem dX2_key_88 : decode cX2_key 88 = .ok (.iload_n 1, 1) := by decide +kernel
theorem dX2_key_89 : decode cX2_key 89 = .ok (.ireturn, 1) := by decide +kernel
theorem dX2_takeKey_0 : decode cX2_takeKey 0 = .ok (.aload_n 0, 1) := by decide +kernel
theorem dX2_takeKey_1 : decode cX2_takeKey 1 = .ok (.invokevirtual 29, 3) := by decide +kernel
theorem dX2_takeKey_4 : decode cX2_takeKey 4 = .ok (.iload_n 2, 1) := by decide +kernel
theorem dX2_takeKey_5 : decode cX2_takeKey 5 = .ok (.bipush 6, 2) := by decide +kernel
theorem dX2_takeKey_7 : decode cX2_takeKey 7 = .ok (.invokestatic 79, 3) := by decide +kernel
theorem dX2_takeKey_10 : decode cX2_takeKey 10 = .ok (.iconst 1, 1) := by decide +kernel
theorem dX2_takeKey_11 : decode cX2_takeKey 11 = .ok (.isub, 1) := by decide +kernel
theorem dX2_takeKey_12 : decode cX2_takeKey 12 = .ok (.istore_n 3, 1) := by decide +kernel
theorem dX2_takeKey_13 : decode cX2_takeKey 13 = .ok (.iload_n 3, 1) := by decide +kernel
theorem dX2_takeKey_14 : decode cX2_takeKey 14 = .ok (.ifCond .lt 50, 3) := by decide +kernel
theorem dX2_takeKey_17 : decode cX2_takeKey 17 = .ok (.iload_n 1, 1) := by decide +kernel
theorem dX2_takeKey_18 : decode cX2_takeKey 18 = .ok (.iconst 5, 1) := by decide +kernel
theorem dX2_takeKey_19 : decode cX2_takeKey 19 = .ok (.iload_n 3, 1) := by decide +kernel
theorem dX2_takeKey_20 : decode cX2_takeKey 20 = .ok (.imul, 1) := by decide +kernel
theorem dX2_takeKey_21 : decode cX2_takeKey 21 = .ok (.ishr, 1) := by decide +kernel
theorem dX2_takeKey_22 : decode cX2_takeKey 22 = .ok (.bipush 31, 2) := by decide +kernel
theorem dX2_takeKey_24 : decode cX2_takeKey 24 = .ok (.iand, 1) := by decide +kernel
theorem dX2_takeKey_25 : decode cX2_takeKey 25 = .ok (.istore 4, 2) := by decide +kernel
theorem dX2_takeKey_27 : decode cX2_takeKey 27 = .ok (.aload_n 0, 1) := by decide +kernel
theorem dX2_takeKey_28 : decode cX2_takeKey 28 = .ok (.iload 4, 2) := by decide +kernel
theorem dX2_takeKey_30 : decode cX2_takeKey 30 = .ok (.iconst 2, 1) := by decide +kernel
theorem dX2_takeKey_31 : decode cX2_takeKey 31 = .ok (.ishr, 1) := by decide +kernel
theorem dX2_takeKey_32 : decode cX2_takeKey 32 = .ok (.iload 4, 2) := by decide +kernel
theorem dX2_takeKey_34 : decode cX2_takeKey 34 = .ok (.iconst 2, 1) := by decide +kernel
theorem dX2_takeKey_35 : decode cX2_takeKey 35 = .ok (.iand, 1) := by decide +kernel
theorem dX2_takeKey_36 : decode cX2_takeKey 36 = .ok (.ifCond .eq 7, 3) := by decide +kernel
theorem dX2_takeKey_39 : decode cX2_takeKey 39 = .ok (.iconst 1, 1) := by decide +kernel
theorem dX2_takeKey_40 : decode cX2_takeKey 40 = .ok (.goto 4, 3) := by decide +kernel
theorem dX2_takeKey_43 : decode cX2_takeKey 43 = .ok (.iconst 0, 1) := by decide +kernel
theorem dX2_takeKey_44 : decode cX2_takeKey 44 = .ok (.invokevirtual 32, 3) := by decide +kernel
theorem dX2_takeKey_47 : decode cX2_takeKey 47 = .ok (.iload 4, 2) := by decide +kernel
theorem dX2_takeKey_49 : decode cX2_takeKey 49 = .ok (.iconst 1, 1) := by decide +kernel
theorem dX2_takeKey_50 : decode cX2_takeKey 50 = .ok (.iand, 1) := by decide +kernel
theorem dX2_takeKey_51 : decode cX2_takeKey 51 = .ok (.ifCond .eq 7, 3) := by decide +kernel
theorem dX2_takeKey_54 : decode cX2_takeKey 54 = .ok (.aload_n 0, 1) := by decide +kernel
theorem dX2_takeKey_55 : decode cX2_takeKey 55 = .ok (.invokevirtual 36, 3) := by decide +kernel
theorem dX2_takeKey_58 : decode cX2_takeKey 58 = .ok (.iinc 3 (-1), 3) := by decide +kernel
theorem dX2_takeKey_61 : decode cX2_takeKey 61 = .ok (.goto (-48), 3) := by decide +kernel
theorem dX2_takeKey_64 : decode cX2_takeKey 64 = .ok (.return_, 1) := by decide +kernel
theorem dX2_cells_0 : decode cX2_cells 0 = .ok (.aload_n 0, 1) := by decide +kernel
theorem dX2_cells_1 : decode cX2_cells 1 = .ok (.getfield 22, 3) := by decide +kernel
theorem dX2_cells_4 : decode cX2_cells 4 = .ok (.ireturn, 1) := by decide +kernel
theorem dX3_init_0 : decode cX3_init 0 = .ok (.aload_n 0, 1) := by decide +kernel
theorem dX3_init_1 : decode cX3_init 1 = .ok (.invokespecial 3, 3) := by decide +kernel
theorem dX3_init_4 : decode cX3_init 4 = .ok (.aload_n 0, 1) := by decide +kernel
theorem dX3_init_5 : decode cX3_init 5 = .ok (.bipush 12, 2) := by decide +kernel
theorem dX3_init_7 : decode cX3_init 7 = .ok (.newarray .int, 2) := by decide +kernel
theorem dX3_init_9 : decode cX3_init 9 = .ok (.putfield 9, 3) := by decide +kernel
theorem dX3_init_12 : decode cX3_init 12 = .ok (.aload_n 0, 1) := by decide +kernel
theorem dX3_init_13 : decode cX3_init 13 = .ok (.iconst 5, 1) := by decide +kernel
theorem dX3_init_14 : decode cX3_init 14 = .ok (.newarray .int, 2) := by decide +kernel
theorem dX3_init_16 : decode cX3_init 16 = .ok (.putfield 15, 3) := by decide +kernel
theorem dX3_init_19 : decode cX3_init 19 = .ok (.aload_n 0, 1) := by decide +kernel
theorem dX3_init_20 : decode cX3_init 20 = .ok (.iconst 0, 1) := by decide +kernel
theorem dX3_init_21 : decode cX3_init 21 = .ok (.putfield 18, 3) := by decide +kernel
theorem dX3_init_24 : decode cX3_init 24 = .ok (.return_, 1) := by decide +kernel
theorem dX3_begin_0 : decode cX3_begin 0 = .ok (.aload_n 1, 1) := by decide +kernel
theorem dX3_begin_1 : decode cX3_begin 1 = .ok (.getfield 22, 3) := by decide +kernel
theorem dX3_begin_4 : decode cX3_begin 4 = .ok (.iconst 0, 1) := by decide +kernel
theorem dX3_begin_5 : decode cX3_begin 5 = .ok (.aload_n 0, 1) := by decide +kernel
theorem dX3_begin_6 : decode cX3_begin 6 = .ok (.getfield 9, 3) := by decide +kernel
theorem dX3_begin_9 : decode cX3_begin 9 = .ok (.iconst 0, 1) := by decide +kernel
theorem dX3_begin_10 : decode cX3_begin 10 = .ok (.aload_n 1, 1) := by decide +kernel
theorem dX3_begin_11 : decode cX3_begin 11 = .ok (.getfield 22, 3) := by decide +kernel
theorem dX3_begin_14 : decode cX3_begin 14 = .ok (.arraylength, 1) := by decide +kernel
theorem dX3_begin_15 : decode cX3_begin 15 = .ok (.aload_n 0, 1) := by decide +kernel
theorem dX3_begin_16 : decode cX3_begin 16 = .ok (.getfield 9, 3) := by decide +kernel
theorem dX3_begin_19 : decode cX3_begin 19 = .ok (.arraylength, 1) := by decide +kernel
theorem dX3_begin_20 : decode cX3_begin 20 = .ok (.invokestatic 25, 3) := by decide +kernel
theorem dX3_begin_23 : decode cX3_begin 23 = .ok (.invokestatic 31, 3) := by decide +kernel
theorem dX3_begin_26 : decode cX3_begin 26 = .ok (.aload_n 0, 1) := by decide +kernel
theorem dX3_begin_27 : decode cX3_begin 27 = .ok (.iconst 0, 1) := by decide +kernel
theorem dX3_begin_28 : decode cX3_begin 28 = .ok (.putfield 18, 3) := by decide +kernel
theorem dX3_begin_31 : decode cX3_begin 31 = .ok (.return_, 1) := by decide +kernel
theorem dX3_take_0 : decode cX3_take 0 = .ok (.aload_n 1, 1) := by decide +kernel
theorem dX3_take_1 : decode cX3_take 1 = .ok (.getfield 9, 3) := by decide +kernel
theorem dX3_take_4 : decode cX3_take 4 = .ok (.iconst 0, 1) := by decide +kernel
theorem dX3_take_5 : decode cX3_take 5 = .ok (.aload_n 0, 1) := by decide +kernel
theorem dX3_take_6 : decode cX3_take 6 = .ok (.getfield 9, 3) := by decide +kernel
theorem dX3_take_9 : decode cX3_take 9 = .ok (.iconst 0, 1) := by decide +kernel
theorem dX3_take_10 : decode cX3_take 10 = .ok (.aload_n 1, 1) := by decide +kernel
theorem dX3_take_11 : decode cX3_take 11 = .ok (.getfield 9, 3) := by decide +kernel
theorem dX3_take_14 : decode cX3_take 14 = .ok (.arraylength, 1) := by decide +kernel
theorem dX3_take_15 : decode cX3_take 15 = .ok (.aload_n 0, 1) := by decide +kernel
theorem dX3_take_16 : decode cX3_take 16 = .ok (.getfield 9, 3) := by decide +kernel
theorem dX3_take_19 : decode cX3_take 19 = .ok (.arraylength, 1) := by decide +kernel
theorem dX3_take_20 : decode cX3_take 20 = .ok (.invokestatic 25, 3) := by decide +kernel
theorem dX3_take_23 : decode cX3_take 23 = .ok (.invokestatic 31, 3) := by decide +kernel
theorem dX3_take_26 : decode cX3_take 26 = .ok (.aload_n 1, 1) := by decide +kernel
theorem dX3_take_27 : decode cX3_take 27 = .ok (.getfield 15, 3) := by decide +kernel
theorem dX3_take_30 : decode cX3_take 30 = .ok (.iconst 0, 1) := by decide +kernel
theorem dX3_take_31 : decode cX3_take 31 = .ok (.aload_n 0, 1) := by decide +kernel
theorem dX3_take_32 : decode cX3_take 32 = .ok (.getfield 15, 3) := by decide +kernel
theorem dX3_take_35 : decode cX3_take 35 = .ok (.iconst 0, 1) := by decide +kernel
theorem dX3_take_36 : decode cX3_take 36 = .ok (.aload_n 1, 1) := by decide +kernel
theorem dX3_take_37 : decode cX3_take 37 = .ok (.getfield 15, 3) := by decide +kernel
theorem dX3_take_40 : decode cX3_take 40 = .ok (.arraylength, 1) := by decide +kernel
theorem dX3_take_41 : decode cX3_take 41 = .ok (.aload_n 0, 1) := by decide +kernel
theorem dX3_take_42 : decode cX3_take 42 = .ok (.getfield 15, 3) := by decide +kernel
theorem dX3_take_45 : decode cX3_take 45 = .ok (.arraylength, 1) := by decide +kernel
theorem dX3_take_46 : decode cX3_take 46 = .ok (.invokestatic 25, 3) := by decide +kernel
theorem dX3_take_49 : decode cX3_take 49 = .ok (.invokestatic 31, 3) := by decide +kernel
theorem dX3_take_52 : decode cX3_take 52 = .ok (.aload_n 0, 1) := by decide +kernel
theorem dX3_take_53 : decode cX3_take 53 = .ok (.aload_n 1, 1) := by decide +kernel
theorem dX3_take_54 : decode cX3_take 54 = .ok (.getfield 18, 3) := by decide +kernel
theorem dX3_take_57 : decode cX3_take 57 = .ok (.putfield 18, 3) := by decide +kernel
theorem dX3_take_60 : decode cX3_take 60 = .ok (.return_, 1) := by decide +kernel
theorem dX3_foldAt_0 : decode cX3_foldAt 0 = .ok (.iload_n 1, 1) := by decide +kernel
theorem dX3_foldAt_1 : decode cX3_foldAt 1 = .ok (.ifCond .lt 29, 3) := by decide +kernel
theorem dX3_foldAt_4 : decode cX3_foldAt 4 = .ok (.iload_n 1, 1) := by decide +kernel
theorem dX3_foldAt_5 : decode cX3_foldAt 5 = .ok (.aload_n 0, 1) := by decide +kernel
theorem dX3_foldAt_6 : decode cX3_foldAt 6 = .ok (.getfield 18, 3) := by decide +kernel
theorem dX3_foldAt_9 : decode cX3_foldAt 9 = .ok (.if_icmp .ge 21, 3) := by decide +kernel
theorem dX3_foldAt_12 : decode cX3_foldAt 12 = .ok (.iload_n 1, 1) := by decide +kernel
theorem dX3_foldAt_13 : decode cX3_foldAt 13 = .ok (.aload_n 0, 1) := by decide +kernel
theorem dX3_foldAt_14 : decode cX3_foldAt 14 = .ok (.getfield 15, 3) := by decide +kernel
theorem dX3_foldAt_17 : decode cX3_foldAt 17 = .ok (.arraylength, 1) := by decide +kernel
theorem dX3_foldAt_18 : decode cX3_foldAt 18 = .ok (.if_icmp .ge 12, 3) := by decide +kernel
theorem dX3_foldAt_21 : decode cX3_foldAt 21 = .ok (.aload_n 0, 1) := by decide +kernel
theorem dX3_foldAt_22 : decode cX3_foldAt 22 = .ok (.getfield 15, 3) := by decide +kernel
theorem dX3_foldAt_25 : decode cX3_foldAt 25 = .ok (.iload_n 1, 1) := by decide +kernel
theorem dX3_foldAt_26 : decode cX3_foldAt 26 = .ok (.iaload, 1) := by decide +kernel
theorem dX3_foldAt_27 : decode cX3_foldAt 27 = .ok (.goto 4, 3) := by decide +kernel
theorem dX3_foldAt_30 : decode cX3_foldAt 30 = .ok (.iconst (-1), 1) := by decide +kernel
theorem dX3_foldAt_31 : decode cX3_foldAt 31 = .ok (.ireturn, 1) := by decide +kernel
theorem dX3_markOf_0 : decode cX3_markOf 0 = .ok (.iconst 2, 1) := by decide +kernel
theorem dX3_markOf_1 : decode cX3_markOf 1 = .ok (.iload_n 1, 1) := by decide +kernel
theorem dX3_markOf_2 : decode cX3_markOf 2 = .ok (.imul, 1) := by decide +kernel
theorem dX3_markOf_3 : decode cX3_markOf 3 = .ok (.iload_n 2, 1) := by decide +kernel
theorem dX3_markOf_4 : decode cX3_markOf 4 = .ok (.iadd, 1) := by decide +kernel
theorem dX3_markOf_5 : decode cX3_markOf 5 = .ok (.istore_n 3, 1) := by decide +kernel
theorem dX3_markOf_6 : decode cX3_markOf 6 = .ok (.iload_n 3, 1) := by decide +kernel
theorem dX3_markOf_7 : decode cX3_markOf 7 = .ok (.ifCond .lt 21, 3) := by decide +kernel
theorem dX3_markOf_10 : decode cX3_markOf 10 = .ok (.iload_n 3, 1) := by decide +kernel
theorem dX3_markOf_11 : decode cX3_markOf 11 = .ok (.aload_n 0, 1) := by decide +kernel
theorem dX3_markOf_12 : decode cX3_markOf 12 = .ok (.getfield 9, 3) := by decide +kernel
theorem dX3_markOf_15 : decode cX3_markOf 15 = .ok (.arraylength, 1) := by decide +kernel
theorem dX3_markOf_16 : decode cX3_markOf 16 = .ok (.if_icmp .ge 12, 3) := by decide +kernel
theorem dX3_markOf_19 : decode cX3_markOf 19 = .ok (.aload_n 0, 1) := by decide +kernel
theorem dX3_markOf_20 : decode cX3_markOf 20 = .ok (.getfield 9, 3) := by decide +kernel
theorem dX3_markOf_23 : decode cX3_markOf 23 = .ok (.iload_n 3, 1) := by decide +kernel
theorem dX3_markOf_24 : decode cX3_markOf 24 = .ok (.iaload, 1) := by decide +kernel
theorem dX3_markOf_25 : decode cX3_markOf 25 = .ok (.goto 4, 3) := by decide +kernel
theorem dX3_markOf_28 : decode cX3_markOf 28 = .ok (.iconst 0, 1) := by decide +kernel
theorem dX3_markOf_29 : decode cX3_markOf 29 = .ok (.ireturn, 1) := by decide +kernel
theorem dX3_change_0 : decode cX3_change 0 = .ok (.iload_n 1, 1) := by decide +kernel
theorem dX3_change_1 : decode cX3_change 1 = .ok (.sipush 2000, 3) := by decide +kernel
theorem dX3_change_4 : decode cX3_change 4 = .ok (.if_icmp .lt 16, 3) := by decide +kernel
theorem dX3_change_7 : decode cX3_change 7 = .ok (.aload_n 0, 1) := by decide +kernel
theorem dX3_change_8 : decode cX3_change 8 = .ok (.iload_n 1, 1) := by decide +kernel
theorem dX3_change_9 : decode cX3_change 9 = .ok (.sipush 2000, 3) := by decide +kernel
theorem dX3_change_12 : decode cX3_change 12 = .ok (.isub, 1) := by decide +kernel
theorem dX3_change_13 : decode cX3_change 13 = .ok (.iconst 1, 1) := by decide +kernel
theorem dX3_change_14 : decode cX3_change 14 = .ok (.invokevirtual 37, 3) := by decide +kernel
theorem dX3_change_17 : decode cX3_change 17 = .ok (.goto 100, 3) := by decide +kernel
theorem dX3_change_20 : decode cX3_change 20 = .ok (.iload_n 1, 1) := by decide +kernel
theorem dX3_change_21 : decode cX3_change 21 = .ok (.sipush 1000, 3) := by decide +kernel
theorem dX3_change_24 : decode cX3_change 24 = .ok (.if_icmp .lt 16, 3) := by decide +kernel
theorem dX3_change_27 : decode cX3_change 27 = .ok (.aload_n 0, 1) := by decide +kernel
theorem dX3_change_28 : decode cX3_change 28 = .ok (.iload_n 1, 1) := by decide +kernel
theorem dX3_change_29 : decode cX3_change 29 = .ok (.sipush 1000, 3) := by decide +kernel
theorem dX3_change_32 : decode cX3_change 32 = .ok (.isub, 1) := by decide +kernel
theorem dX3_change_33 : decode cX3_change 33 = .ok (.iconst 0, 1) := by decide +kernel
theorem dX3_change_34 : decode cX3_change 34 = .ok (.invokevirtual 37, 3) := by decide +kernel
theorem dX3_change_37 : decode cX3_change 37 = .ok (.goto 80, 3) := by decide +kernel
theorem dX3_change_40 : decode cX3_change 40 = .ok (.iload_n 1, 1) := by decide +kernel
theorem dX3_change_41 : decode cX3_change 41 = .ok (.sipush 200, 3) := by decide +kernel
theorem dX3_change_44 : decode cX3_change 44 = .ok (.if_icmp .ne 11, 3) := by decide +kernel
theorem dX3_change_47 : decode cX3_change 47 = .ok (.aload_n 0, 1) := by decide +kernel
theorem dX3_change_48 : decode cX3_change 48 = .ok (.iconst 0, 1) := by decide +kernel
theorem dX3_change_49 : decode cX3_change 49 = .ok (.putfield 18, 3) := by decide +kernel
theorem dX3_change_52 : decode cX3_change 52 = .ok (.goto 65, 3) := by decide +kernel
theorem dX3_change_55 : decode cX3_change 55 = .ok (.iload_n 1, 1) := by decide +kernel
theorem dX3_change_56 : decode cX3_change 56 = .ok (.bipush 100, 2) := by decide +kernel
theorem dX3_change_58 : decode cX3_change 58 = .ok (.if_icmp .ne 20, 3) := by decide +kernel
theorem dX3_change_61 : decode cX3_change 61 = .ok (.aload_n 0, 1) := by decide +kernel
theorem dX3_change_62 : decode cX3_change 62 = .ok (.iconst 0, 1) := by decide +kernel
theorem dX3_change_63 : decode cX3_change 63 = .ok (.aload_n 0, 1) := by decide +kernel
theorem dX3_change_64 : decode cX3_change 64 = .ok (.getfield 18, 3) := by decide +kernel
theorem dX3_change_67 : decode cX3_change 67 = .ok (.iconst 1, 1) := by decide +kernel
theorem dX3_change_68 : decode cX3_change 68 = .ok (.isub, 1) := by decide +kernel
theorem dX3_change_69 : decode cX3_change 69 = .ok (.invokestatic 41, 3) := by decide +kernel
theorem dX3_change_72 : decode cX3_change 72 = .ok (.putfield 18, 3) := by decide +kernel
theorem dX3_change_75 : decode cX3_change 75 = .ok (.goto 42, 3) := by decide +kernel
theorem dX3_change_78 : decode cX3_change 78 = .ok (.aload_n 0, 1) := by decide +kernel
theorem dX3_change_79 : decode cX3_change 79 = .ok (.getfield 18, 3) := by decide +kernel
theorem dX3_change_82 : decode cX3_change 82 = .ok (.ifCond .lt 35, 3) := by decide +kernel
theorem dX3_change_85 : decode cX3_change 85 = .ok (.aload_n 0, 1) := by decide +kernel
theorem dX3_change_86 : decode cX3_change 86 = .ok (.getfield 18, 3) := by decide +kernel
theorem dX3_change_89 : decode cX3_change 89 = .ok (.aload_n 0, 1) := by decide +kernel
theorem dX3_change_90 : decode cX3_change 90 = .ok (.getfield 15, 3) := by decide +kernel
theorem dX3_change_93 : decode cX3_change 93 = .ok (.arraylength, 1) := by decide +kernel
theorem dX3_change_94 : decode cX3_change 94 = .ok (.if_icmp .ge 23, 3) := by decide +kernel
theorem dX3_change_97 : decode cX3_change 97 = .ok (.aload_n 0, 1) := by decide +kernel
theorem dX3_change_98 : decode cX3_change 98 = .ok (.getfield 15, 3) := by decide +kernel
theorem dX3_change_101 : decode cX3_change 101 = .ok (.aload_n 0, 1) := by decide +kernel
theorem dX3_change_102 : decode cX3_change 102 = .ok (.getfield 18, 3) := by decide +kernel
theorem dX3_change_105 : decode cX3_change 105 = .ok (.iload_n 1, 1) := by decide +kernel
theorem dX3_change_106 : decode cX3_change 106 = .ok (.iastore, 1) := by decide +kernel
theorem dX3_change_107 : decode cX3_change 107 = .ok (.aload_n 0, 1) := by decide +kernel
theorem dX3_change_108 : decode cX3_change 108 = .ok (.dup, 1) := by decide +kernel
theorem dX3_change_109 : decode cX3_change 109 = .ok (.getfield 18, 3) := by decide +kernel
theorem dX3_change_112 : decode cX3_change 112 = .ok (.iconst 1, 1) := by decide +kernel
theorem dX3_change_113 : decode cX3_change 113 = .ok (.iadd, 1) := by decide +kernel
theorem dX3_change_114 : decode cX3_change 114 = .ok (.putfield 18, 3) := by decide +kernel
theorem dX3_change_117 : decode cX3_change 117 = .ok (.return_, 1) := by decide +kernel
theorem dX3_putMark_0 : decode cX3_putMark 0 = .ok (.iconst 2, 1) := by decide +kernel
theorem dX3_putMark_1 : decode cX3_putMark 1 = .ok (.iload_n 1, 1) := by decide +kernel
theorem dX3_putMark_2 : decode cX3_putMark 2 = .ok (.bipush 100, 2) := by decide +kernel
theorem dX3_putMark_4 : decode cX3_putMark 4 = .ok (.idiv, 1) := by decide +kernel
theorem dX3_putMark_5 : decode cX3_putMark 5 = .ok (.imul, 1) := by decide +kernel
theorem dX3_putMark_6 : decode cX3_putMark 6 = .ok (.iload_n 2, 1) := by decide +kernel
theorem dX3_putMark_7 : decode cX3_putMark 7 = .ok (.iadd, 1) := by decide +kernel
theorem dX3_putMark_8 : decode cX3_putMark 8 = .ok (.istore_n 3, 1) := by decide +kernel
theorem dX3_putMark_9 : decode cX3_putMark 9 = .ok (.iload_n 1, 1) := by decide +kernel
theorem dX3_putMark_10 : decode cX3_putMark 10 = .ok (.ifCond .lt 22, 3) := by decide +kernel
theorem dX3_putMark_13 : decode cX3_putMark 13 = .ok (.iload_n 3, 1) := by decide +kernel
theorem dX3_putMark_14 : decode cX3_putMark 14 = .ok (.aload_n 0, 1) := by decide +kernel
theorem dX3_putMark_15 : decode cX3_putMark 15 = .ok (.getfield 9, 3) := by decide +kernel
theorem dX3_putMark_18 : decode cX3_putMark 18 = .ok (.arraylength, 1) := by decide +kernel
theorem dX3_putMark_19 : decode cX3_putMark 19 = .ok (.if_icmp .ge 13, 3) := by decide +kernel
theorem dX3_putMark_22 : decode cX3_putMark 22 = .ok (.aload_n 0, 1) := by decide +kernel
theorem dX3_putMark_23 : decode cX3_putMark 23 = .ok (.getfield 9, 3) := by decide +kernel
theorem dX3_putMark_26 : decode cX3_putMark 26 = .ok (.iload_n 3, 1) := by decide +kernel
theorem dX3_putMark_27 : decode cX3_putMark 27 = .ok (.iload_n 1, 1) := by decide +kernel
theorem dX3_putMark_28 : decode cX3_putMark 28 = .ok (.bipush 100, 2) := by decide +kernel
theorem dX3_putMark_30 : decode cX3_putMark 30 = .ok (.irem, 1) := by decide +kernel
theorem dX3_putMark_31 : decode cX3_putMark 31 = .ok (.iastore, 1) := by decide +kernel
theorem dX3_putMark_32 : decode cX3_putMark 32 = .ok (.return_, 1) := by decide +kernel
theorem dX4_init_0 : decode cX4_init 0 = .ok (.aload_n 0, 1) := by decide +kernel
theorem dX4_init_1 : decode cX4_init 1 = .ok (.invokespecial 3, 3) := by decide +kernel
theorem dX4_init_4 : decode cX4_init 4 = .ok (.aload_n 0, 1) := by decide +kernel
theorem dX4_init_5 : decode cX4_init 5 = .ok (.iconst 0, 1) := by decide +kernel
theorem dX4_init_6 : decode cX4_init 6 = .ok (.putfield 9, 3) := by decide +kernel
theorem dX4_init_9 : decode cX4_init 9 = .ok (.aload_n 0, 1) := by decide +kernel
theorem dX4_init_10 : decode cX4_init 10 = .ok (.iconst 0, 1) := by decide +kernel
theorem dX4_init_11 : decode cX4_init 11 = .ok (.putfield 15, 3) := by decide +kernel
theorem dX4_init_14 : decode cX4_init 14 = .ok (.aload_n 0, 1) := by decide +kernel
theorem dX4_init_15 : decode cX4_init 15 = .ok (.iconst 0, 1) := by decide +kernel
theorem dX4_init_16 : decode cX4_init 16 = .ok (.putfield 18, 3) := by decide +kernel
theorem dX4_init_19 : decode cX4_init 19 = .ok (.aload_n 0, 1) := by decide +kernel
theorem dX4_init_20 : decode cX4_init 20 = .ok (.bipush 12, 2) := by decide +kernel
theorem dX4_init_22 : decode cX4_init 22 = .ok (.newarray .int, 2) := by decide +kernel
theorem dX4_init_24 : decode cX4_init 24 = .ok (.putfield 21, 3) := by decide +kernel
theorem dX4_init_27 : decode cX4_init 27 = .ok (.aload_n 0, 1) := by decide +kernel
theorem dX4_init_28 : decode cX4_init 28 = .ok (.iconst 4, 1) := by decide +kernel
theorem dX4_init_29 : decode cX4_init 29 = .ok (.newarray .int, 2) := by decide +kernel
theorem dX4_init_31 : decode cX4_init 31 = .ok (.putfield 25, 3) := by decide +kernel
theorem dX4_init_34 : decode cX4_init 34 = .ok (.aload_n 0, 1) := by decide +kernel
theorem dX4_init_35 : decode cX4_init 35 = .ok (.iconst 0, 1) := by decide +kernel
theorem dX4_init_36 : decode cX4_init 36 = .ok (.newarray .int, 2) := by decide +kernel
theorem dX4_init_38 : decode cX4_init 38 = .ok (.putfield 28, 3) := by decide +kernel
theorem dX4_init_41 : decode cX4_init 41 = .ok (.aload_n 0, 1) := by decide +kernel
theorem dX4_init_42 : decode cX4_init 42 = .ok (.iconst 0, 1) := by decide +kernel
theorem dX4_init_43 : decode cX4_init 43 = .ok (.newarray .int, 2) := by decide +kernel
theorem dX4_init_45 : decode cX4_init 45 = .ok (.putfield 31, 3) := by decide +kernel
theorem dX4_init_48 : decode cX4_init 48 = .ok (.aload_n 0, 1) := by decide +kernel
theorem dX4_init_49 : decode cX4_init 49 = .ok (.iconst 0, 1) := by decide +kernel
theorem dX4_init_50 : decode cX4_init 50 = .ok (.newarray .int, 2) := by decide +kernel
theorem dX4_init_52 : decode cX4_init 52 = .ok (.putfield 34, 3) := by decide +kernel
theorem dX4_init_55 : decode cX4_init 55 = .ok (.return_, 1) := by decide +kernel
theorem dX4_addCell_0 : decode cX4_addCell 0 = .ok (.iconst 2, 1) := by decide +kernel
theorem dX4_addCell_1 : decode cX4_addCell 1 = .ok (.aload_n 0, 1) := by decide +kernel
theorem dX4_addCell_2 : decode cX4_addCell 2 = .ok (.getfield 15, 3) := by decide +kernel
theorem dX4_addCell_5 : decode cX4_addCell 5 = .ok (.imul, 1) := by decide +kernel
theorem dX4_addCell_6 : decode cX4_addCell 6 = .ok (.istore_n 3, 1) := by decide +kernel
theorem dX4_addCell_7 : decode cX4_addCell 7 = .ok (.iload_n 3, 1) := by decide +kernel
theorem dX4_addCell_8 : decode cX4_addCell 8 = .ok (.iconst 1, 1) := by decide +kernel
theorem dX4_addCell_9 : decode cX4_addCell 9 = .ok (.iadd, 1) := by decide +kernel
theorem dX4_addCell_10 : decode cX4_addCell 10 = .ok (.aload_n 0, 1) := by decide +kernel
theorem dX4_addCell_11 : decode cX4_addCell 11 = .ok (.getfield 21, 3) := by decide +kernel
theorem dX4_addCell_14 : decode cX4_addCell 14 = .ok (.arraylength, 1) := by decide +kernel
theorem dX4_addCell_15 : decode cX4_addCell 15 = .ok (.if_icmp .ge 29, 3) := by decide +kernel
theorem dX4_addCell_18 : decode cX4_addCell 18 = .ok (.aload_n 0, 1) := by decide +kernel
theorem dX4_addCell_19 : decode cX4_addCell 19 = .ok (.getfield 21, 3) := by decide +kernel
theorem dX4_addCell_22 : decode cX4_addCell 22 = .ok (.iload_n 3, 1) := by decide +kernel
theorem dX4_addCell_23 : decode cX4_addCell 23 = .ok (.iload_n 1, 1) := by decide +kernel
theorem dX4_addCell_24 : decode cX4_addCell 24 = .ok (.iastore, 1) := by decide +kernel
theorem dX4_addCell_25 : decode cX4_addCell 25 = .ok (.aload_n 0, 1) := by decide +kernel
theorem dX4_addCell_26 : decode cX4_addCell 26 = .ok (.getfield 21, 3) := by decide +kernel
theorem dX4_addCell_29 : decode cX4_addCell 29 = .ok (.iload_n 3, 1) := by decide +kernel
theorem dX4_addCell_30 : decode cX4_addCell 30 = .ok (.iconst 1, 1) := by decide +kernel
theorem dX4_addCell_31 : decode cX4_addCell 31 = .ok (.iadd, 1) := by decide +kernel
theorem dX4_addCell_32 : decode cX4_addCell 32 = .ok (.iload_n 2, 1) := by decide +kernel
theorem dX4_addCell_33 : decode cX4_addCell 33 = .ok (.iastore, 1) := by decide +kernel
theorem dX4_addCell_34 : decode cX4_addCell 34 = .ok (.aload_n 0, 1) := by decide +kernel
theorem dX4_addCell_35 : decode cX4_addCell 35 = .ok (.dup, 1) := by decide +kernel
theorem dX4_addCell_36 : decode cX4_addCell 36 = .ok (.getfield 15, 3) := by decide +kernel
theorem dX4_addCell_39 : decode cX4_addCell 39 = .ok (.iconst 1, 1) := by decide +kernel
theorem dX4_addCell_40 : decode cX4_addCell 40 = .ok (.iadd, 1) := by decide +kernel
theorem dX4_addCell_41 : decode cX4_addCell 41 = .ok (.putfield 15, 3) := by decide +kernel
theorem dX4_addCell_44 : decode cX4_addCell 44 = .ok (.return_, 1) := by decide +kernel
theorem dX4_addGuest_0 : decode cX4_addGuest 0 = .ok (.aload_n 0, 1) := by decide +kernel
theorem dX4_addGuest_1 : decode cX4_addGuest 1 = .ok (.getfield 18, 3) := by decide +kernel
theorem dX4_addGuest_4 : decode cX4_addGuest 4 = .ok (.aload_n 0, 1) := by decide +kernel
theorem dX4_addGuest_5 : decode cX4_addGuest 5 = .ok (.getfield 25, 3) := by decide +kernel
theorem dX4_addGuest_8 : decode cX4_addGuest 8 = .ok (.arraylength, 1) := by decide +kernel
theorem dX4_addGuest_9 : decode cX4_addGuest 9 = .ok (.if_icmp .ge 23, 3) := by decide +kernel
theorem dX4_addGuest_12 : decode cX4_addGuest 12 = .ok (.aload_n 0, 1) := by decide +kernel
theorem dX4_addGuest_13 : decode cX4_addGuest 13 = .ok (.getfield 25, 3) := by decide +kernel
theorem dX4_addGuest_16 : decode cX4_addGuest 16 = .ok (.aload_n 0, 1) := by decide +kernel
theorem dX4_addGuest_17 : decode cX4_addGuest 17 = .ok (.getfield 18, 3) := by decide +kernel
theorem dX4_addGuest_20 : decode cX4_addGuest 20 = .ok (.iload_n 1, 1) := by decide +kernel
theorem dX4_addGuest_21 : decode cX4_addGuest 21 = .ok (.iastore, 1) := by decide +kernel
theorem dX4_addGuest_22 : decode cX4_addGuest 22 = .ok (.aload_n 0, 1) := by decide +kernel
theorem dX4_addGuest_23 : decode cX4_addGuest 23 = .ok (.dup, 1) := by decide +kernel
theorem dX4_addGuest_24 : decode cX4_addGuest 24 = .ok (.getfield 18, 3) := by decide +kernel
theorem dX4_addGuest_27 : decode cX4_addGuest 27 = .ok (.iconst 1, 1) := by decide +kernel
theorem dX4_addGuest_28 : decode cX4_addGuest 28 = .ok (.iadd, 1) := by decide +kernel
theorem dX4_addGuest_29 : decode cX4_addGuest 29 = .ok (.putfield 18, 3) := by decide +kernel
theorem dX4_addGuest_32 : decode cX4_addGuest 32 = .ok (.return_, 1) := by decide +kernel
theorem dX4_wantOf_0 : decode cX4_wantOf 0 = .ok (.iload_n 1, 1) := by decide +kernel
theorem dX4_wantOf_1 : decode cX4_wantOf 1 = .ok (.ifCond .lt 21, 3) := by decide +kernel
theorem dX4_wantOf_4 : decode cX4_wantOf 4 = .ok (.iload_n 1, 1) := by decide +kernel
theorem dX4_wantOf_5 : decode cX4_wantOf 5 = .ok (.aload_n 0, 1) := by decide +kernel
theorem dX4_wantOf_6 : decode cX4_wantOf 6 = .ok (.getfield 25, 3) := by decide +kernel
theorem dX4_wantOf_9 : decode cX4_wantOf 9 = .ok (.arraylength, 1) := by decide +kernel
theorem dX4_wantOf_10 : decode cX4_wantOf 10 = .ok (.if_icmp .ge 12, 3) := by decide +kernel
theorem dX4_wantOf_13 : decode cX4_wantOf 13 = .ok (.aload_n 0, 1) := by decide +kernel
theorem dX4_wantOf_14 : decode cX4_wantOf 14 = .ok (.getfield 25, 3) := by decide +kernel
theorem dX4_wantOf_17 : decode cX4_wantOf 17 = .ok (.iload_n 1, 1) := by decide +kernel
theorem dX4_wantOf_18 : decode cX4_wantOf 18 = .ok (.iaload, 1) := by decide +kernel
theorem dX4_wantOf_19 : decode cX4_wantOf 19 = .ok (.goto 4, 3) := by decide +kernel
theorem dX4_wantOf_22 : decode cX4_wantOf 22 = .ok (.iconst 0, 1) := by decide +kernel
theorem dX4_wantOf_23 : decode cX4_wantOf 23 = .ok (.ireturn, 1) := by decide +kernel
theorem dX5_init_0 : decode cX5_init 0 = .ok (.aload_n 0, 1) := by decide +kernel
theorem dX5_init_1 : decode cX5_init 1 = .ok (.invokespecial 3, 3) := by decide +kernel
theorem dX5_init_4 : decode cX5_init 4 = .ok (.aload_n 0, 1) := by decide +kernel
theorem dX5_init_5 : decode cX5_init 5 = .ok (.iconst 0, 1) := by decide +kernel
theorem dX5_init_6 : decode cX5_init 6 = .ok (.newarray .byte, 2) := by decide +kernel
theorem dX5_init_8 : decode cX5_init 8 = .ok (.putfield 9, 3) := by decide +kernel
theorem dX5_init_11 : decode cX5_init 11 = .ok (.aload_n 0, 1) := by decide +kernel
theorem dX5_init_12 : decode cX5_init 12 = .ok (.iconst 0, 1) := by decide +kernel
theorem dX5_init_13 : decode cX5_init 13 = .ok (.putfield 15, 3) := by decide +kernel
theorem dX5_init_16 : decode cX5_init 16 = .ok (.aload_n 0, 1) := by decide +kernel
theorem dX5_init_17 : decode cX5_init 17 = .ok (.iconst 0, 1) := by decide +kernel
theorem dX5_init_18 : decode cX5_init 18 = .ok (.putfield 19, 3) := by decide +kernel
theorem dX5_init_21 : decode cX5_init 21 = .ok (.aload_n 0, 1) := by decide +kernel
theorem dX5_init_22 : decode cX5_init 22 = .ok (.iconst 0, 1) := by decide +kernel
theorem dX5_init_23 : decode cX5_init 23 = .ok (.putfield 22, 3) := by decide +kernel
theorem dX5_init_26 : decode cX5_init 26 = .ok (.aload_n 0, 1) := by decide +kernel
theorem dX5_init_27 : decode cX5_init 27 = .ok (.iconst 0, 1) := by decide +kernel
theorem dX5_init_28 : decode cX5_init 28 = .ok (.putfield 25, 3) := by decide +kernel
theorem dX5_init_31 : decode cX5_init 31 = .ok (.aload_n 0, 1) := by decide +kernel
theorem dX5_init_32 : decode cX5_init 32 = .ok (.iconst 0, 1) := by decide +kernel
theorem dX5_init_33 : decode cX5_init 33 = .ok (.putfield 28, 3) := by decide +kernel
theorem dX5_init_36 : decode cX5_init 36 = .ok (.aload_n 0, 1) := by decide +kernel
theorem dX5_init_37 : decode cX5_init 37 = .ok (.getstatic 31, 3) := by decide +kernel
theorem dX5_init_40 : decode cX5_init 40 = .ok (.putfield 37, 3) := by decide +kernel
theorem dX5_init_43 : decode cX5_init 43 = .ok (.aload_n 0, 1) := by decide +kernel
theorem dX5_init_44 : decode cX5_init 44 = .ok (.new 40, 3) := by decide +kernel
theorem dX5_init_47 : decode cX5_init 47 = .ok (.dup, 1) := by decide +kernel
theorem dX5_init_48 : decode cX5_init 48 = .ok (.invokespecial 42, 3) := by decide +kernel
theorem dX5_init_51 : decode cX5_init 51 = .ok (.putfield 43, 3) := by decide +kernel
theorem dX5_init_54 : decode cX5_init 54 = .ok (.aload_n 0, 1) := by decide +kernel
theorem dX5_init_55 : decode cX5_init 55 = .ok (.sipush 900, 3) := by decide +kernel
theorem dX5_init_58 : decode cX5_init 58 = .ok (.newarray .int, 2) := by decide +kernel
theorem dX5_init_60 : decode cX5_init 60 = .ok (.putfield 47, 3) := by decide +kernel
theorem dX5_init_63 : decode cX5_init 63 = .ok (.aload_n 0, 1) := by decide +kernel
theorem dX5_init_64 : decode cX5_init 64 = .ok (.iconst 0, 1) := by decide +kernel
theorem dX5_init_65 : decode cX5_init 65 = .ok (.putfield 51, 3) := by decide +kernel
theorem dX5_init_68 : decode cX5_init 68 = .ok (.aload_n 0, 1) := by decide +kernel
theorem dX5_init_69 : decode cX5_init 69 = .ok (.iconst 0, 1) := by decide +kernel
theorem dX5_init_70 : decode cX5_init 70 = .ok (.putfield 54, 3) := by decide +kernel
theorem dX5_init_73 : decode cX5_init 73 = .ok (.aload_n 0, 1) := by decide +kernel
theorem dX5_init_74 : decode cX5_init 74 = .ok (.iconst 0, 1) := by decide +kernel
theorem dX5_init_75 : decode cX5_init 75 = .ok (.putfield 58, 3) := by decide +kernel
theorem dX5_init_78 : decode cX5_init 78 = .ok (.aload_n 0, 1) := by decide +kernel
theorem dX5_init_79 : decode cX5_init 79 = .ok (.iconst (-1), 1) := by decide +kernel
theorem dX5_init_80 : decode cX5_init 80 = .ok (.putfield 61, 3) := by decide +kernel
theorem dX5_init_83 : decode cX5_init 83 = .ok (.return_, 1) := by decide +kernel
theorem dX5_read_0 : decode cX5_read 0 = .ok (.aload_n 0, 1) := by decide +kernel
theorem dX5_read_1 : decode cX5_read 1 = .ok (.aload_n 1, 1) := by decide +kernel
theorem dX5_read_2 : decode cX5_read 2 = .ok (.putfield 9, 3) := by decide +kernel
theorem dX5_read_5 : decode cX5_read 5 = .ok (.aload_n 0, 1) := by decide +kernel
theorem dX5_read_6 : decode cX5_read 6 = .ok (.iconst 0, 1) := by decide +kernel
theorem dX5_read_7 : decode cX5_read 7 = .ok (.iload_n 2, 1) := by decide +kernel
theorem dX5_read_8 : decode cX5_read 8 = .ok (.aload_n 1, 1) := by decide +kernel
theorem dX5_read_9 : decode cX5_read 9 = .ok (.arraylength, 1) := by decide +kernel
theorem dX5_read_10 : decode cX5_read 10 = .ok (.invokestatic 64, 3) := by decide +kernel
theorem dX5_read_13 : decode cX5_read 13 = .ok (.invokestatic 70, 3) := by decide +kernel
theorem dX5_read_16 : decode cX5_read 16 = .ok (.putfield 15, 3) := by decide +kernel
theorem dX5_read_19 : decode cX5_read 19 = .ok (.aload_n 0, 1) := by decide +kernel
theorem dX5_read_20 : decode cX5_read 20 = .ok (.iconst 0, 1) := by decide +kernel
theorem dX5_read_21 : decode cX5_read 21 = .ok (.putfield 19, 3) := by decide +kernel
theorem dX5_read_24 : decode cX5_read 24 = .ok (.aload_n 0, 1) := by decide +kernel
theorem dX5_read_25 : decode cX5_read 25 = .ok (.new 40, 3) := by decide +kernel
theorem dX5_read_28 : decode cX5_read 28 = .ok (.dup, 1) := by decide +kernel
theorem dX5_read_29 : decode cX5_read 29 = .ok (.invokespecial 42, 3) := by decide +kernel
theorem dX5_read_32 : decode cX5_read 32 = .ok (.putfield 43, 3) := by decide +kernel
theorem dX5_read_35 : decode cX5_read 35 = .ok (.aload_n 0, 1) := by decide +kernel
theorem dX5_read_36 : decode cX5_read 36 = .ok (.iconst 0, 1) := by decide +kernel
theorem dX5_read_37 : decode cX5_read 37 = .ok (.putfield 58, 3) := by decide +kernel
theorem dX5_read_40 : decode cX5_read 40 = .ok (.aload_n 0, 1) := by decide +kernel
theorem dX5_read_41 : decode cX5_read 41 = .ok (.iconst (-1), 1) := by decide +kernel
theorem dX5_read_42 : decode cX5_read 42 = .ok (.putfield 61, 3) := by decide +kernel
theorem dX5_read_45 : decode cX5_read 45 = .ok (.aload_n 0, 1) := by decide +kernel
theorem dX5_read_46 : decode cX5_read 46 = .ok (.invokevirtual 73, 3) := by decide +kernel
theorem dX5_read_49 : decode cX5_read 49 = .ok (.iconst 0, 1) := by decide +kernel
theorem dX5_read_50 : decode cX5_read 50 = .ok (.istore_n 3, 1) := by decide +kernel
theorem dX5_read_51 : decode cX5_read 51 = .ok (.iload_n 3, 1) := by decide +kernel
theorem dX5_read_52 : decode cX5_read 52 = .ok (.aload_n 0, 1) := by decide +kernel
theorem dX5_read_53 : decode cX5_read 53 = .ok (.getfield 15, 3) := by decide +kernel
theorem dX5_read_56 : decode cX5_read 56 = .ok (.if_icmp .gt 25, 3) := by decide +kernel
theorem dX5_read_59 : decode cX5_read 59 = .ok (.aload_n 0, 1) := by decide +kernel
theorem dX5_read_60 : decode cX5_read 60 = .ok (.getfield 25, 3) := by decide +kernel
theorem dX5_read_63 : decode cX5_read 63 = .ok (.ifCond .eq 18, 3) := by decide +kernel
theorem dX5_read_66 : decode cX5_read 66 = .ok (.aload_n 0, 1) := by decide +kernel
theorem dX5_read_67 : decode cX5_read 67 = .ok (.invokevirtual 76, 3) := by decide +kernel
theorem dX5_read_70 : decode cX5_read 70 = .ok (.ifCond .ne 5, 3) := by decide +kernel
theorem dX5_read_73 : decode cX5_read 73 = .ok (.aconst_null, 1) := by decide +kernel
theorem dX5_read_74 : decode cX5_read 74 = .ok (.areturn, 1) := by decide +kernel
theorem dX5_read_75 : decode cX5_read 75 = .ok (.iinc 3 1, 3) := by decide +kernel
theorem dX5_read_78 : decode cX5_read 78 = .ok (.goto (-27), 3) := by decide +kernel
theorem dX5_read_81 : decode cX5_read 81 = .ok (.aload_n 0, 1) := by decide +kernel
theorem dX5_read_82 : decode cX5_read 82 = .ok (.getfield 43, 3) := by decide +kernel
theorem dX5_read_85 : decode cX5_read 85 = .ok (.areturn, 1) := by decide +kernel
theorem dX5_readLine_0 : decode cX5_readLine 0 = .ok (.aload_n 0, 1) := by decide +kernel
theorem dX5_readLine_1 : decode cX5_readLine 1 = .ok (.getfield 25, 3) := by decide +kernel
theorem dX5_readLine_4 : decode cX5_readLine 4 = .ok (.iconst 3, 1) := by decide +kernel
theorem dX5_readLine_5 : decode cX5_readLine 5 = .ok (.if_icmp .eq 8, 3) := by decide +kernel
theorem dX5_readLine_8 : decode cX5_readLine 8 = .ok (.aload_n 0, 1) := by decide +kernel
theorem dX5_readLine_9 : decode cX5_readLine 9 = .ok (.invokevirtual 80, 3) := by decide +kernel
theorem dX5_readLine_12 : decode cX5_readLine 12 = .ok (.ireturn, 1) := by decide +kernel
theorem dX5_readLine_13 : decode cX5_readLine 13 = .ok (.getstatic 83, 3) := by decide +kernel
theorem dX5_readLine_16 : decode cX5_readLine 16 = .ok (.aload_n 0, 1) := by decide +kernel
theorem dX5_readLine_17 : decode cX5_readLine 17 = .ok (.getfield 37, 3) := by decide +kernel
theorem dX5_readLine_20 : decode cX5_readLine 20 = .ok (.invokevirtual 88, 3) := by decide +kernel
theorem dX5_readLine_23 : decode cX5_readLine 23 = .ok (.iaload, 1) := by decide +kernel
theorem dX5_readLine_24 : decode cX5_readLine 24 = .ok (.tableswitch 64 1 5 #[36, 44, 52, 52, 52], 36) := by decide +kernel
theorem dX5_readLine_60 : decode cX5_readLine 60 = .ok (.aload_n 0, 1) := by decide +kernel
theorem dX5_readLine_61 : decode cX5_readLine 61 = .ok (.invokevirtual 92, 3) := by decide +kernel
theorem dX5_readLine_64 : decode cX5_readLine 64 = .ok (.istore_n 1, 1) := by decide +kernel
theorem dX5_readLine_65 : decode cX5_readLine 65 = .ok (.goto 28, 3) := by decide +kernel
theorem dX5_readLine_68 : decode cX5_readLine 68 = .ok (.aload_n 0, 1) := by decide +kernel
theorem dX5_readLine_69 : decode cX5_readLine 69 = .ok (.invokevirtual 95, 3) := by decide +kernel
theorem dX5_readLine_72 : decode cX5_readLine 72 = .ok (.istore_n 1, 1) := by decide +kernel
theorem dX5_readLine_73 : decode cX5_readLine 73 = .ok (.goto 20, 3) := by decide +kernel
theorem dX5_readLine_76 : decode cX5_readLine 76 = .ok (.aload_n 0, 1) := by decide +kernel
theorem dX5_readLine_77 : decode cX5_readLine 77 = .ok (.aload_n 0, 1) := by decide +kernel
theorem dX5_readLine_78 : decode cX5_readLine 78 = .ok (.getfield 37, 3) := by decide +kernel
theorem dX5_readLine_81 : decode cX5_readLine 81 = .ok (.invokevirtual 98, 3) := by decide +kernel
theorem dX5_readLine_84 : decode cX5_readLine 84 = .ok (.istore_n 1, 1) := by decide +kernel
theorem dX5_readLine_85 : decode cX5_readLine 85 = .ok (.goto 8, 3) := by decide +kernel
theorem dX5_readLine_88 : decode cX5_readLine 88 = .ok (.aload_n 0, 1) := by decide +kernel
theorem dX5_readLine_89 : decode cX5_readLine 89 = .ok (.invokevirtual 80, 3) := by decide +kernel
theorem dX5_readLine_92 : decode cX5_readLine 92 = .ok (.istore_n 1, 1) := by decide +kernel
theorem dX5_readLine_93 : decode cX5_readLine 93 = .ok (.iload_n 1, 1) := by decide +kernel
theorem dX5_readLine_94 : decode cX5_readLine 94 = .ok (.ifCond .eq 12, 3) := by decide +kernel
theorem dX5_readLine_97 : decode cX5_readLine 97 = .ok (.aload_n 0, 1) := by decide +kernel
theorem dX5_readLine_98 : decode cX5_readLine 98 = .ok (.bipush 59, 2) := by decide +kernel
theorem dX5_readLine_100 : decode cX5_readLine 100 = .ok (.invokevirtual 102, 3) := by decide +kernel
theorem dX5_readLine_103 : decode cX5_readLine 103 = .ok (.ifCond .ne 5, 3) := by decide +kernel
theorem dX5_readLine_106 : decode cX5_readLine 106 = .ok (.iconst 0, 1) := by decide +kernel
theorem dX5_readLine_107 : decode cX5_readLine 107 = .ok (.ireturn, 1) := by decide +kernel
theorem dX5_readLine_108 : decode cX5_readLine 108 = .ok (.aload_n 0, 1) := by decide +kernel
theorem dX5_readLine_109 : decode cX5_readLine 109 = .ok (.getfield 43, 3) := by decide +kernel
theorem dX5_readLine_112 : decode cX5_readLine 112 = .ok (.dup, 1) := by decide +kernel
theorem dX5_readLine_113 : decode cX5_readLine 113 = .ok (.getfield 106, 3) := by decide +kernel
theorem dX5_readLine_116 : decode cX5_readLine 116 = .ok (.iconst 1, 1) := by decide +kernel
theorem dX5_readLine_117 : decode cX5_readLine 117 = .ok (.iadd, 1) := by decide +kernel
theorem dX5_readLine_118 : decode cX5_readLine 118 = .ok (.putfield 106, 3) := by decide +kernel
theorem dX5_readLine_121 : decode cX5_readLine 121 = .ok (.iconst 1, 1) := by decide +kernel
theorem dX5_readLine_122 : decode cX5_readLine 122 = .ok (.ireturn, 1) := by decide +kernel
theorem dX5_readCell_0 : decode cX5_readCell 0 = .ok (.aload_n 0, 1) := by decide +kernel
theorem dX5_readCell_1 : decode cX5_readCell 1 = .ok (.getfield 43, 3) := by decide +kernel
theorem dX5_readCell_4 : decode cX5_readCell 4 = .ok (.getfield 109, 3) := by decide +kernel
theorem dX5_readCell_7 : decode cX5_readCell 7 = .ok (.bipush 6, 2) := by decide +kernel
theorem dX5_readCell_9 : decode cX5_readCell 9 = .ok (.if_icmp .lt 9, 3) := by decide +kernel
theorem dX5_readCell_12 : decode cX5_readCell 12 = .ok (.aload_n 0, 1) := by decide +kernel
theorem dX5_readCell_13 : decode cX5_readCell 13 = .ok (.iconst 4, 1) := by decide +kernel
theorem dX5_readCell_14 : decode cX5_readCell 14 = .ok (.invokevirtual 112, 3) := by decide +kernel
theorem dX5_readCell_17 : decode cX5_readCell 17 = .ok (.ireturn, 1) := by decide +kernel
theorem dX5_readCell_18 : decode cX5_readCell 18 = .ok (.aload_n 0, 1) := by decide +kernel
theorem dX5_readCell_19 : decode cX5_readCell 19 = .ok (.invokevirtual 73, 3) := by decide +kernel
theorem dX5_readCell_22 : decode cX5_readCell 22 = .ok (.aload_n 0, 1) := by decide +kernel
theorem dX5_readCell_23 : decode cX5_readCell 23 = .ok (.bipush 99, 2) := by decide +kernel
theorem dX5_readCell_25 : decode cX5_readCell 25 = .ok (.invokevirtual 116, 3) := by decide +kernel
theorem dX5_readCell_28 : decode cX5_readCell 28 = .ok (.istore_n 1, 1) := by decide +kernel
theorem dX5_readCell_29 : decode cX5_readCell 29 = .ok (.iload_n 1, 1) := by decide +kernel
theorem dX5_readCell_30 : decode cX5_readCell 30 = .ok (.iconst (-1), 1) := by decide +kernel
theorem dX5_readCell_31 : decode cX5_readCell 31 = .ok (.if_icmp .eq 13, 3) := by decide +kernel
theorem dX5_readCell_34 : decode cX5_readCell 34 = .ok (.aload_n 0, 1) := by decide +kernel
theorem dX5_readCell_35 : decode cX5_readCell 35 = .ok (.getstatic 120, 3) := by decide +kernel
theorem dX5_readCell_38 : decode cX5_readCell 38 = .ok (.invokevirtual 123, 3) := by decide +kernel
theorem dX5_readCell_41 : decode cX5_readCell 41 = .ok (.ifCond .ne 5, 3) := by decide +kernel
theorem dX5_readCell_44 : decode cX5_readCell 44 = .ok (.iconst 0, 1) := by decide +kernel
theorem dX5_readCell_45 : decode cX5_readCell 45 = .ok (.ireturn, 1) := by decide +kernel
theorem dX5_readCell_46 : decode cX5_readCell 46 = .ok (.aload_n 0, 1) := by decide +kernel
theorem dX5_readCell_47 : decode cX5_readCell 47 = .ok (.bipush 99, 2) := by decide +kernel
theorem dX5_readCell_49 : decode cX5_readCell 49 = .ok (.invokevirtual 116, 3) := by decide +kernel
theorem dX5_readCell_52 : decode cX5_readCell 52 = .ok (.istore_n 2, 1) := by decide +kernel
theorem dX5_readCell_53 : decode cX5_readCell 53 = .ok (.iload_n 2, 1) := by decide +kernel
theorem dX5_readCell_54 : decode cX5_readCell 54 = .ok (.iconst (-1), 1) := by decide +kernel
theorem dX5_readCell_55 : decode cX5_readCell 55 = .ok (.if_icmp .ne 5, 3) := by decide +kernel
theorem dX5_readCell_58 : decode cX5_readCell 58 = .ok (.iconst 0, 1) := by decide +kernel
theorem dX5_readCell_59 : decode cX5_readCell 59 = .ok (.ireturn, 1) := by decide +kernel
theorem dX5_readCell_60 : decode cX5_readCell 60 = .ok (.aload_n 0, 1) := by decide +kernel
theorem dX5_readCell_61 : decode cX5_readCell 61 = .ok (.getfield 43, 3) := by decide +kernel
theorem dX5_readCell_64 : decode cX5_readCell 64 = .ok (.iload_n 1, 1) := by decide +kernel
theorem dX5_readCell_65 : decode cX5_readCell 65 = .ok (.iload_n 2, 1) := by decide +kernel
theorem dX5_readCell_66 : decode cX5_readCell 66 = .ok (.invokevirtual 126, 3) := by decide +kernel
theorem dX5_readCell_69 : decode cX5_readCell 69 = .ok (.iconst 1, 1) := by decide +kernel
theorem dX5_readCell_70 : decode cX5_readCell 70 = .ok (.ireturn, 1) := by decide +kernel
theorem dX5_readGuest_0 : decode cX5_readGuest 0 = .ok (.aload_n 0, 1) := by decide +kernel
theorem dX5_readGuest_1 : decode cX5_readGuest 1 = .ok (.getfield 43, 3) := by decide +kernel
theorem dX5_readGuest_4 : decode cX5_readGuest 4 = .ok (.getfield 130, 3) := by decide +kernel
theorem dX5_readGuest_7 : decode cX5_readGuest 7 = .ok (.iconst 4, 1) := by decide +kernel
theorem dX5_readGuest_8 : decode cX5_readGuest 8 = .ok (.if_icmp .lt 9, 3) := by decide +kernel
theorem dX5_readGuest_11 : decode cX5_readGuest 11 = .ok (.aload_n 0, 1) := by decide +kernel
theorem dX5_readGuest_12 : decode cX5_readGuest 12 = .ok (.iconst 4, 1) := by decide +kernel
theorem dX5_readGuest_13 : decode cX5_readGuest 13 = .ok (.invokevirtual 112, 3) := by decide +kernel
theorem dX5_readGuest_16 : decode cX5_readGuest 16 = .ok (.ireturn, 1) := by decide +kernel
theorem dX5_readGuest_17 : decode cX5_readGuest 17 = .ok (.aload_n 0, 1) := by decide +kernel
theorem dX5_readGuest_18 : decode cX5_readGuest 18 = .ok (.invokevirtual 73, 3) := by decide +kernel
theorem dX5_readGuest_21 : decode cX5_readGuest 21 = .ok (.aload_n 0, 1) := by decide +kernel
theorem dX5_readGuest_22 : decode cX5_readGuest 22 = .ok (.bipush 99, 2) := by decide +kernel
theorem dX5_readGuest_24 : decode cX5_readGuest 24 = .ok (.invokevirtual 116, 3) := by decide +kernel
theorem dX5_readGuest_27 : decode cX5_readGuest 27 = .ok (.istore_n 1, 1) := by decide +kernel
theorem dX5_readGuest_28 : decode cX5_readGuest 28 = .ok (.iload_n 1, 1) := by decide +kernel
theorem dX5_readGuest_29 : decode cX5_readGuest 29 = .ok (.iconst (-1), 1) := by decide +kernel
theorem dX5_readGuest_30 : decode cX5_readGuest 30 = .ok (.if_icmp .ne 5, 3) := by decide +kernel
theorem dX5_readGuest_33 : decode cX5_readGuest 33 = .ok (.iconst 0, 1) := by decide +kernel
theorem dX5_readGuest_34 : decode cX5_readGuest 34 = .ok (.ireturn, 1) := by decide +kernel
theorem dX5_readGuest_35 : decode cX5_readGuest 35 = .ok (.aload_n 0, 1) := by decide +kernel
theorem dX5_readGuest_36 : decode cX5_readGuest 36 = .ok (.getfield 43, 3) := by decide +kernel
theorem dX5_readGuest_39 : decode cX5_readGuest 39 = .ok (.iload_n 1, 1) := by decide +kernel
theorem dX5_readGuest_40 : decode cX5_readGuest 40 = .ok (.invokevirtual 133, 3) := by decide +kernel
theorem dX5_readGuest_43 : decode cX5_readGuest 43 = .ok (.iconst 1, 1) := by decide +kernel
theorem dX5_readGuest_44 : decode cX5_readGuest 44 = .ok (.ireturn, 1) := by decide +kernel
theorem dX5_readLaw_0 : decode cX5_readLaw 0 = .ok (.aload_n 0, 1) := by decide +kernel
theorem dX5_readLaw_1 : decode cX5_readLaw 1 = .ok (.invokevirtual 73, 3) := by decide +kernel
theorem dX5_readLaw_4 : decode cX5_readLaw 4 = .ok (.aload_n 0, 1) := by decide +kernel
theorem dX5_readLaw_5 : decode cX5_readLaw 5 = .ok (.bipush 58, 2) := by decide +kernel
theorem dX5_readLaw_7 : decode cX5_readLaw 7 = .ok (.invokevirtual 102, 3) := by decide +kernel
theorem dX5_readLaw_10 : decode cX5_readLaw 10 = .ok (.ifCond .ne 5, 3) := by decide +kernel
theorem dX5_readLaw_13 : decode cX5_readLaw 13 = .ok (.iconst 0, 1) := by decide +kernel
theorem dX5_readLaw_14 : decode cX5_readLaw 14 = .ok (.ireturn, 1) := by decide +kernel
theorem dX5_readLaw_15 : decode cX5_readLaw 15 = .ok (.aload_n 0, 1) := by decide +kernel
theorem dX5_readLaw_16 : decode cX5_readLaw 16 = .ok (.iconst 0, 1) := by decide +kernel
theorem dX5_readLaw_17 : decode cX5_readLaw 17 = .ok (.putfield 51, 3) := by decide +kernel
theorem dX5_readLaw_20 : decode cX5_readLaw 20 = .ok (.aload_n 0, 1) := by decide +kernel
theorem dX5_readLaw_21 : decode cX5_readLaw 21 = .ok (.aload_n 1, 1) := by decide +kernel
theorem dX5_readLaw_22 : decode cX5_readLaw 22 = .ok (.getstatic 137, 3) := by decide +kernel
theorem dX5_readLaw_25 : decode cX5_readLaw 25 = .ok (.if_acmp .ne 7, 3) := by decide +kernel
theorem dX5_readLaw_28 : decode cX5_readLaw 28 = .ok (.iconst 1, 1) := by decide +kernel
theorem dX5_readLaw_29 : decode cX5_readLaw 29 = .ok (.goto 4, 3) := by decide +kernel
theorem dX5_readLaw_32 : decode cX5_readLaw 32 = .ok (.iconst 0, 1) := by decide +kernel
theorem dX5_readLaw_33 : decode cX5_readLaw 33 = .ok (.putfield 54, 3) := by decide +kernel
theorem dX5_readLaw_36 : decode cX5_readLaw 36 = .ok (.aload_n 1, 1) := by decide +kernel
theorem dX5_readLaw_37 : decode cX5_readLaw 37 = .ok (.getstatic 140, 3) := by decide +kernel
theorem dX5_readLaw_40 : decode cX5_readLaw 40 = .ok (.if_acmp .ne 14, 3) := by decide +kernel
theorem dX5_readLaw_43 : decode cX5_readLaw 43 = .ok (.aload_n 0, 1) := by decide +kernel
theorem dX5_readLaw_44 : decode cX5_readLaw 44 = .ok (.iconst 0, 1) := by decide +kernel
theorem dX5_readLaw_45 : decode cX5_readLaw 45 = .ok (.invokevirtual 143, 3) := by decide +kernel
theorem dX5_readLaw_48 : decode cX5_readLaw 48 = .ok (.ifCond .eq 14, 3) := by decide +kernel
theorem dX5_readLaw_51 : decode cX5_readLaw 51 = .ok (.goto 13, 3) := by decide +kernel
theorem dX5_readLaw_54 : decode cX5_readLaw 54 = .ok (.aload_n 0, 1) := by decide +kernel
theorem dX5_readLaw_55 : decode cX5_readLaw 55 = .ok (.iconst 0, 1) := by decide +kernel
theorem dX5_readLaw_56 : decode cX5_readLaw 56 = .ok (.invokevirtual 146, 3) := by decide +kernel
theorem dX5_readLaw_59 : decode cX5_readLaw 59 = .ok (.ifCond .ne 5, 3) := by decide +kernel
theorem dX5_readLaw_62 : decode cX5_readLaw 62 = .ok (.iconst 0, 1) := by decide +kernel
theorem dX5_readLaw_63 : decode cX5_readLaw 63 = .ok (.ireturn, 1) := by decide +kernel
theorem dX5_readLaw_64 : decode cX5_readLaw 64 = .ok (.aload_n 0, 1) := by decide +kernel
theorem dX5_readLaw_65 : decode cX5_readLaw 65 = .ok (.getfield 47, 3) := by decide +kernel
theorem dX5_readLaw_68 : decode cX5_readLaw 68 = .ok (.iconst 0, 1) := by decide +kernel
theorem dX5_readLaw_69 : decode cX5_readLaw 69 = .ok (.aload_n 0, 1) := by decide +kernel
theorem dX5_readLaw_70 : decode cX5_readLaw 70 = .ok (.getfield 51, 3) := by decide +kernel
theorem dX5_readLaw_73 : decode cX5_readLaw 73 = .ok (.invokestatic 70, 3) := by decide +kernel
theorem dX5_readLaw_76 : decode cX5_readLaw 76 = .ok (.invokestatic 149, 3) := by decide +kernel
theorem dX5_readLaw_79 : decode cX5_readLaw 79 = .ok (.astore_n 2, 1) := by decide +kernel
theorem dX5_readLaw_80 : decode cX5_readLaw 80 = .ok (.aload_n 1, 1) := by decide +kernel
theorem dX5_readLaw_81 : decode cX5_readLaw 81 = .ok (.getstatic 140, 3) := by decide +kernel
theorem dX5_readLaw_84 : decode cX5_readLaw 84 = .ok (.if_acmp .ne 14, 3) := by decide +kernel
theorem dX5_readLaw_87 : decode cX5_readLaw 87 = .ok (.aload_n 0, 1) := by decide +kernel
theorem dX5_readLaw_88 : decode cX5_readLaw 88 = .ok (.getfield 43, 3) := by decide +kernel
theorem dX5_readLaw_91 : decode cX5_readLaw 91 = .ok (.aload_n 2, 1) := by decide +kernel
theorem dX5_readLaw_92 : decode cX5_readLaw 92 = .ok (.putfield 155, 3) := by decide +kernel
theorem dX5_readLaw_95 : decode cX5_readLaw 95 = .ok (.goto 29, 3) := by decide +kernel
theorem dX5_readLaw_98 : decode cX5_readLaw 98 = .ok (.aload_n 1, 1) := by decide +kernel
theorem dX5_readLaw_99 : decode cX5_readLaw 99 = .ok (.getstatic 137, 3) := by decide +kernel
theorem dX5_readLaw_102 : decode cX5_readLaw 102 = .ok (.if_acmp .ne 14, 3) := by decide +kernel
theorem dX5_readLaw_105 : decode cX5_readLaw 105 = .ok (.aload_n 0, 1) := by decide +kernel
theorem dX5_readLaw_106 : decode cX5_readLaw 106 = .ok (.getfield 43, 3) := by decide +kernel
theorem dX5_readLaw_109 : decode cX5_readLaw 109 = .ok (.aload_n 2, 1) := by decide +kernel
theorem dX5_readLaw_110 : decode cX5_readLaw 110 = .ok (.putfield 158, 3) := by decide +kernel
theorem dX5_readLaw_113 : decode cX5_readLaw 113 = .ok (.goto 11, 3) := by decide +kernel
theorem dX5_readLaw_116 : decode cX5_readLaw 116 = .ok (.aload_n 0, 1) := by decide +kernel
theorem dX5_readLaw_117 : decode cX5_readLaw 117 = .ok (.getfield 43, 3) := by decide +kernel
theorem dX5_readLaw_120 : decode cX5_readLaw 120 = .ok (.aload_n 2, 1) := by decide +kernel
theorem dX5_readLaw_121 : decode cX5_readLaw 121 = .ok (.putfield 161, 3) := by decide +kernel
theorem dX5_readLaw_124 : decode cX5_readLaw 124 = .ok (.iconst 1, 1) := by decide +kernel
theorem dX5_readLaw_125 : decode cX5_readLaw 125 = .ok (.ireturn, 1) := by decide +kernel
theorem dX5_readTruth_0 : decode cX5_readTruth 0 = .ok (.aload_n 0, 1) := by decide +kernel
theorem dX5_readTruth_1 : decode cX5_readTruth 1 = .ok (.iload_n 1, 1) := by decide +kernel
theorem dX5_readTruth_2 : decode cX5_readTruth 2 = .ok (.invokevirtual 164, 3) := by decide +kernel
theorem dX5_readTruth_5 : decode cX5_readTruth 5 = .ok (.ifCond .ne 5, 3) := by decide +kernel
theorem dX5_readTruth_8 : decode cX5_readTruth 8 = .ok (.iconst 0, 1) := by decide +kernel
theorem dX5_readTruth_9 : decode cX5_readTruth 9 = .ok (.ireturn, 1) := by decide +kernel
theorem dX5_readTruth_10 : decode cX5_readTruth 10 = .ok (.iconst 0, 1) := by decide +kernel
theorem dX5_readTruth_11 : decode cX5_readTruth 11 = .ok (.istore_n 2, 1) := by decide +kernel
theorem dX5_readTruth_12 : decode cX5_readTruth 12 = .ok (.iload_n 2, 1) := by decide +kernel
theorem dX5_readTruth_13 : decode cX5_readTruth 13 = .ok (.aload_n 0, 1) := by decide +kernel
theorem dX5_readTruth_14 : decode cX5_readTruth 14 = .ok (.getfield 15, 3) := by decide +kernel
theorem dX5_readTruth_17 : decode cX5_readTruth 17 = .ok (.if_icmp .ge 40, 3) := by decide +kernel
theorem dX5_readTruth_20 : decode cX5_readTruth 20 = .ok (.aload_n 0, 1) := by decide +kernel
theorem dX5_readTruth_21 : decode cX5_readTruth 21 = .ok (.getstatic 167, 3) := by decide +kernel
theorem dX5_readTruth_24 : decode cX5_readTruth 24 = .ok (.invokevirtual 170, 3) := by decide +kernel
theorem dX5_readTruth_27 : decode cX5_readTruth 27 = .ok (.ifCond .eq 30, 3) := by decide +kernel
theorem dX5_readTruth_30 : decode cX5_readTruth 30 = .ok (.aload_n 0, 1) := by decide +kernel
theorem dX5_readTruth_31 : decode cX5_readTruth 31 = .ok (.invokevirtual 73, 3) := by decide +kernel
theorem dX5_readTruth_34 : decode cX5_readTruth 34 = .ok (.aload_n 0, 1) := by decide +kernel
theorem dX5_readTruth_35 : decode cX5_readTruth 35 = .ok (.iload_n 1, 1) := by decide +kernel
theorem dX5_readTruth_36 : decode cX5_readTruth 36 = .ok (.invokevirtual 164, 3) := by decide +kernel
theorem dX5_readTruth_39 : decode cX5_readTruth 39 = .ok (.ifCond .ne 5, 3) := by decide +kernel
theorem dX5_readTruth_42 : decode cX5_readTruth 42 = .ok (.iconst 0, 1) := by decide +kernel
theorem dX5_readTruth_43 : decode cX5_readTruth 43 = .ok (.ireturn, 1) := by decide +kernel
theorem dX5_readTruth_44 : decode cX5_readTruth 44 = .ok (.aload_n 0, 1) := by decide +kernel
theorem dX5_readTruth_45 : decode cX5_readTruth 45 = .ok (.sipush 2002, 3) := by decide +kernel
theorem dX5_readTruth_48 : decode cX5_readTruth 48 = .ok (.invokevirtual 173, 3) := by decide +kernel
theorem dX5_readTruth_51 : decode cX5_readTruth 51 = .ok (.iinc 2 1, 3) := by decide +kernel
theorem dX5_readTruth_54 : decode cX5_readTruth 54 = .ok (.goto (-42), 3) := by decide +kernel
theorem dX5_readTruth_57 : decode cX5_readTruth 57 = .ok (.iconst 1, 1) := by decide +kernel
theorem dX5_readTruth_58 : decode cX5_readTruth 58 = .ok (.ireturn, 1) := by decide +kernel
theorem dX5_readBoth_0 : decode cX5_readBoth 0 = .ok (.aload_n 0, 1) := by decide +kernel
theorem dX5_readBoth_1 : decode cX5_readBoth 1 = .ok (.iload_n 1, 1) := by decide +kernel
theorem dX5_readBoth_2 : decode cX5_readBoth 2 = .ok (.invokevirtual 176, 3) := by decide +kernel
theorem dX5_readBoth_5 : decode cX5_readBoth 5 = .ok (.ifCond .ne 5, 3) := by decide +kernel
theorem dX5_readBoth_8 : decode cX5_readBoth 8 = .ok (.iconst 0, 1) := by decide +kernel
theorem dX5_readBoth_9 : decode cX5_readBoth 9 = .ok (.ireturn, 1) := by decide +kernel
theorem dX5_readBoth_10 : decode cX5_readBoth 10 = .ok (.iconst 0, 1) := by decide +kernel
theorem dX5_readBoth_11 : decode cX5_readBoth 11 = .ok (.istore_n 2, 1) := by decide +kernel
theorem dX5_readBoth_12 : decode cX5_readBoth 12 = .ok (.iload_n 2, 1) := by decide +kernel
theorem dX5_readBoth_13 : decode cX5_readBoth 13 = .ok (.aload_n 0, 1) := by decide +kernel
theorem dX5_readBoth_14 : decode cX5_readBoth 14 = .ok (.getfield 15, 3) := by decide +kernel
theorem dX5_readBoth_17 : decode cX5_readBoth 17 = .ok (.if_icmp .ge 40, 3) := by decide +kernel
theorem dX5_readBoth_20 : decode cX5_readBoth 20 = .ok (.aload_n 0, 1) := by decide +kernel
theorem dX5_readBoth_21 : decode cX5_readBoth 21 = .ok (.getstatic 179, 3) := by decide +kernel
theorem dX5_readBoth_24 : decode cX5_readBoth 24 = .ok (.invokevirtual 170, 3) := by decide +kernel
theorem dX5_readBoth_27 : decode cX5_readBoth 27 = .ok (.ifCond .eq 30, 3) := by decide +kernel
theorem dX5_readBoth_30 : decode cX5_readBoth 30 = .ok (.aload_n 0, 1) := by decide +kernel
theorem dX5_readBoth_31 : decode cX5_readBoth 31 = .ok (.invokevirtual 73, 3) := by decide +kernel
theorem dX5_readBoth_34 : decode cX5_readBoth 34 = .ok (.aload_n 0, 1) := by decide +kernel
theorem dX5_readBoth_35 : decode cX5_readBoth 35 = .ok (.iload_n 1, 1) := by decide +kernel
theorem dX5_readBoth_36 : decode cX5_readBoth 36 = .ok (.invokevirtual 176, 3) := by decide +kernel
theorem dX5_readBoth_39 : decode cX5_readBoth 39 = .ok (.ifCond .ne 5, 3) := by decide +kernel
theorem dX5_readBoth_42 : decode cX5_readBoth 42 = .ok (.iconst 0, 1) := by decide +kernel
theorem dX5_readBoth_43 : decode cX5_readBoth 43 = .ok (.ireturn, 1) := by decide +kernel
theorem dX5_readBoth_44 : decode cX5_readBoth 44 = .ok (.aload_n 0, 1) := by decide +kernel
theorem dX5_readBoth_45 : decode cX5_readBoth 45 = .ok (.sipush 2001, 3) := by decide +kernel
theorem dX5_readBoth_48 : decode cX5_readBoth 48 = .ok (.invokevirtual 173, 3) := by decide +kernel
theorem dX5_readBoth_51 : decode cX5_readBoth 51 = .ok (.iinc 2 1, 3) := by decide +kernel
theorem dX5_readBoth_54 : decode cX5_readBoth 54 = .ok (.goto (-42), 3) := by decide +kernel
theorem dX5_readBoth_57 : decode cX5_readBoth 57 = .ok (.iconst 1, 1) := by decide +kernel
theorem dX5_readBoth_58 : decode cX5_readBoth 58 = .ok (.ireturn, 1) := by decide +kernel
theorem dX5_readUnit_0 : decode cX5_readUnit 0 = .ok (.aload_n 0, 1) := by decide +kernel
theorem dX5_readUnit_1 : decode cX5_readUnit 1 = .ok (.getstatic 182, 3) := by decide +kernel
theorem dX5_readUnit_4 : decode cX5_readUnit 4 = .ok (.invokevirtual 170, 3) := by decide +kernel
theorem dX5_readUnit_7 : decode cX5_readUnit 7 = .ok (.ifCond .eq 32, 3) := by decide +kernel
theorem dX5_readUnit_10 : decode cX5_readUnit 10 = .ok (.aload_n 0, 1) := by decide +kernel
theorem dX5_readUnit_11 : decode cX5_readUnit 11 = .ok (.iload_n 1, 1) := by decide +kernel
theorem dX5_readUnit_12 : decode cX5_readUnit 12 = .ok (.invokevirtual 185, 3) := by decide +kernel
theorem dX5_readUnit_15 : decode cX5_readUnit 15 = .ok (.ifCond .eq 13, 3) := by decide +kernel
theorem dX5_readUnit_18 : decode cX5_readUnit 18 = .ok (.aload_n 0, 1) := by decide +kernel
theorem dX5_readUnit_19 : decode cX5_readUnit 19 = .ok (.iload_n 1, 1) := by decide +kernel
theorem dX5_readUnit_20 : decode cX5_readUnit 20 = .ok (.iconst 1, 1) := by decide +kernel
theorem dX5_readUnit_21 : decode cX5_readUnit 21 = .ok (.iadd, 1) := by decide +kernel
theorem dX5_readUnit_22 : decode cX5_readUnit 22 = .ok (.invokevirtual 176, 3) := by decide +kernel
theorem dX5_readUnit_25 : decode cX5_readUnit 25 = .ok (.ifCond .ne 5, 3) := by decide +kernel
theorem dX5_readUnit_28 : decode cX5_readUnit 28 = .ok (.iconst 0, 1) := by decide +kernel
theorem dX5_readUnit_29 : decode cX5_readUnit 29 = .ok (.ireturn, 1) := by decide +kernel
theorem dX5_readUnit_30 : decode cX5_readUnit 30 = .ok (.aload_n 0, 1) := by decide +kernel
theorem dX5_readUnit_31 : decode cX5_readUnit 31 = .ok (.sipush 2000, 3) := by decide +kernel
theorem dX5_readUnit_34 : decode cX5_readUnit 34 = .ok (.invokevirtual 173, 3) := by decide +kernel
theorem dX5_readUnit_37 : decode cX5_readUnit 37 = .ok (.iconst 1, 1) := by decide +kernel
theorem dX5_readUnit_38 : decode cX5_readUnit 38 = .ok (.ireturn, 1) := by decide +kernel
theorem dX5_readUnit_39 : decode cX5_readUnit 39 = .ok (.aload_n 0, 1) := by decide +kernel
theorem dX5_readUnit_40 : decode cX5_readUnit 40 = .ok (.getfield 25, 3) := by decide +kernel
theorem dX5_readUnit_43 : decode cX5_readUnit 43 = .ok (.bipush 91, 2) := by decide +kernel
theorem dX5_readUnit_45 : decode cX5_readUnit 45 = .ok (.if_icmp .ne 36, 3) := by decide +kernel
theorem dX5_readUnit_48 : decode cX5_readUnit 48 = .ok (.aload_n 0, 1) := by decide +kernel
theorem dX5_readUnit_49 : decode cX5_readUnit 49 = .ok (.iload_n 1, 1) := by decide +kernel
theorem dX5_readUnit_50 : decode cX5_readUnit 50 = .ok (.invokevirtual 185, 3) := by decide +kernel
theorem dX5_readUnit_53 : decode cX5_readUnit 53 = .ok (.ifCond .eq 26, 3) := by decide +kernel
theorem dX5_readUnit_56 : decode cX5_readUnit 56 = .ok (.aload_n 0, 1) := by decide +kernel
theorem dX5_readUnit_57 : decode cX5_readUnit 57 = .ok (.iload_n 1, 1) := by decide +kernel
theorem dX5_readUnit_58 : decode cX5_readUnit 58 = .ok (.iconst 1, 1) := by decide +kernel
theorem dX5_readUnit_59 : decode cX5_readUnit 59 = .ok (.iadd, 1) := by decide +kernel
theorem dX5_readUnit_60 : decode cX5_readUnit 60 = .ok (.invokevirtual 143, 3) := by decide +kernel
theorem dX5_readUnit_63 : decode cX5_readUnit 63 = .ok (.ifCond .eq 16, 3) := by decide +kernel
theorem dX5_readUnit_66 : decode cX5_readUnit 66 = .ok (.aload_n 0, 1) := by decide +kernel
theorem dX5_readUnit_67 : decode cX5_readUnit 67 = .ok (.bipush 93, 2) := by decide +kernel
theorem dX5_readUnit_69 : decode cX5_readUnit 69 = .ok (.invokevirtual 102, 3) := by decide +kernel
theorem dX5_readUnit_72 : decode cX5_readUnit 72 = .ok (.ifCond .eq 7, 3) := by decide +kernel
theorem dX5_readUnit_75 : decode cX5_readUnit 75 = .ok (.iconst 1, 1) := by decide +kernel
theorem dX5_readUnit_76 : decode cX5_readUnit 76 = .ok (.goto 4, 3) := by decide +kernel
theorem dX5_readUnit_79 : decode cX5_readUnit 79 = .ok (.iconst 0, 1) := by decide +kernel
theorem dX5_readUnit_80 : decode cX5_readUnit 80 = .ok (.ireturn, 1) := by decide +kernel
theorem dX5_readUnit_81 : decode cX5_readUnit 81 = .ok (.aload_n 0, 1) := by decide +kernel
theorem dX5_readUnit_82 : decode cX5_readUnit 82 = .ok (.iload_n 1, 1) := by decide +kernel
theorem dX5_readUnit_83 : decode cX5_readUnit 83 = .ok (.invokevirtual 146, 3) := by decide +kernel
theorem dX5_readUnit_86 : decode cX5_readUnit 86 = .ok (.ifCond .ne 5, 3) := by decide +kernel
theorem dX5_readUnit_89 : decode cX5_readUnit 89 = .ok (.iconst 0, 1) := by decide +kernel
theorem dX5_readUnit_90 : decode cX5_readUnit 90 = .ok (.ireturn, 1) := by decide +kernel
theorem dX5_readUnit_91 : decode cX5_readUnit 91 = .ok (.aload_n 0, 1) := by decide +kernel
theorem dX5_readUnit_92 : decode cX5_readUnit 92 = .ok (.invokevirtual 188, 3) := by decide +kernel
theorem dX5_readUnit_95 : decode cX5_readUnit 95 = .ok (.istore_n 2, 1) := by decide +kernel
theorem dX5_readUnit_96 : decode cX5_readUnit 96 = .ok (.iload_n 2, 1) := by decide +kernel
theorem dX5_readUnit_97 : decode cX5_readUnit 97 = .ok (.iconst (-1), 1) := by decide +kernel
theorem dX5_readUnit_98 : decode cX5_readUnit 98 = .ok (.if_icmp .ne 8, 3) := by decide +kernel
theorem dX5_readUnit_101 : decode cX5_readUnit 101 = .ok (.aload_n 0, 1) := by decide +kernel
theorem dX5_readUnit_102 : decode cX5_readUnit 102 = .ok (.invokevirtual 80, 3) := by decide +kernel
theorem dX5_readUnit_105 : decode cX5_readUnit 105 = .ok (.ireturn, 1) := by decide +kernel
theorem dX5_readUnit_106 : decode cX5_readUnit 106 = .ok (.aload_n 0, 1) := by decide +kernel
theorem dX5_readUnit_107 : decode cX5_readUnit 107 = .ok (.invokevirtual 73, 3) := by decide +kernel
theorem dX5_readUnit_110 : decode cX5_readUnit 110 = .ok (.aload_n 0, 1) := by decide +kernel
theorem dX5_readUnit_111 : decode cX5_readUnit 111 = .ok (.iload_n 1, 1) := by decide +kernel
theorem dX5_readUnit_112 : decode cX5_readUnit 112 = .ok (.invokevirtual 146, 3) := by decide +kernel
theorem dX5_readUnit_115 : decode cX5_readUnit 115 = .ok (.ifCond .ne 5, 3) := by decide +kernel
theorem dX5_readUnit_118 : decode cX5_readUnit 118 = .ok (.iconst 0, 1) := by decide +kernel
theorem dX5_readUnit_119 : decode cX5_readUnit 119 = .ok (.ireturn, 1) := by decide +kernel
theorem dX5_readUnit_120 : decode cX5_readUnit 120 = .ok (.aload_n 0, 1) := by decide +kernel
theorem dX5_readUnit_121 : decode cX5_readUnit 121 = .ok (.iload_n 2, 1) := by decide +kernel
theorem dX5_readUnit_122 : decode cX5_readUnit 122 = .ok (.invokevirtual 173, 3) := by decide +kernel
theorem dX5_readUnit_125 : decode cX5_readUnit 125 = .ok (.iconst 1, 1) := by decide +kernel
theorem dX5_readUnit_126 : decode cX5_readUnit 126 = .ok (.ireturn, 1) := by decide +kernel
theorem dX5_comparing_0 : decode cX5_comparing 0 = .ok (.aload_n 0, 1) := by decide +kernel
theorem dX5_comparing_1 : decode cX5_comparing 1 = .ok (.getfield 25, 3) := by decide +kernel
theorem dX5_comparing_4 : decode cX5_comparing 4 = .ok (.tableswitch 40 60 62 #[32, 28, 36], 28) := by decide +kernel
theorem dX5_comparing_32 : decode cX5_comparing 32 = .ok (.sipush 2006, 3) := by decide +kernel
theorem dX5_comparing_35 : decode cX5_comparing 35 = .ok (.ireturn, 1) := by decide +kernel
theorem dX5_comparing_36 : decode cX5_comparing 36 = .ok (.sipush 2007, 3) := by decide +kernel
theorem dX5_comparing_39 : decode cX5_comparing 39 = .ok (.ireturn, 1) := by decide +kernel
theorem dX5_comparing_40 : decode cX5_comparing 40 = .ok (.sipush 2008, 3) := by decide +kernel
theorem dX5_comparing_43 : decode cX5_comparing 43 = .ok (.ireturn, 1) := by decide +kernel
theorem dX5_comparing_44 : decode cX5_comparing 44 = .ok (.iconst (-1), 1) := by decide +kernel
theorem dX5_comparing_45 : decode cX5_comparing 45 = .ok (.ireturn, 1) := by decide +kernel
theorem dX5_readSum_0 : decode cX5_readSum 0 = .ok (.aload_n 0, 1) := by decide +kernel
theorem dX5_readSum_1 : decode cX5_readSum 1 = .ok (.iload_n 1, 1) := by decide +kernel
theorem dX5_readSum_2 : decode cX5_readSum 2 = .ok (.invokevirtual 191, 3) := by decide +kernel
theorem dX5_readSum_5 : decode cX5_readSum 5 = .ok (.ifCond .ne 5, 3) := by decide +kernel
theorem dX5_readSum_8 : decode cX5_readSum 8 = .ok (.iconst 0, 1) := by decide +kernel
theorem dX5_readSum_9 : decode cX5_readSum 9 = .ok (.ireturn, 1) := by decide +kernel
theorem dX5_readSum_10 : decode cX5_readSum 10 = .ok (.iconst 0, 1) := by decide +kernel
theorem dX5_readSum_11 : decode cX5_readSum 11 = .ok (.istore_n 2, 1) := by decide +kernel
theorem dX5_readSum_12 : decode cX5_readSum 12 = .ok (.iload_n 2, 1) := by decide +kernel
theorem dX5_readSum_13 : decode cX5_readSum 13 = .ok (.aload_n 0, 1) := by decide +kernel
theorem dX5_readSum_14 : decode cX5_readSum 14 = .ok (.getfield 15, 3) := by decide +kernel
theorem dX5_readSum_17 : decode cX5_readSum 17 = .ok (.if_icmp .ge 65, 3) := by decide +kernel
theorem dX5_readSum_20 : decode cX5_readSum 20 = .ok (.aload_n 0, 1) := by decide +kernel
theorem dX5_readSum_21 : decode cX5_readSum 21 = .ok (.getfield 25, 3) := by decide +kernel
theorem dX5_readSum_24 : decode cX5_readSum 24 = .ok (.bipush 43, 2) := by decide +kernel
theorem dX5_readSum_26 : decode cX5_readSum 26 = .ok (.if_icmp .eq 12, 3) := by decide +kernel
theorem dX5_readSum_29 : decode cX5_readSum 29 = .ok (.aload_n 0, 1) := by decide +kernel
theorem dX5_readSum_30 : decode cX5_readSum 30 = .ok (.getfield 25, 3) := by decide +kernel
theorem dX5_readSum_33 : decode cX5_readSum 33 = .ok (.bipush 45, 2) := by decide +kernel
theorem dX5_readSum_35 : decode cX5_readSum 35 = .ok (.if_icmp .ne 47, 3) := by decide +kernel
theorem dX5_readSum_38 : decode cX5_readSum 38 = .ok (.aload_n 0, 1) := by decide +kernel
theorem dX5_readSum_39 : decode cX5_readSum 39 = .ok (.getfield 25, 3) := by decide +kernel
theorem dX5_readSum_42 : decode cX5_readSum 42 = .ok (.bipush 43, 2) := by decide +kernel
theorem dX5_readSum_44 : decode cX5_readSum 44 = .ok (.if_icmp .ne 9, 3) := by decide +kernel
theorem dX5_readSum_47 : decode cX5_readSum 47 = .ok (.sipush 2003, 3) := by decide +kernel
theorem dX5_readSum_50 : decode cX5_readSum 50 = .ok (.goto 6, 3) := by decide +kernel
theorem dX5_readSum_53 : decode cX5_readSum 53 = .ok (.sipush 2004, 3) := by decide +kernel
theorem dX5_readSum_56 : decode cX5_readSum 56 = .ok (.istore_n 3, 1) := by decide +kernel
theorem dX5_readSum_57 : decode cX5_readSum 57 = .ok (.aload_n 0, 1) := by decide +kernel
theorem dX5_readSum_58 : decode cX5_readSum 58 = .ok (.invokevirtual 73, 3) := by decide +kernel
theorem dX5_readSum_61 : decode cX5_readSum 61 = .ok (.aload_n 0, 1) := by decide +kernel
theorem dX5_readSum_62 : decode cX5_readSum 62 = .ok (.iload_n 1, 1) := by decide +kernel
theorem dX5_readSum_63 : decode cX5_readSum 63 = .ok (.invokevirtual 191, 3) := by decide +kernel
theorem dX5_readSum_66 : decode cX5_readSum 66 = .ok (.ifCond .ne 5, 3) := by decide +kernel
theorem dX5_readSum_69 : decode cX5_readSum 69 = .ok (.iconst 0, 1) := by decide +kernel
theorem dX5_readSum_70 : decode cX5_readSum 70 = .ok (.ireturn, 1) := by decide +kernel
theorem dX5_readSum_71 : decode cX5_readSum 71 = .ok (.aload_n 0, 1) := by decide +kernel
theorem dX5_readSum_72 : decode cX5_readSum 72 = .ok (.iload_n 3, 1) := by decide +kernel
theorem dX5_readSum_73 : decode cX5_readSum 73 = .ok (.invokevirtual 173, 3) := by decide +kernel
theorem dX5_readSum_76 : decode cX5_readSum 76 = .ok (.iinc 2 1, 3) := by decide +kernel
theorem dX5_readSum_79 : decode cX5_readSum 79 = .ok (.goto (-67), 3) := by decide +kernel
theorem dX5_readSum_82 : decode cX5_readSum 82 = .ok (.iconst 1, 1) := by decide +kernel
theorem dX5_readSum_83 : decode cX5_readSum 83 = .ok (.ireturn, 1) := by decide +kernel
theorem dX5_readTerm_0 : decode cX5_readTerm 0 = .ok (.aload_n 0, 1) := by decide +kernel
theorem dX5_readTerm_1 : decode cX5_readTerm 1 = .ok (.iload_n 1, 1) := by decide +kernel
theorem dX5_readTerm_2 : decode cX5_readTerm 2 = .ok (.invokevirtual 194, 3) := by decide +kernel
theorem dX5_readTerm_5 : decode cX5_readTerm 5 = .ok (.ifCond .ne 5, 3) := by decide +kernel
theorem dX5_readTerm_8 : decode cX5_readTerm 8 = .ok (.iconst 0, 1) := by decide +kernel
theorem dX5_readTerm_9 : decode cX5_readTerm 9 = .ok (.ireturn, 1) := by decide +kernel
theorem dX5_readTerm_10 : decode cX5_readTerm 10 = .ok (.iconst 0, 1) := by decide +kernel
theorem dX5_readTerm_11 : decode cX5_readTerm 11 = .ok (.istore_n 2, 1) := by decide +kernel
theorem dX5_readTerm_12 : decode cX5_readTerm 12 = .ok (.iload_n 2, 1) := by decide +kernel
theorem dX5_readTerm_13 : decode cX5_readTerm 13 = .ok (.aload_n 0, 1) := by decide +kernel
theorem dX5_readTerm_14 : decode cX5_readTerm 14 = .ok (.getfield 15, 3) := by decide +kernel
theorem dX5_readTerm_17 : decode cX5_readTerm 17 = .ok (.if_icmp .ge 39, 3) := by decide +kernel
theorem dX5_readTerm_20 : decode cX5_readTerm 20 = .ok (.aload_n 0, 1) := by decide +kernel
theorem dX5_readTerm_21 : decode cX5_readTerm 21 = .ok (.getfield 25, 3) := by decide +kernel
theorem dX5_readTerm_24 : decode cX5_readTerm 24 = .ok (.bipush 42, 2) := by decide +kernel
theorem dX5_readTerm_26 : decode cX5_readTerm 26 = .ok (.if_icmp .ne 30, 3) := by decide +kernel
theorem dX5_readTerm_29 : decode cX5_readTerm 29 = .ok (.aload_n 0, 1) := by decide +kernel
theorem dX5_readTerm_30 : decode cX5_readTerm 30 = .ok (.invokevirtual 73, 3) := by decide +kernel
theorem dX5_readTerm_33 : decode cX5_readTerm 33 = .ok (.aload_n 0, 1) := by decide +kernel
theorem dX5_readTerm_34 : decode cX5_readTerm 34 = .ok (.iload_n 1, 1) := by decide +kernel
theorem dX5_readTerm_35 : decode cX5_readTerm 35 = .ok (.invokevirtual 194, 3) := by decide +kernel
theorem dX5_readTerm_38 : decode cX5_readTerm 38 = .ok (.ifCond .ne 5, 3) := by decide +kernel
theorem dX5_readTerm_41 : decode cX5_readTerm 41 = .ok (.iconst 0, 1) := by decide +kernel
theorem dX5_readTerm_42 : decode cX5_readTerm 42 = .ok (.ireturn, 1) := by decide +kernel
theorem dX5_readTerm_43 : decode cX5_readTerm 43 = .ok (.aload_n 0, 1) := by decide +kernel
theorem dX5_readTerm_44 : decode cX5_readTerm 44 = .ok (.sipush 2005, 3) := by decide +kernel
theorem dX5_readTerm_47 : decode cX5_readTerm 47 = .ok (.invokevirtual 173, 3) := by decide +kernel
theorem dX5_readTerm_50 : decode cX5_readTerm 50 = .ok (.iinc 2 1, 3) := by decide +kernel
theorem dX5_readTerm_53 : decode cX5_readTerm 53 = .ok (.goto (-41), 3) := by decide +kernel
theorem dX5_readTerm_56 : decode cX5_readTerm 56 = .ok (.iconst 1, 1) := by decide +kernel
theorem dX5_readTerm_57 : decode cX5_readTerm 57 = .ok (.ireturn, 1) := by decide +kernel
theorem dX5_readAtom_0 : decode cX5_readAtom 0 = .ok (.aload_n 0, 1) := by decide +kernel
theorem dX5_readAtom_1 : decode cX5_readAtom 1 = .ok (.getfield 25, 3) := by decide +kernel
theorem dX5_readAtom_4 : decode cX5_readAtom 4 = .ok (.bipush 40, 2) := by decide +kernel
theorem dX5_readAtom_6 : decode cX5_readAtom 6 = .ok (.if_icmp .ne 36, 3) := by decide +kernel
theorem dX5_readAtom_9 : decode cX5_readAtom 9 = .ok (.aload_n 0, 1) := by decide +kernel
theorem dX5_readAtom_10 : decode cX5_readAtom 10 = .ok (.iload_n 1, 1) := by decide +kernel
theorem dX5_readAtom_11 : decode cX5_readAtom 11 = .ok (.invokevirtual 185, 3) := by decide +kernel
theorem dX5_readAtom_14 : decode cX5_readAtom 14 = .ok (.ifCond .eq 26, 3) := by decide +kernel
theorem dX5_readAtom_17 : decode cX5_readAtom 17 = .ok (.aload_n 0, 1) := by decide +kernel
theorem dX5_readAtom_18 : decode cX5_readAtom 18 = .ok (.iload_n 1, 1) := by decide +kernel
theorem dX5_readAtom_19 : decode cX5_readAtom 19 = .ok (.iconst 1, 1) := by decide +kernel
theorem dX5_readAtom_20 : decode cX5_readAtom 20 = .ok (.iadd, 1) := by decide +kernel
theorem dX5_readAtom_21 : decode cX5_readAtom 21 = .ok (.invokevirtual 146, 3) := by decide +kernel
theorem dX5_readAtom_24 : decode cX5_readAtom 24 = .ok (.ifCond .eq 16, 3) := by decide +kernel
theorem dX5_readAtom_27 : decode cX5_readAtom 27 = .ok (.aload_n 0, 1) := by decide +kernel
theorem dX5_readAtom_28 : decode cX5_readAtom 28 = .ok (.bipush 41, 2) := by decide +kernel
theorem dX5_readAtom_30 : decode cX5_readAtom 30 = .ok (.invokevirtual 102, 3) := by decide +kernel
theorem dX5_readAtom_33 : decode cX5_readAtom 33 = .ok (.ifCond .eq 7, 3) := by decide +kernel
theorem dX5_readAtom_36 : decode cX5_readAtom 36 = .ok (.iconst 1, 1) := by decide +kernel
theorem dX5_readAtom_37 : decode cX5_readAtom 37 = .ok (.goto 4, 3) := by decide +kernel
theorem dX5_readAtom_40 : decode cX5_readAtom 40 = .ok (.iconst 0, 1) := by decide +kernel
theorem dX5_readAtom_41 : decode cX5_readAtom 41 = .ok (.ireturn, 1) := by decide +kernel
theorem dX5_readAtom_42 : decode cX5_readAtom 42 = .ok (.aload_n 0, 1) := by decide +kernel
theorem dX5_readAtom_43 : decode cX5_readAtom 43 = .ok (.getfield 25, 3) := by decide +kernel
theorem dX5_readAtom_46 : decode cX5_readAtom 46 = .ok (.iconst 2, 1) := by decide +kernel
theorem dX5_readAtom_47 : decode cX5_readAtom 47 = .ok (.if_icmp .ne 17, 3) := by decide +kernel
theorem dX5_readAtom_50 : decode cX5_readAtom 50 = .ok (.aload_n 0, 1) := by decide +kernel
theorem dX5_readAtom_51 : decode cX5_readAtom 51 = .ok (.aload_n 0, 1) := by decide +kernel
theorem dX5_readAtom_52 : decode cX5_readAtom 52 = .ok (.getfield 28, 3) := by decide +kernel
theorem dX5_readAtom_55 : decode cX5_readAtom 55 = .ok (.invokevirtual 173, 3) := by decide +kernel
theorem dX5_readAtom_58 : decode cX5_readAtom 58 = .ok (.aload_n 0, 1) := by decide +kernel
theorem dX5_readAtom_59 : decode cX5_readAtom 59 = .ok (.invokevirtual 73, 3) := by decide +kernel
theorem dX5_readAtom_62 : decode cX5_readAtom 62 = .ok (.iconst 1, 1) := by decide +kernel
theorem dX5_readAtom_63 : decode cX5_readAtom 63 = .ok (.ireturn, 1) := by decide +kernel
theorem dX5_readAtom_64 : decode cX5_readAtom 64 = .ok (.aload_n 0, 1) := by decide +kernel
theorem dX5_readAtom_65 : decode cX5_readAtom 65 = .ok (.getfield 25, 3) := by decide +kernel
theorem dX5_readAtom_68 : decode cX5_readAtom 68 = .ok (.iconst 3, 1) := by decide +kernel
theorem dX5_readAtom_69 : decode cX5_readAtom 69 = .ok (.if_icmp .ne 35, 3) := by decide +kernel
theorem dX5_readAtom_72 : decode cX5_readAtom 72 = .ok (.aload_n 0, 1) := by decide +kernel
theorem dX5_readAtom_73 : decode cX5_readAtom 73 = .ok (.getfield 37, 3) := by decide +kernel
theorem dX5_readAtom_76 : decode cX5_readAtom 76 = .ok (.getfield 197, 3) := by decide +kernel
theorem dX5_readAtom_79 : decode cX5_readAtom 79 = .ok (.iconst (-1), 1) := by decide +kernel
theorem dX5_readAtom_80 : decode cX5_readAtom 80 = .ok (.if_icmp .eq 24, 3) := by decide +kernel
theorem dX5_readAtom_83 : decode cX5_readAtom 83 = .ok (.aload_n 0, 1) := by decide +kernel
theorem dX5_readAtom_84 : decode cX5_readAtom 84 = .ok (.getfield 54, 3) := by decide +kernel
theorem dX5_readAtom_87 : decode cX5_readAtom 87 = .ok (.ifCond .ne 13, 3) := by decide +kernel
theorem dX5_readAtom_90 : decode cX5_readAtom 90 = .ok (.aload_n 0, 1) := by decide +kernel
theorem dX5_readAtom_91 : decode cX5_readAtom 91 = .ok (.getfield 37, 3) := by decide +kernel
theorem dX5_readAtom_94 : decode cX5_readAtom 94 = .ok (.invokevirtual 200, 3) := by decide +kernel
theorem dX5_readAtom_97 : decode cX5_readAtom 97 = .ok (.ifCond .ne 7, 3) := by decide +kernel
theorem dX5_readAtom_100 : decode cX5_readAtom 100 = .ok (.iconst 1, 1) := by decide +kernel
theorem dX5_readAtom_101 : decode cX5_readAtom 101 = .ok (.goto 4, 3) := by decide +kernel
theorem dX5_readAtom_104 : decode cX5_readAtom 104 = .ok (.iconst 0, 1) := by decide +kernel
theorem dX5_readAtom_105 : decode cX5_readAtom 105 = .ok (.istore_n 2, 1) := by decide +kernel
theorem dX5_readAtom_106 : decode cX5_readAtom 106 = .ok (.iload_n 2, 1) := by decide +kernel
theorem dX5_readAtom_107 : decode cX5_readAtom 107 = .ok (.ifCond .ne 8, 3) := by decide +kernel
theorem dX5_readAtom_110 : decode cX5_readAtom 110 = .ok (.aload_n 0, 1) := by decide +kernel
theorem dX5_readAtom_111 : decode cX5_readAtom 111 = .ok (.invokevirtual 80, 3) := by decide +kernel
theorem dX5_readAtom_114 : decode cX5_readAtom 114 = .ok (.ireturn, 1) := by decide +kernel
theorem dX5_readAtom_115 : decode cX5_readAtom 115 = .ok (.aload_n 0, 1) := by decide +kernel
theorem dX5_readAtom_116 : decode cX5_readAtom 116 = .ok (.sipush 1000, 3) := by decide +kernel
theorem dX5_readAtom_119 : decode cX5_readAtom 119 = .ok (.aload_n 0, 1) := by decide +kernel
theorem dX5_readAtom_120 : decode cX5_readAtom 120 = .ok (.getfield 37, 3) := by decide +kernel
theorem dX5_readAtom_123 : decode cX5_readAtom 123 = .ok (.getfield 197, 3) := by decide +kernel
theorem dX5_readAtom_126 : decode cX5_readAtom 126 = .ok (.iadd, 1) := by decide +kernel
theorem dX5_readAtom_127 : decode cX5_readAtom 127 = .ok (.invokevirtual 173, 3) := by decide +kernel
theorem dX5_readAtom_130 : decode cX5_readAtom 130 = .ok (.aload_n 0, 1) := by decide +kernel
theorem dX5_readAtom_131 : decode cX5_readAtom 131 = .ok (.invokevirtual 73, 3) := by decide +kernel
theorem dX5_readAtom_134 : decode cX5_readAtom 134 = .ok (.iconst 1, 1) := by decide +kernel
theorem dX5_readAtom_135 : decode cX5_readAtom 135 = .ok (.ireturn, 1) := by decide +kernel
theorem dX5_goDeeper_0 : decode cX5_goDeeper 0 = .ok (.iload_n 1, 1) := by decide +kernel
theorem dX5_goDeeper_1 : decode cX5_goDeeper 1 = .ok (.bipush 6, 2) := by decide +kernel
theorem dX5_goDeeper_3 : decode cX5_goDeeper 3 = .ok (.if_icmp .lt 9, 3) := by decide +kernel
theorem dX5_goDeeper_6 : decode cX5_goDeeper 6 = .ok (.aload_n 0, 1) := by decide +kernel
theorem dX5_goDeeper_7 : decode cX5_goDeeper 7 = .ok (.iconst 4, 1) := by decide +kernel
theorem dX5_goDeeper_8 : decode cX5_goDeeper 8 = .ok (.invokevirtual 112, 3) := by decide +kernel
theorem dX5_goDeeper_11 : decode cX5_goDeeper 11 = .ok (.ireturn, 1) := by decide +kernel
theorem dX5_goDeeper_12 : decode cX5_goDeeper 12 = .ok (.aload_n 0, 1) := by decide +kernel
theorem dX5_goDeeper_13 : decode cX5_goDeeper 13 = .ok (.invokevirtual 73, 3) := by decide +kernel
theorem dX5_goDeeper_16 : decode cX5_goDeeper 16 = .ok (.iconst 1, 1) := by decide +kernel
theorem dX5_goDeeper_17 : decode cX5_goDeeper 17 = .ok (.ireturn, 1) := by decide +kernel
theorem dX5_emit_0 : decode cX5_emit 0 = .ok (.aload_n 0, 1) := by decide +kernel
theorem dX5_emit_1 : decode cX5_emit 1 = .ok (.getfield 51, 3) := by decide +kernel
theorem dX5_emit_4 : decode cX5_emit 4 = .ok (.ifCond .lt 35, 3) := by decide +kernel
theorem dX5_emit_7 : decode cX5_emit 7 = .ok (.aload_n 0, 1) := by decide +kernel
theorem dX5_emit_8 : decode cX5_emit 8 = .ok (.getfield 51, 3) := by decide +kernel
theorem dX5_emit_11 : decode cX5_emit 11 = .ok (.aload_n 0, 1) := by decide +kernel
theorem dX5_emit_12 : decode cX5_emit 12 = .ok (.getfield 47, 3) := by decide +kernel
theorem dX5_emit_15 : decode cX5_emit 15 = .ok (.arraylength, 1) := by decide +kernel
theorem dX5_emit_16 : decode cX5_emit 16 = .ok (.if_icmp .ge 23, 3) := by decide +kernel
theorem dX5_emit_19 : decode cX5_emit 19 = .ok (.aload_n 0, 1) := by decide +kernel
theorem dX5_emit_20 : decode cX5_emit 20 = .ok (.getfield 47, 3) := by decide +kernel
theorem dX5_emit_23 : decode cX5_emit 23 = .ok (.aload_n 0, 1) := by decide +kernel
theorem dX5_emit_24 : decode cX5_emit 24 = .ok (.getfield 51, 3) := by decide +kernel
theorem dX5_emit_27 : decode cX5_emit 27 = .ok (.iload_n 1, 1) := by decide +kernel
theorem dX5_emit_28 : decode cX5_emit 28 = .ok (.iastore, 1) := by decide +kernel
theorem dX5_emit_29 : decode cX5_emit 29 = .ok (.aload_n 0, 1) := by decide +kernel
theorem dX5_emit_30 : decode cX5_emit 30 = .ok (.dup, 1) := by decide +kernel
theorem dX5_emit_31 : decode cX5_emit 31 = .ok (.getfield 51, 3) := by decide +kernel
theorem dX5_emit_34 : decode cX5_emit 34 = .ok (.iconst 1, 1) := by decide +kernel
theorem dX5_emit_35 : decode cX5_emit 35 = .ok (.iadd, 1) := by decide +kernel
theorem dX5_emit_36 : decode cX5_emit 36 = .ok (.putfield 51, 3) := by decide +kernel
theorem dX5_emit_39 : decode cX5_emit 39 = .ok (.return_, 1) := by decide +kernel
theorem dX5_isWord_0 : decode cX5_isWord 0 = .ok (.aload_n 0, 1) := by decide +kernel
theorem dX5_isWord_1 : decode cX5_isWord 1 = .ok (.getfield 25, 3) := by decide +kernel
theorem dX5_isWord_4 : decode cX5_isWord 4 = .ok (.iconst 3, 1) := by decide +kernel
theorem dX5_isWord_5 : decode cX5_isWord 5 = .ok (.if_icmp .ne 15, 3) := by decide +kernel
theorem dX5_isWord_8 : decode cX5_isWord 8 = .ok (.aload_n 0, 1) := by decide +kernel
theorem dX5_isWord_9 : decode cX5_isWord 9 = .ok (.getfield 37, 3) := by decide +kernel
theorem dX5_isWord_12 : decode cX5_isWord 12 = .ok (.aload_n 1, 1) := by decide +kernel
theorem dX5_isWord_13 : decode cX5_isWord 13 = .ok (.if_acmp .ne 7, 3) := by decide +kernel
theorem dX5_isWord_16 : decode cX5_isWord 16 = .ok (.iconst 1, 1) := by decide +kernel
theorem dX5_isWord_17 : decode cX5_isWord 17 = .ok (.goto 4, 3) := by decide +kernel
theorem dX5_isWord_20 : decode cX5_isWord 20 = .ok (.iconst 0, 1) := by decide +kernel
theorem dX5_isWord_21 : decode cX5_isWord 21 = .ok (.ireturn, 1) := by decide +kernel
theorem dX5_takeWord_0 : decode cX5_takeWord 0 = .ok (.aload_n 0, 1) := by decide +kernel
theorem dX5_takeWord_1 : decode cX5_takeWord 1 = .ok (.aload_n 1, 1) := by decide +kernel
theorem dX5_takeWord_2 : decode cX5_takeWord 2 = .ok (.invokevirtual 170, 3) := by decide +kernel
theorem dX5_takeWord_5 : decode cX5_takeWord 5 = .ok (.ifCond .ne 8, 3) := by decide +kernel
theorem dX5_takeWord_8 : decode cX5_takeWord 8 = .ok (.aload_n 0, 1) := by decide +kernel
theorem dX5_takeWord_9 : decode cX5_takeWord 9 = .ok (.invokevirtual 80, 3) := by decide +kernel
theorem dX5_takeWord_12 : decode cX5_takeWord 12 = .ok (.ireturn, 1) := by decide +kernel
theorem dX5_takeWord_13 : decode cX5_takeWord 13 = .ok (.aload_n 0, 1) := by decide +kernel
theorem dX5_takeWord_14 : decode cX5_takeWord 14 = .ok (.invokevirtual 73, 3) := by decide +kernel
theorem dX5_takeWord_17 : decode cX5_takeWord 17 = .ok (.iconst 1, 1) := by decide +kernel
theorem dX5_takeWord_18 : decode cX5_takeWord 18 = .ok (.ireturn, 1) := by decide +kernel
theorem dX5_takeSign_0 : decode cX5_takeSign 0 = .ok (.aload_n 0, 1) := by decide +kernel
theorem dX5_takeSign_1 : decode cX5_takeSign 1 = .ok (.getfield 25, 3) := by decide +kernel
theorem dX5_takeSign_4 : decode cX5_takeSign 4 = .ok (.iload_n 1, 1) := by decide +kernel
theorem dX5_takeSign_5 : decode cX5_takeSign 5 = .ok (.if_icmp .eq 8, 3) := by decide +kernel
theorem dX5_takeSign_8 : decode cX5_takeSign 8 = .ok (.aload_n 0, 1) := by decide +kernel
theorem dX5_takeSign_9 : decode cX5_takeSign 9 = .ok (.invokevirtual 80, 3) := by decide +kernel
theorem dX5_takeSign_12 : decode cX5_takeSign 12 = .ok (.ireturn, 1) := by decide +kernel
theorem dX5_takeSign_13 : decode cX5_takeSign 13 = .ok (.aload_n 0, 1) := by decide +kernel
theorem dX5_takeSign_14 : decode cX5_takeSign 14 = .ok (.invokevirtual 73, 3) := by decide +kernel
theorem dX5_takeSign_17 : decode cX5_takeSign 17 = .ok (.iconst 1, 1) := by decide +kernel
theorem dX5_takeSign_18 : decode cX5_takeSign 18 = .ok (.ireturn, 1) := by decide +kernel
theorem dX5_takeNumber_0 : decode cX5_takeNumber 0 = .ok (.aload_n 0, 1) := by decide +kernel
theorem dX5_takeNumber_1 : decode cX5_takeNumber 1 = .ok (.getfield 25, 3) := by decide +kernel
theorem dX5_takeNumber_4 : decode cX5_takeNumber 4 = .ok (.iconst 2, 1) := by decide +kernel
theorem dX5_takeNumber_5 : decode cX5_takeNumber 5 = .ok (.if_icmp .eq 10, 3) := by decide +kernel
theorem dX5_takeNumber_8 : decode cX5_takeNumber 8 = .ok (.aload_n 0, 1) := by decide +kernel
theorem dX5_takeNumber_9 : decode cX5_takeNumber 9 = .ok (.invokevirtual 80, 3) := by decide +kernel
theorem dX5_takeNumber_12 : decode cX5_takeNumber 12 = .ok (.pop, 1) := by decide +kernel
theorem dX5_takeNumber_13 : decode cX5_takeNumber 13 = .ok (.iconst (-1), 1) := by decide +kernel
theorem dX5_takeNumber_14 : decode cX5_takeNumber 14 = .ok (.ireturn, 1) := by decide +kernel
theorem dX5_takeNumber_15 : decode cX5_takeNumber 15 = .ok (.aload_n 0, 1) := by decide +kernel
theorem dX5_takeNumber_16 : decode cX5_takeNumber 16 = .ok (.getfield 28, 3) := by decide +kernel
theorem dX5_takeNumber_19 : decode cX5_takeNumber 19 = .ok (.iload_n 1, 1) := by decide +kernel
theorem dX5_takeNumber_20 : decode cX5_takeNumber 20 = .ok (.if_icmp .le 11, 3) := by decide +kernel
theorem dX5_takeNumber_23 : decode cX5_takeNumber 23 = .ok (.aload_n 0, 1) := by decide +kernel
theorem dX5_takeNumber_24 : decode cX5_takeNumber 24 = .ok (.iconst 3, 1) := by decide +kernel
theorem dX5_takeNumber_25 : decode cX5_takeNumber 25 = .ok (.invokevirtual 112, 3) := by decide +kernel
theorem dX5_takeNumber_28 : decode cX5_takeNumber 28 = .ok (.pop, 1) := by decide +kernel
theorem dX5_takeNumber_29 : decode cX5_takeNumber 29 = .ok (.iconst (-1), 1) := by decide +kernel
theorem dX5_takeNumber_30 : decode cX5_takeNumber 30 = .ok (.ireturn, 1) := by decide +kernel
theorem dX5_takeNumber_31 : decode cX5_takeNumber 31 = .ok (.aload_n 0, 1) := by decide +kernel
theorem dX5_takeNumber_32 : decode cX5_takeNumber 32 = .ok (.getfield 28, 3) := by decide +kernel
theorem dX5_takeNumber_35 : decode cX5_takeNumber 35 = .ok (.istore_n 2, 1) := by decide +kernel
theorem dX5_takeNumber_36 : decode cX5_takeNumber 36 = .ok (.aload_n 0, 1) := by decide +kernel
theorem dX5_takeNumber_37 : decode cX5_takeNumber 37 = .ok (.invokevirtual 73, 3) := by decide +kernel
theorem dX5_takeNumber_40 : decode cX5_takeNumber 40 = .ok (.iload_n 2, 1) := by decide +kernel
theorem dX5_takeNumber_41 : decode cX5_takeNumber 41 = .ok (.ireturn, 1) := by decide +kernel
theorem dX5_refuseToken_0 : decode cX5_refuseToken 0 = .ok (.aload_n 0, 1) := by decide +kernel
theorem dX5_refuseToken_1 : decode cX5_refuseToken 1 = .ok (.aload_n 0, 1) := by decide +kernel
theorem dX5_refuseToken_2 : decode cX5_refuseToken 2 = .ok (.getfield 25, 3) := by decide +kernel
theorem dX5_refuseToken_5 : decode cX5_refuseToken 5 = .ok (.iconst 1, 1) := by decide +kernel
theorem dX5_refuseToken_6 : decode cX5_refuseToken 6 = .ok (.if_icmp .ne 7, 3) := by decide +kernel
theorem dX5_refuseToken_9 : decode cX5_refuseToken 9 = .ok (.iconst 1, 1) := by decide +kernel
theorem dX5_refuseToken_10 : decode cX5_refuseToken 10 = .ok (.goto 4, 3) := by decide +kernel
theorem dX5_refuseToken_13 : decode cX5_refuseToken 13 = .ok (.iconst 2, 1) := by decide +kernel
theorem dX5_refuseToken_14 : decode cX5_refuseToken 14 = .ok (.invokevirtual 112, 3) := by decide +kernel
theorem dX5_refuseToken_17 : decode cX5_refuseToken 17 = .ok (.ireturn, 1) := by decide +kernel
theorem dX5_refuseAs_0 : decode cX5_refuseAs 0 = .ok (.aload_n 0, 1) := by decide +kernel
theorem dX5_refuseAs_1 : decode cX5_refuseAs 1 = .ok (.iload_n 1, 1) := by decide +kernel
theorem dX5_refuseAs_2 : decode cX5_refuseAs 2 = .ok (.putfield 58, 3) := by decide +kernel
theorem dX5_refuseAs_5 : decode cX5_refuseAs 5 = .ok (.aload_n 0, 1) := by decide +kernel
theorem dX5_refuseAs_6 : decode cX5_refuseAs 6 = .ok (.aload_n 0, 1) := by decide +kernel
theorem dX5_refuseAs_7 : decode cX5_refuseAs 7 = .ok (.getfield 22, 3) := by decide +kernel
theorem dX5_refuseAs_10 : decode cX5_refuseAs 10 = .ok (.putfield 61, 3) := by decide +kernel
theorem dX5_refuseAs_13 : decode cX5_refuseAs 13 = .ok (.iconst 0, 1) := by decide +kernel
theorem dX5_refuseAs_14 : decode cX5_refuseAs 14 = .ok (.ireturn, 1) := by decide +kernel
theorem dX5_next_0 : decode cX5_next 0 = .ok (.aload_n 0, 1) := by decide +kernel
theorem dX5_next_1 : decode cX5_next 1 = .ok (.getfield 19, 3) := by decide +kernel
theorem dX5_next_4 : decode cX5_next 4 = .ok (.aload_n 0, 1) := by decide +kernel
theorem dX5_next_5 : decode cX5_next 5 = .ok (.getfield 15, 3) := by decide +kernel
theorem dX5_next_8 : decode cX5_next 8 = .ok (.if_icmp .ge 42, 3) := by decide +kernel
theorem dX5_next_11 : decode cX5_next 11 = .ok (.aload_n 0, 1) := by decide +kernel
theorem dX5_next_12 : decode cX5_next 12 = .ok (.aload_n 0, 1) := by decide +kernel
theorem dX5_next_13 : decode cX5_next 13 = .ok (.getfield 19, 3) := by decide +kernel
theorem dX5_next_16 : decode cX5_next 16 = .ok (.invokevirtual 203, 3) := by decide +kernel
theorem dX5_next_19 : decode cX5_next 19 = .ok (.bipush 32, 2) := by decide +kernel
theorem dX5_next_21 : decode cX5_next 21 = .ok (.if_icmp .eq 16, 3) := by decide +kernel
theorem dX5_next_24 : decode cX5_next 24 = .ok (.aload_n 0, 1) := by decide +kernel
theorem dX5_next_25 : decode cX5_next 25 = .ok (.aload_n 0, 1) := by decide +kernel
theorem dX5_next_26 : decode cX5_next 26 = .ok (.getfield 19, 3) := by decide +kernel
theorem dX5_next_29 : decode cX5_next 29 = .ok (.invokevirtual 203, 3) := by decide +kernel
theorem dX5_next_32 : decode cX5_next 32 = .ok (.bipush 10, 2) := by decide +kernel
theorem dX5_next_34 : decode cX5_next 34 = .ok (.if_icmp .ne 16, 3) := by decide +kernel
theorem dX5_next_37 : decode cX5_next 37 = .ok (.aload_n 0, 1) := by decide +kernel
theorem dX5_next_38 : decode cX5_next 38 = .ok (.dup, 1) := by decide +kernel
theorem dX5_next_39 : decode cX5_next 39 = .ok (.getfield 19, 3) := by decide +kernel
theorem dX5_next_42 : decode cX5_next 42 = .ok (.iconst 1, 1) := by decide +kernel
theorem dX5_next_43 : decode cX5_next 43 = .ok (.iadd, 1) := by decide +kernel
theorem dX5_next_44 : decode cX5_next 44 = .ok (.putfield 19, 3) := by decide +kernel
theorem dX5_next_47 : decode cX5_next 47 = .ok (.goto (-47), 3) := by decide +kernel
theorem dX5_next_50 : decode cX5_next 50 = .ok (.aload_n 0, 1) := by decide +kernel
theorem dX5_next_51 : decode cX5_next 51 = .ok (.aload_n 0, 1) := by decide +kernel
theorem dX5_next_52 : decode cX5_next 52 = .ok (.getfield 19, 3) := by decide +kernel
theorem dX5_next_55 : decode cX5_next 55 = .ok (.putfield 22, 3) := by decide +kernel
theorem dX5_next_58 : decode cX5_next 58 = .ok (.aload_n 0, 1) := by decide +kernel
theorem dX5_next_59 : decode cX5_next 59 = .ok (.aload_n 0, 1) := by decide +kernel
theorem dX5_next_60 : decode cX5_next 60 = .ok (.getfield 19, 3) := by decide +kernel
theorem dX5_next_63 : decode cX5_next 63 = .ok (.invokevirtual 203, 3) := by decide +kernel
theorem dX5_next_66 : decode cX5_next 66 = .ok (.istore_n 1, 1) := by decide +kernel
theorem dX5_next_67 : decode cX5_next 67 = .ok (.aload_n 0, 1) := by decide +kernel
theorem dX5_next_68 : decode cX5_next 68 = .ok (.getfield 19, 3) := by decide +kernel
theorem dX5_next_71 : decode cX5_next 71 = .ok (.aload_n 0, 1) := by decide +kernel
theorem dX5_next_72 : decode cX5_next 72 = .ok (.getfield 15, 3) := by decide +kernel
theorem dX5_next_75 : decode cX5_next 75 = .ok (.if_icmp .lt 11, 3) := by decide +kernel
theorem dX5_next_78 : decode cX5_next 78 = .ok (.aload_n 0, 1) := by decide +kernel
theorem dX5_next_79 : decode cX5_next 79 = .ok (.iconst 0, 1) := by decide +kernel
theorem dX5_next_80 : decode cX5_next 80 = .ok (.putfield 25, 3) := by decide +kernel
theorem dX5_next_83 : decode cX5_next 83 = .ok (.goto 57, 3) := by decide +kernel
theorem dX5_next_86 : decode cX5_next 86 = .ok (.iload_n 1, 1) := by decide +kernel
theorem dX5_next_87 : decode cX5_next 87 = .ok (.invokestatic 206, 3) := by decide +kernel
theorem dX5_next_90 : decode cX5_next 90 = .ok (.ifCond .eq 10, 3) := by decide +kernel
theorem dX5_next_93 : decode cX5_next 93 = .ok (.aload_n 0, 1) := by decide +kernel
theorem dX5_next_94 : decode cX5_next 94 = .ok (.invokevirtual 209, 3) := by decide +kernel
theorem dX5_next_97 : decode cX5_next 97 = .ok (.goto 43, 3) := by decide +kernel
theorem dX5_next_100 : decode cX5_next 100 = .ok (.iload_n 1, 1) := by decide +kernel
theorem dX5_next_101 : decode cX5_next 101 = .ok (.invokestatic 212, 3) := by decide +kernel
theorem dX5_next_104 : decode cX5_next 104 = .ok (.ifCond .eq 10, 3) := by decide +kernel
theorem dX5_next_107 : decode cX5_next 107 = .ok (.aload_n 0, 1) := by decide +kernel
theorem dX5_next_108 : decode cX5_next 108 = .ok (.invokevirtual 215, 3) := by decide +kernel
theorem dX5_next_111 : decode cX5_next 111 = .ok (.goto 29, 3) := by decide +kernel
theorem dX5_next_114 : decode cX5_next 114 = .ok (.aload_n 0, 1) := by decide +kernel
theorem dX5_next_115 : decode cX5_next 115 = .ok (.iload_n 1, 1) := by decide +kernel
theorem dX5_next_116 : decode cX5_next 116 = .ok (.invokestatic 218, 3) := by decide +kernel
theorem dX5_next_119 : decode cX5_next 119 = .ok (.ifCond .eq 7, 3) := by decide +kernel
theorem dX5_next_122 : decode cX5_next 122 = .ok (.iload_n 1, 1) := by decide +kernel
theorem dX5_next_123 : decode cX5_next 123 = .ok (.goto 4, 3) := by decide +kernel
theorem dX5_next_126 : decode cX5_next 126 = .ok (.iconst 1, 1) := by decide +kernel
theorem dX5_next_127 : decode cX5_next 127 = .ok (.putfield 25, 3) := by decide +kernel
theorem dX5_next_130 : decode cX5_next 130 = .ok (.aload_n 0, 1) := by decide +kernel
theorem dX5_next_131 : decode cX5_next 131 = .ok (.dup, 1) := by decide +kernel
theorem dX5_next_132 : decode cX5_next 132 = .ok (.getfield 19, 3) := by decide +kernel
theorem dX5_next_135 : decode cX5_next 135 = .ok (.iconst 1, 1) := by decide +kernel
theorem dX5_next_136 : decode cX5_next 136 = .ok (.iadd, 1) := by decide +kernel
theorem dX5_next_137 : decode cX5_next 137 = .ok (.putfield 19, 3) := by decide +kernel
theorem dX5_next_140 : decode cX5_next 140 = .ok (.return_, 1) := by decide +kernel
theorem dX5_nextNumber_0 : decode cX5_nextNumber 0 = .ok (.iconst 0, 1) := by decide +kernel
theorem dX5_nextNumber_1 : decode cX5_nextNumber 1 = .ok (.istore_n 1, 1) := by decide +kernel
theorem dX5_nextNumber_2 : decode cX5_nextNumber 2 = .ok (.aload_n 0, 1) := by decide +kernel
theorem dX5_nextNumber_3 : decode cX5_nextNumber 3 = .ok (.getfield 19, 3) := by decide +kernel
theorem dX5_nextNumber_6 : decode cX5_nextNumber 6 = .ok (.aload_n 0, 1) := by decide +kernel
theorem dX5_nextNumber_7 : decode cX5_nextNumber 7 = .ok (.getfield 15, 3) := by decide +kernel
theorem dX5_nextNumber_10 : decode cX5_nextNumber 10 = .ok (.if_icmp .ge 52, 3) := by decide +kernel
theorem dX5_nextNumber_13 : decode cX5_nextNumber 13 = .ok (.aload_n 0, 1) := by decide +kernel
theorem dX5_nextNumber_14 : decode cX5_nextNumber 14 = .ok (.aload_n 0, 1) := by decide +kernel
theorem dX5_nextNumber_15 : decode cX5_nextNumber 15 = .ok (.getfield 19, 3) := by decide +kernel
theorem dX5_nextNumber_18 : decode cX5_nextNumber 18 = .ok (.invokevirtual 203, 3) := by decide +kernel
theorem dX5_nextNumber_21 : decode cX5_nextNumber 21 = .ok (.invokestatic 206, 3) := by decide +kernel
theorem dX5_nextNumber_24 : decode cX5_nextNumber 24 = .ok (.ifCond .eq 38, 3) := by decide +kernel
theorem dX5_nextNumber_27 : decode cX5_nextNumber 27 = .ok (.bipush 10, 2) := by decide +kernel
theorem dX5_nextNumber_29 : decode cX5_nextNumber 29 = .ok (.iload_n 1, 1) := by decide +kernel
theorem dX5_nextNumber_30 : decode cX5_nextNumber 30 = .ok (.imul, 1) := by decide +kernel
theorem dX5_nextNumber_31 : decode cX5_nextNumber 31 = .ok (.aload_n 0, 1) := by decide +kernel
theorem dX5_nextNumber_32 : decode cX5_nextNumber 32 = .ok (.aload_n 0, 1) := by decide +kernel
theorem dX5_nextNumber_33 : decode cX5_nextNumber 33 = .ok (.getfield 19, 3) := by decide +kernel
theorem dX5_nextNumber_36 : decode cX5_nextNumber 36 = .ok (.invokevirtual 203, 3) := by decide +kernel
theorem dX5_nextNumber_39 : decode cX5_nextNumber 39 = .ok (.iadd, 1) := by decide +kernel
theorem dX5_nextNumber_40 : decode cX5_nextNumber 40 = .ok (.bipush 48, 2) := by decide +kernel
theorem dX5_nextNumber_42 : decode cX5_nextNumber 42 = .ok (.isub, 1) := by decide +kernel
theorem dX5_nextNumber_43 : decode cX5_nextNumber 43 = .ok (.ldc 221, 2) := by decide +kernel
theorem dX5_nextNumber_45 : decode cX5_nextNumber 45 = .ok (.invokestatic 64, 3) := by decide +kernel
theorem dX5_nextNumber_48 : decode cX5_nextNumber 48 = .ok (.istore_n 1, 1) := by decide +kernel
theorem dX5_nextNumber_49 : decode cX5_nextNumber 49 = .ok (.aload_n 0, 1) := by decide +kernel
theorem dX5_nextNumber_50 : decode cX5_nextNumber 50 = .ok (.dup, 1) := by decide +kernel
theorem dX5_nextNumber_51 : decode cX5_nextNumber 51 = .ok (.getfield 19, 3) := by decide +kernel
theorem dX5_nextNumber_54 : decode cX5_nextNumber 54 = .ok (.iconst 1, 1) := by decide +kernel
theorem dX5_nextNumber_55 : decode cX5_nextNumber 55 = .ok (.iadd, 1) := by decide +kernel
theorem dX5_nextNumber_56 : decode cX5_nextNumber 56 = .ok (.putfield 19, 3) := by decide +kernel
theorem dX5_nextNumber_59 : decode cX5_nextNumber 59 = .ok (.goto (-57), 3) := by decide +kernel
theorem dX5_nextNumber_62 : decode cX5_nextNumber 62 = .ok (.aload_n 0, 1) := by decide +kernel
theorem dX5_nextNumber_63 : decode cX5_nextNumber 63 = .ok (.iload_n 1, 1) := by decide +kernel
theorem dX5_nextNumber_64 : decode cX5_nextNumber 64 = .ok (.putfield 28, 3) := by decide +kernel
theorem dX5_nextNumber_67 : decode cX5_nextNumber 67 = .ok (.aload_n 0, 1) := by decide +kernel
theorem dX5_nextNumber_68 : decode cX5_nextNumber 68 = .ok (.aload_n 0, 1) := by decide +kernel
theorem dX5_nextNumber_69 : decode cX5_nextNumber 69 = .ok (.getfield 19, 3) := by decide +kernel
theorem dX5_nextNumber_72 : decode cX5_nextNumber 72 = .ok (.aload_n 0, 1) := by decide +kernel
theorem dX5_nextNumber_73 : decode cX5_nextNumber 73 = .ok (.getfield 22, 3) := by decide +kernel
theorem dX5_nextNumber_76 : decode cX5_nextNumber 76 = .ok (.isub, 1) := by decide +kernel
theorem dX5_nextNumber_77 : decode cX5_nextNumber 77 = .ok (.iconst 3, 1) := by decide +kernel
theorem dX5_nextNumber_78 : decode cX5_nextNumber 78 = .ok (.if_icmp .le 7, 3) := by decide +kernel
theorem dX5_nextNumber_81 : decode cX5_nextNumber 81 = .ok (.iconst 1, 1) := by decide +kernel
theorem dX5_nextNumber_82 : decode cX5_nextNumber 82 = .ok (.goto 4, 3) := by decide +kernel
theorem dX5_nextNumber_85 : decode cX5_nextNumber 85 = .ok (.iconst 2, 1) := by decide +kernel
theorem dX5_nextNumber_86 : decode cX5_nextNumber 86 = .ok (.putfield 25, 3) := by decide +kernel
theorem dX5_nextNumber_89 : decode cX5_nextNumber 89 = .ok (.return_, 1) := by decide +kernel
theorem dX5_nextWord_0 : decode cX5_nextWord 0 = .ok (.aload_n 0, 1) := by decide +kernel
theorem dX5_nextWord_1 : decode cX5_nextWord 1 = .ok (.getfield 19, 3) := by decide +kernel
theorem dX5_nextWord_4 : decode cX5_nextWord 4 = .ok (.aload_n 0, 1) := by decide +kernel
theorem dX5_nextWord_5 : decode cX5_nextWord 5 = .ok (.getfield 15, 3) := by decide +kernel
theorem dX5_nextWord_8 : decode cX5_nextWord 8 = .ok (.if_icmp .ge 30, 3) := by decide +kernel
theorem dX5_nextWord_11 : decode cX5_nextWord 11 = .ok (.aload_n 0, 1) := by decide +kernel
theorem dX5_nextWord_12 : decode cX5_nextWord 12 = .ok (.aload_n 0, 1) := by decide +kernel
theorem dX5_nextWord_13 : decode cX5_nextWord 13 = .ok (.getfield 19, 3) := by decide +kernel
theorem dX5_nextWord_16 : decode cX5_nextWord 16 = .ok (.invokevirtual 203, 3) := by decide +kernel
theorem dX5_nextWord_19 : decode cX5_nextWord 19 = .ok (.invokestatic 212, 3) := by decide +kernel
theorem dX5_nextWord_22 : decode cX5_nextWord 22 = .ok (.ifCond .eq 16, 3) := by decide +kernel
theorem dX5_nextWord_25 : decode cX5_nextWord 25 = .ok (.aload_n 0, 1) := by decide +kernel
theorem dX5_nextWord_26 : decode cX5_nextWord 26 = .ok (.dup, 1) := by decide +kernel
theorem dX5_nextWord_27 : decode cX5_nextWord 27 = .ok (.getfield 19, 3) := by decide +kernel
theorem dX5_nextWord_30 : decode cX5_nextWord 30 = .ok (.iconst 1, 1) := by decide +kernel
theorem dX5_nextWord_31 : decode cX5_nextWord 31 = .ok (.iadd, 1) := by decide +kernel
theorem dX5_nextWord_32 : decode cX5_nextWord 32 = .ok (.putfield 19, 3) := by decide +kernel
theorem dX5_nextWord_35 : decode cX5_nextWord 35 = .ok (.goto (-35), 3) := by decide +kernel
theorem dX5_nextWord_38 : decode cX5_nextWord 38 = .ok (.aload_n 0, 1) := by decide +kernel
theorem dX5_nextWord_39 : decode cX5_nextWord 39 = .ok (.iconst 3, 1) := by decide +kernel
theorem dX5_nextWord_40 : decode cX5_nextWord 40 = .ok (.putfield 25, 3) := by decide +kernel
theorem dX5_nextWord_43 : decode cX5_nextWord 43 = .ok (.aload_n 0, 1) := by decide +kernel
theorem dX5_nextWord_44 : decode cX5_nextWord 44 = .ok (.getstatic 31, 3) := by decide +kernel
theorem dX5_nextWord_47 : decode cX5_nextWord 47 = .ok (.putfield 37, 3) := by decide +kernel
theorem dX5_nextWord_50 : decode cX5_nextWord 50 = .ok (.iconst 0, 1) := by decide +kernel
theorem dX5_nextWord_51 : decode cX5_nextWord 51 = .ok (.istore_n 1, 1) := by decide +kernel
theorem dX5_nextWord_52 : decode cX5_nextWord 52 = .ok (.iload_n 1, 1) := by decide +kernel
theorem dX5_nextWord_53 : decode cX5_nextWord 53 = .ok (.getstatic 222, 3) := by decide +kernel
theorem dX5_nextWord_56 : decode cX5_nextWord 56 = .ok (.arraylength, 1) := by decide +kernel
theorem dX5_nextWord_57 : decode cX5_nextWord 57 = .ok (.if_icmp .ge 33, 3) := by decide +kernel
theorem dX5_nextWord_60 : decode cX5_nextWord 60 = .ok (.aload_n 0, 1) := by decide +kernel
theorem dX5_nextWord_61 : decode cX5_nextWord 61 = .ok (.getstatic 222, 3) := by decide +kernel
theorem dX5_nextWord_64 : decode cX5_nextWord 64 = .ok (.iload_n 1, 1) := by decide +kernel
theorem dX5_nextWord_65 : decode cX5_nextWord 65 = .ok (.aaload, 1) := by decide +kernel
theorem dX5_nextWord_66 : decode cX5_nextWord 66 = .ok (.getfield 226, 3) := by decide +kernel
theorem dX5_nextWord_69 : decode cX5_nextWord 69 = .ok (.invokevirtual 230, 3) := by decide +kernel
theorem dX5_nextWord_72 : decode cX5_nextWord 72 = .ok (.ifCond .eq 12, 3) := by decide +kernel
theorem dX5_nextWord_75 : decode cX5_nextWord 75 = .ok (.aload_n 0, 1) := by decide +kernel
theorem dX5_nextWord_76 : decode cX5_nextWord 76 = .ok (.getstatic 222, 3) := by decide +kernel
theorem dX5_nextWord_79 : decode cX5_nextWord 79 = .ok (.iload_n 1, 1) := by decide +kernel
theorem dX5_nextWord_80 : decode cX5_nextWord 80 = .ok (.aaload, 1) := by decide +kernel
theorem dX5_nextWord_81 : decode cX5_nextWord 81 = .ok (.putfield 37, 3) := by decide +kernel
theorem dX5_nextWord_84 : decode cX5_nextWord 84 = .ok (.iinc 1 1, 3) := by decide +kernel
theorem dX5_nextWord_87 : decode cX5_nextWord 87 = .ok (.goto (-35), 3) := by decide +kernel
theorem dX5_nextWord_90 : decode cX5_nextWord 90 = .ok (.return_, 1) := by decide +kernel
theorem dX5_isSpelled_0 : decode cX5_isSpelled 0 = .ok (.aload_n 1, 1) := by decide +kernel
theorem dX5_isSpelled_1 : decode cX5_isSpelled 1 = .ok (.invokevirtual 234, 3) := by decide +kernel
theorem dX5_isSpelled_4 : decode cX5_isSpelled 4 = .ok (.aload_n 0, 1) := by decide +kernel
theorem dX5_isSpelled_5 : decode cX5_isSpelled 5 = .ok (.getfield 19, 3) := by decide +kernel
theorem dX5_isSpelled_8 : decode cX5_isSpelled 8 = .ok (.aload_n 0, 1) := by decide +kernel
theorem dX5_isSpelled_9 : decode cX5_isSpelled 9 = .ok (.getfield 22, 3) := by decide +kernel
theorem dX5_isSpelled_12 : decode cX5_isSpelled 12 = .ok (.isub, 1) := by decide +kernel
theorem dX5_isSpelled_13 : decode cX5_isSpelled 13 = .ok (.if_icmp .eq 5, 3) := by decide +kernel
theorem dX5_isSpelled_16 : decode cX5_isSpelled 16 = .ok (.iconst 0, 1) := by decide +kernel
theorem dX5_isSpelled_17 : decode cX5_isSpelled 17 = .ok (.ireturn, 1) := by decide +kernel
theorem dX5_isSpelled_18 : decode cX5_isSpelled 18 = .ok (.iconst 0, 1) := by decide +kernel
theorem dX5_isSpelled_19 : decode cX5_isSpelled 19 = .ok (.istore_n 2, 1) := by decide +kernel
theorem dX5_isSpelled_20 : decode cX5_isSpelled 20 = .ok (.iload_n 2, 1) := by decide +kernel
theorem dX5_isSpelled_21 : decode cX5_isSpelled 21 = .ok (.aload_n 1, 1) := by decide +kernel
theorem dX5_isSpelled_22 : decode cX5_isSpelled 22 = .ok (.invokevirtual 234, 3) := by decide +kernel
theorem dX5_isSpelled_25 : decode cX5_isSpelled 25 = .ok (.if_icmp .ge 45, 3) := by decide +kernel
theorem dX5_isSpelled_28 : decode cX5_isSpelled 28 = .ok (.aload_n 0, 1) := by decide +kernel
theorem dX5_isSpelled_29 : decode cX5_isSpelled 29 = .ok (.getfield 22, 3) := by decide +kernel
theorem dX5_isSpelled_32 : decode cX5_isSpelled 32 = .ok (.iload_n 2, 1) := by decide +kernel
theorem dX5_isSpelled_33 : decode cX5_isSpelled 33 = .ok (.iadd, 1) := by decide +kernel
theorem dX5_isSpelled_34 : decode cX5_isSpelled 34 = .ok (.istore_n 3, 1) := by decide +kernel
theorem dX5_isSpelled_35 : decode cX5_isSpelled 35 = .ok (.iload_n 3, 1) := by decide +kernel
theorem dX5_isSpelled_36 : decode cX5_isSpelled 36 = .ok (.ifCond .lt 26, 3) := by decide +kernel
theorem dX5_isSpelled_39 : decode cX5_isSpelled 39 = .ok (.iload_n 3, 1) := by decide +kernel
theorem dX5_isSpelled_40 : decode cX5_isSpelled 40 = .ok (.aload_n 0, 1) := by decide +kernel
theorem dX5_isSpelled_41 : decode cX5_isSpelled 41 = .ok (.getfield 9, 3) := by decide +kernel
theorem dX5_isSpelled_44 : decode cX5_isSpelled 44 = .ok (.arraylength, 1) := by decide +kernel
theorem dX5_isSpelled_45 : decode cX5_isSpelled 45 = .ok (.if_icmp .ge 17, 3) := by decide +kernel
theorem dX5_isSpelled_48 : decode cX5_isSpelled 48 = .ok (.aload_n 1, 1) := by decide +kernel
theorem dX5_isSpelled_49 : decode cX5_isSpelled 49 = .ok (.iload_n 2, 1) := by decide +kernel
theorem dX5_isSpelled_50 : decode cX5_isSpelled 50 = .ok (.invokevirtual 238, 3) := by decide +kernel
theorem dX5_isSpelled_53 : decode cX5_isSpelled 53 = .ok (.aload_n 0, 1) := by decide +kernel
theorem dX5_isSpelled_54 : decode cX5_isSpelled 54 = .ok (.getfield 9, 3) := by decide +kernel
theorem dX5_isSpelled_57 : decode cX5_isSpelled 57 = .ok (.iload_n 3, 1) := by decide +kernel
theorem dX5_isSpelled_58 : decode cX5_isSpelled 58 = .ok (.baload, 1) := by decide +kernel
theorem dX5_isSpelled_59 : decode cX5_isSpelled 59 = .ok (.if_icmp .eq 5, 3) := by decide +kernel
theorem dX5_isSpelled_62 : decode cX5_isSpelled 62 = .ok (.iconst 0, 1) := by decide +kernel
theorem dX5_isSpelled_63 : decode cX5_isSpelled 63 = .ok (.ireturn, 1) := by decide +kernel
theorem dX5_isSpelled_64 : decode cX5_isSpelled 64 = .ok (.iinc 2 1, 3) := by decide +kernel
theorem dX5_isSpelled_67 : decode cX5_isSpelled 67 = .ok (.goto (-47), 3) := by decide +kernel
theorem dX5_isSpelled_70 : decode cX5_isSpelled 70 = .ok (.iconst 1, 1) := by decide +kernel
theorem dX5_isSpelled_71 : decode cX5_isSpelled 71 = .ok (.ireturn, 1) := by decide +kernel
theorem dX5_byteAt_0 : decode cX5_byteAt 0 = .ok (.iload_n 1, 1) := by decide +kernel
theorem dX5_byteAt_1 : decode cX5_byteAt 1 = .ok (.ifCond .lt 33, 3) := by decide +kernel
theorem dX5_byteAt_4 : decode cX5_byteAt 4 = .ok (.iload_n 1, 1) := by decide +kernel
theorem dX5_byteAt_5 : decode cX5_byteAt 5 = .ok (.aload_n 0, 1) := by decide +kernel
theorem dX5_byteAt_6 : decode cX5_byteAt 6 = .ok (.getfield 15, 3) := by decide +kernel
theorem dX5_byteAt_9 : decode cX5_byteAt 9 = .ok (.if_icmp .ge 25, 3) := by decide +kernel
theorem dX5_byteAt_12 : decode cX5_byteAt 12 = .ok (.iload_n 1, 1) := by decide +kernel
theorem dX5_byteAt_13 : decode cX5_byteAt 13 = .ok (.aload_n 0, 1) := by decide +kernel
theorem dX5_byteAt_14 : decode cX5_byteAt 14 = .ok (.getfield 9, 3) := by decide +kernel
theorem dX5_byteAt_17 : decode cX5_byteAt 17 = .ok (.arraylength, 1) := by decide +kernel
theorem dX5_byteAt_18 : decode cX5_byteAt 18 = .ok (.if_icmp .ge 16, 3) := by decide +kernel
theorem dX5_byteAt_21 : decode cX5_byteAt 21 = .ok (.aload_n 0, 1) := by decide +kernel
theorem dX5_byteAt_22 : decode cX5_byteAt 22 = .ok (.getfield 9, 3) := by decide +kernel
theorem dX5_byteAt_25 : decode cX5_byteAt 25 = .ok (.iload_n 1, 1) := by decide +kernel
theorem dX5_byteAt_26 : decode cX5_byteAt 26 = .ok (.baload, 1) := by decide +kernel
theorem dX5_byteAt_27 : decode cX5_byteAt 27 = .ok (.sipush 255, 3) := by decide +kernel
theorem dX5_byteAt_30 : decode cX5_byteAt 30 = .ok (.iand, 1) := by decide +kernel
theorem dX5_byteAt_31 : decode cX5_byteAt 31 = .ok (.goto 4, 3) := by decide +kernel
theorem dX5_byteAt_34 : decode cX5_byteAt 34 = .ok (.iconst 0, 1) := by decide +kernel
theorem dX5_byteAt_35 : decode cX5_byteAt 35 = .ok (.ireturn, 1) := by decide +kernel
theorem dX5_isDigit_0 : decode cX5_isDigit 0 = .ok (.iload_n 0, 1) := by decide +kernel
theorem dX5_isDigit_1 : decode cX5_isDigit 1 = .ok (.bipush 48, 2) := by decide +kernel
theorem dX5_isDigit_3 : decode cX5_isDigit 3 = .ok (.if_icmp .lt 13, 3) := by decide +kernel
theorem dX5_isDigit_6 : decode cX5_isDigit 6 = .ok (.iload_n 0, 1) := by decide +kernel
theorem dX5_isDigit_7 : decode cX5_isDigit 7 = .ok (.bipush 57, 2) := by decide +kernel
theorem dX5_isDigit_9 : decode cX5_isDigit 9 = .ok (.if_icmp .gt 7, 3) := by decide +kernel
theorem dX5_isDigit_12 : decode cX5_isDigit 12 = .ok (.iconst 1, 1) := by decide +kernel
theorem dX5_isDigit_13 : decode cX5_isDigit 13 = .ok (.goto 4, 3) := by decide +kernel
theorem dX5_isDigit_16 : decode cX5_isDigit 16 = .ok (.iconst 0, 1) := by decide +kernel
theorem dX5_isDigit_17 : decode cX5_isDigit 17 = .ok (.ireturn, 1) := by decide +kernel
theorem dX5_isLetter_0 : decode cX5_isLetter 0 = .ok (.iload_n 0, 1) := by decide +kernel
theorem dX5_isLetter_1 : decode cX5_isLetter 1 = .ok (.bipush 97, 2) := by decide +kernel
theorem dX5_isLetter_3 : decode cX5_isLetter 3 = .ok (.if_icmp .lt 13, 3) := by decide +kernel
theorem dX5_isLetter_6 : decode cX5_isLetter 6 = .ok (.iload_n 0, 1) := by decide +kernel
theorem dX5_isLetter_7 : decode cX5_isLetter 7 = .ok (.bipush 122, 2) := by decide +kernel
theorem dX5_isLetter_9 : decode cX5_isLetter 9 = .ok (.if_icmp .gt 7, 3) := by decide +kernel
theorem dX5_isLetter_12 : decode cX5_isLetter 12 = .ok (.iconst 1, 1) := by decide +kernel
theorem dX5_isLetter_13 : decode cX5_isLetter 13 = .ok (.goto 4, 3) := by decide +kernel
theorem dX5_isLetter_16 : decode cX5_isLetter 16 = .ok (.iconst 0, 1) := by decide +kernel
theorem dX5_isLetter_17 : decode cX5_isLetter 17 = .ok (.ireturn, 1) := by decide +kernel
theorem dX5_isSign_0 : decode cX5_isSign 0 = .ok (.ldc 242, 2) := by decide +kernel
theorem dX5_isSign_2 : decode cX5_isSign 2 = .ok (.iload_n 0, 1) := by decide +kernel
theorem dX5_isSign_3 : decode cX5_isSign 3 = .ok (.i2c, 1) := by decide +kernel
theorem dX5_isSign_4 : decode cX5_isSign 4 = .ok (.invokevirtual 244, 3) := by decide +kernel
theorem dX5_isSign_7 : decode cX5_isSign 7 = .ok (.ifCond .lt 7, 3) := by decide +kernel
theorem dX5_isSign_10 : decode cX5_isSign 10 = .ok (.iconst 1, 1) := by decide +kernel
theorem dX5_isSign_11 : decode cX5_isSign 11 = .ok (.goto 4, 3) := by decide +kernel
theorem dX5_isSign_14 : decode cX5_isSign 14 = .ok (.iconst 0, 1) := by decide +kernel
theorem dX5_isSign_15 : decode cX5_isSign 15 = .ok (.ireturn, 1) := by decide +kernel
theorem dX6_init_0 : decode cX6_init 0 = .ok (.aload_n 0, 1) := by decide +kernel
theorem dX6_init_1 : decode cX6_init 1 = .ok (.invokespecial 3, 3) := by decide +kernel
theorem dX6_init_4 : decode cX6_init 4 = .ok (.aload_n 0, 1) := by decide +kernel
theorem dX6_init_5 : decode cX6_init 5 = .ok (.bipush 8, 2) := by decide +kernel
theorem dX6_init_7 : decode cX6_init 7 = .ok (.newarray .int, 2) := by decide +kernel
theorem dX6_init_9 : decode cX6_init 9 = .ok (.putfield 9, 3) := by decide +kernel
theorem dX6_init_12 : decode cX6_init 12 = .ok (.aload_n 0, 1) := by decide +kernel
theorem dX6_init_13 : decode cX6_init 13 = .ok (.bipush 64, 2) := by decide +kernel
theorem dX6_init_15 : decode cX6_init 15 = .ok (.newarray .int, 2) := by decide +kernel
theorem dX6_init_17 : decode cX6_init 17 = .ok (.putfield 15, 3) := by decide +kernel
theorem dX6_init_20 : decode cX6_init 20 = .ok (.return_, 1) := by decide +kernel
theorem dX6_view_0 : decode cX6_view 0 = .ok (.iconst 0, 1) := by decide +kernel
theorem dX6_view_1 : decode cX6_view 1 = .ok (.istore 4, 2) := by decide +kernel
theorem dX6_view_3 : decode cX6_view 3 = .ok (.iconst 0, 1) := by decide +kernel
theorem dX6_view_4 : decode cX6_view 4 = .ok (.istore 5, 2) := by decide +kernel
theorem dX6_view_6 : decode cX6_view 6 = .ok (.iconst 0, 1) := by decide +kernel
theorem dX6_view_7 : decode cX6_view 7 = .ok (.istore 6, 2) := by decide +kernel
theorem dX6_view_9 : decode cX6_view 9 = .ok (.iload 6, 2) := by decide +kernel
theorem dX6_view_11 : decode cX6_view 11 = .ok (.aload_n 1, 1) := by decide +kernel
theorem dX6_view_12 : decode cX6_view 12 = .ok (.getfield 18, 3) := by decide +kernel
theorem dX6_view_15 : decode cX6_view 15 = .ok (.if_icmp .ge 33, 3) := by decide +kernel
theorem dX6_view_18 : decode cX6_view 18 = .ok (.iload 4, 2) := by decide +kernel
theorem dX6_view_20 : decode cX6_view 20 = .ok (.aload_n 1, 1) := by decide +kernel
theorem dX6_view_21 : decode cX6_view 21 = .ok (.iload 6, 2) := by decide +kernel
theorem dX6_view_23 : decode cX6_view 23 = .ok (.aload_n 2, 1) := by decide +kernel
theorem dX6_view_24 : decode cX6_view 24 = .ok (.invokevirtual 24, 3) := by decide +kernel
theorem dX6_view_27 : decode cX6_view 27 = .ok (.iadd, 1) := by decide +kernel
theorem dX6_view_28 : decode cX6_view 28 = .ok (.istore 4, 2) := by decide +kernel
theorem dX6_view_30 : decode cX6_view 30 = .ok (.iload 5, 2) := by decide +kernel
theorem dX6_view_32 : decode cX6_view 32 = .ok (.aload_n 1, 1) := by decide +kernel
theorem dX6_view_33 : decode cX6_view 33 = .ok (.iload 6, 2) := by decide +kernel
theorem dX6_view_35 : decode cX6_view 35 = .ok (.aload_n 2, 1) := by decide +kernel
theorem dX6_view_36 : decode cX6_view 36 = .ok (.invokevirtual 28, 3) := by decide +kernel
theorem dX6_view_39 : decode cX6_view 39 = .ok (.iadd, 1) := by decide +kernel
theorem dX6_view_40 : decode cX6_view 40 = .ok (.istore 5, 2) := by decide +kernel
theorem dX6_view_42 : decode cX6_view 42 = .ok (.iinc 6 1, 3) := by decide +kernel
theorem dX6_view_45 : decode cX6_view 45 = .ok (.goto (-36), 3) := by decide +kernel
theorem dX6_view_48 : decode cX6_view 48 = .ok (.iconst 0, 1) := by decide +kernel
theorem dX6_view_49 : decode cX6_view 49 = .ok (.istore 6, 2) := by decide +kernel
theorem dX6_view_51 : decode cX6_view 51 = .ok (.iconst 0, 1) := by decide +kernel
theorem dX6_view_52 : decode cX6_view 52 = .ok (.istore 7, 2) := by decide +kernel
theorem dX6_view_54 : decode cX6_view 54 = .ok (.iload 7, 2) := by decide +kernel
theorem dX6_view_56 : decode cX6_view 56 = .ok (.iconst 2, 1) := by decide +kernel
theorem dX6_view_57 : decode cX6_view 57 = .ok (.aload_n 1, 1) := by decide +kernel
theorem dX6_view_58 : decode cX6_view 58 = .ok (.invokevirtual 31, 3) := by decide +kernel
theorem dX6_view_61 : decode cX6_view 61 = .ok (.imul, 1) := by decide +kernel
theorem dX6_view_62 : decode cX6_view 62 = .ok (.if_icmp .ge 25, 3) := by decide +kernel
theorem dX6_view_65 : decode cX6_view 65 = .ok (.iload 7, 2) := by decide +kernel
theorem dX6_view_67 : decode cX6_view 67 = .ok (.aload_n 2, 1) := by decide +kernel
theorem dX6_view_68 : decode cX6_view 68 = .ok (.arraylength, 1) := by decide +kernel
theorem dX6_view_69 : decode cX6_view 69 = .ok (.if_icmp .ge 18, 3) := by decide +kernel
theorem dX6_view_72 : decode cX6_view 72 = .ok (.iload 6, 2) := by decide +kernel
theorem dX6_view_74 : decode cX6_view 74 = .ok (.aload_n 2, 1) := by decide +kernel
theorem dX6_view_75 : decode cX6_view 75 = .ok (.iload 7, 2) := by decide +kernel
theorem dX6_view_77 : decode cX6_view 77 = .ok (.iaload, 1) := by decide +kernel
theorem dX6_view_78 : decode cX6_view 78 = .ok (.iadd, 1) := by decide +kernel
theorem dX6_view_79 : decode cX6_view 79 = .ok (.istore 6, 2) := by decide +kernel
theorem dX6_view_81 : decode cX6_view 81 = .ok (.iinc 7 1, 3) := by decide +kernel
theorem dX6_view_84 : decode cX6_view 84 = .ok (.goto (-30), 3) := by decide +kernel
theorem dX6_view_87 : decode cX6_view 87 = .ok (.aload_n 0, 1) := by decide +kernel
theorem dX6_view_88 : decode cX6_view 88 = .ok (.iconst 0, 1) := by decide +kernel
theorem dX6_view_89 : decode cX6_view 89 = .ok (.aload_n 1, 1) := by decide +kernel
theorem dX6_view_90 : decode cX6_view 90 = .ok (.getfield 18, 3) := by decide +kernel
theorem dX6_view_93 : decode cX6_view 93 = .ok (.invokevirtual 35, 3) := by decide +kernel
theorem dX6_view_96 : decode cX6_view 96 = .ok (.aload_n 0, 1) := by decide +kernel
theorem dX6_view_97 : decode cX6_view 97 = .ok (.iconst 1, 1) := by decide +kernel
theorem dX6_view_98 : decode cX6_view 98 = .ok (.aload_n 1, 1) := by decide +kernel
theorem dX6_view_99 : decode cX6_view 99 = .ok (.invokevirtual 39, 3) := by decide +kernel
theorem dX6_view_102 : decode cX6_view 102 = .ok (.invokevirtual 35, 3) := by decide +kernel
theorem dX6_view_105 : decode cX6_view 105 = .ok (.aload_n 0, 1) := by decide +kernel
theorem dX6_view_106 : decode cX6_view 106 = .ok (.iconst 2, 1) := by decide +kernel
theorem dX6_view_107 : decode cX6_view 107 = .ok (.iload_n 3, 1) := by decide +kernel
theorem dX6_view_108 : decode cX6_view 108 = .ok (.invokevirtual 35, 3) := by decide +kernel
theorem dX6_view_111 : decode cX6_view 111 = .ok (.aload_n 0, 1) := by decide +kernel
theorem dX6_view_112 : decode cX6_view 112 = .ok (.iconst 3, 1) := by decide +kernel
theorem dX6_view_113 : decode cX6_view 113 = .ok (.iload 4, 2) := by decide +kernel
theorem dX6_view_115 : decode cX6_view 115 = .ok (.invokevirtual 35, 3) := by decide +kernel
theorem dX6_view_118 : decode cX6_view 118 = .ok (.aload_n 0, 1) := by decide +kernel
theorem dX6_view_119 : decode cX6_view 119 = .ok (.iconst 4, 1) := by decide +kernel
theorem dX6_view_120 : decode cX6_view 120 = .ok (.iload 5, 2) := by decide +kernel
theorem dX6_view_122 : decode cX6_view 122 = .ok (.invokevirtual 35, 3) := by decide +kernel
theorem dX6_view_125 : decode cX6_view 125 = .ok (.aload_n 0, 1) := by decide +kernel
theorem dX6_view_126 : decode cX6_view 126 = .ok (.iconst 5, 1) := by decide +kernel
theorem dX6_view_127 : decode cX6_view 127 = .ok (.iload 6, 2) := by decide +kernel
theorem dX6_view_129 : decode cX6_view 129 = .ok (.iload 4, 2) := by decide +kernel
theorem dX6_view_131 : decode cX6_view 131 = .ok (.isub, 1) := by decide +kernel
theorem dX6_view_132 : decode cX6_view 132 = .ok (.iload 5, 2) := by decide +kernel
theorem dX6_view_134 : decode cX6_view 134 = .ok (.isub, 1) := by decide +kernel
theorem dX6_view_135 : decode cX6_view 135 = .ok (.invokevirtual 35, 3) := by decide +kernel
theorem dX6_view_138 : decode cX6_view 138 = .ok (.return_, 1) := by decide +kernel
theorem dX6_serve_0 : decode cX6_serve 0 = .ok (.aload_n 0, 1) := by decide +kernel
theorem dX6_serve_1 : decode cX6_serve 1 = .ok (.bipush 6, 2) := by decide +kernel
theorem dX6_serve_3 : decode cX6_serve 3 = .ok (.iload_n 1, 1) := by decide +kernel
theorem dX6_serve_4 : decode cX6_serve 4 = .ok (.invokevirtual 35, 3) := by decide +kernel
theorem dX6_serve_7 : decode cX6_serve 7 = .ok (.aload_n 0, 1) := by decide +kernel
theorem dX6_serve_8 : decode cX6_serve 8 = .ok (.bipush 7, 2) := by decide +kernel
theorem dX6_serve_10 : decode cX6_serve 10 = .ok (.iload_n 2, 1) := by decide +kernel
theorem dX6_serve_11 : decode cX6_serve 11 = .ok (.invokevirtual 35, 3) := by decide +kernel
theorem dX6_serve_14 : decode cX6_serve 14 = .ok (.return_, 1) := by decide +kernel
theorem dX6_put_0 : decode cX6_put 0 = .ok (.iload_n 1, 1) := by decide +kernel
theorem dX6_put_1 : decode cX6_put 1 = .ok (.ifCond .lt 19, 3) := by decide +kernel
theorem dX6_put_4 : decode cX6_put 4 = .ok (.iload_n 1, 1) := by decide +kernel
theorem dX6_put_5 : decode cX6_put 5 = .ok (.aload_n 0, 1) := by decide +kernel
theorem dX6_put_6 : decode cX6_put 6 = .ok (.getfield 9, 3) := by decide +kernel
theorem dX6_put_9 : decode cX6_put 9 = .ok (.arraylength, 1) := by decide +kernel
theorem dX6_put_10 : decode cX6_put 10 = .ok (.if_icmp .ge 10, 3) := by decide +kernel
theorem dX6_put_13 : decode cX6_put 13 = .ok (.aload_n 0, 1) := by decide +kernel
theorem dX6_put_14 : decode cX6_put 14 = .ok (.getfield 9, 3) := by decide +kernel
theorem dX6_put_17 : decode cX6_put 17 = .ok (.iload_n 1, 1) := by decide +kernel
theorem dX6_put_18 : decode cX6_put 18 = .ok (.iload_n 2, 1) := by decide +kernel
theorem dX6_put_19 : decode cX6_put 19 = .ok (.iastore, 1) := by decide +kernel
theorem dX6_put_20 : decode cX6_put 20 = .ok (.return_, 1) := by decide +kernel
theorem dX6_factAt_0 : decode cX6_factAt 0 = .ok (.iload_n 1, 1) := by decide +kernel
theorem dX6_factAt_1 : decode cX6_factAt 1 = .ok (.ifCond .lt 21, 3) := by decide +kernel
theorem dX6_factAt_4 : decode cX6_factAt 4 = .ok (.iload_n 1, 1) := by decide +kernel
theorem dX6_factAt_5 : decode cX6_factAt 5 = .ok (.aload_n 0, 1) := by decide +kernel
theorem dX6_factAt_6 : decode cX6_factAt 6 = .ok (.getfield 9, 3) := by decide +kernel
theorem dX6_factAt_9 : decode cX6_factAt 9 = .ok (.arraylength, 1) := by decide +kernel
theorem dX6_factAt_10 : decode cX6_factAt 10 = .ok (.if_icmp .ge 12, 3) := by decide +kernel
theorem dX6_factAt_13 : decode cX6_factAt 13 = .ok (.aload_n 0, 1) := by decide +kernel
theorem dX6_factAt_14 : decode cX6_factAt 14 = .ok (.getfield 9, 3) := by decide +kernel
theorem dX6_factAt_17 : decode cX6_factAt 17 = .ok (.iload_n 1, 1) := by decide +kernel
theorem dX6_factAt_18 : decode cX6_factAt 18 = .ok (.iaload, 1) := by decide +kernel
theorem dX6_factAt_19 : decode cX6_factAt 19 = .ok (.goto 4, 3) := by decide +kernel
theorem dX6_factAt_22 : decode cX6_factAt 22 = .ok (.iconst 0, 1) := by decide +kernel
theorem dX6_factAt_23 : decode cX6_factAt 23 = .ok (.ireturn, 1) := by decide +kernel
theorem dX6_weigh_0 : decode cX6_weigh 0 = .ok (.iconst 0, 1) := by decide +kernel
theorem dX6_weigh_1 : decode cX6_weigh 1 = .ok (.istore_n 2, 1) := by decide +kernel
theorem dX6_weigh_2 : decode cX6_weigh 2 = .ok (.iconst 0, 1) := by decide +kernel
theorem dX6_weigh_3 : decode cX6_weigh 3 = .ok (.istore_n 3, 1) := by decide +kernel
theorem dX6_weigh_4 : decode cX6_weigh 4 = .ok (.iload_n 3, 1) := by decide +kernel
theorem dX6_weigh_5 : decode cX6_weigh 5 = .ok (.aload_n 1, 1) := by decide +kernel
theorem dX6_weigh_6 : decode cX6_weigh 6 = .ok (.arraylength, 1) := by decide +kernel
theorem dX6_weigh_7 : decode cX6_weigh 7 = .ok (.if_icmp .ge 143, 3) := by decide +kernel
theorem dX6_weigh_10 : decode cX6_weigh 10 = .ok (.aload_n 1, 1) := by decide +kernel
theorem dX6_weigh_11 : decode cX6_weigh 11 = .ok (.iload_n 3, 1) := by decide +kernel
theorem dX6_weigh_12 : decode cX6_weigh 12 = .ok (.iaload, 1) := by decide +kernel
theorem dX6_weigh_13 : decode cX6_weigh 13 = .ok (.istore 4, 2) := by decide +kernel
theorem dX6_weigh_15 : decode cX6_weigh 15 = .ok (.iload 4, 2) := by decide +kernel
theorem dX6_weigh_17 : decode cX6_weigh 17 = .ok (.sipush 2000, 3) := by decide +kernel
theorem dX6_weigh_20 : decode cX6_weigh 20 = .ok (.if_icmp .ge 47, 3) := by decide +kernel
theorem dX6_weigh_23 : decode cX6_weigh 23 = .ok (.iload_n 2, 1) := by decide +kernel
theorem dX6_weigh_24 : decode cX6_weigh 24 = .ok (.aload_n 0, 1) := by decide +kernel
theorem dX6_weigh_25 : decode cX6_weigh 25 = .ok (.getfield 15, 3) := by decide +kernel
theorem dX6_weigh_28 : decode cX6_weigh 28 = .ok (.arraylength, 1) := by decide +kernel
theorem dX6_weigh_29 : decode cX6_weigh 29 = .ok (.if_icmp .ge 38, 3) := by decide +kernel
theorem dX6_weigh_32 : decode cX6_weigh 32 = .ok (.aload_n 0, 1) := by decide +kernel
theorem dX6_weigh_33 : decode cX6_weigh 33 = .ok (.getfield 15, 3) := by decide +kernel
theorem dX6_weigh_36 : decode cX6_weigh 36 = .ok (.iload_n 2, 1) := by decide +kernel
theorem dX6_weigh_37 : decode cX6_weigh 37 = .ok (.iload 4, 2) := by decide +kernel
theorem dX6_weigh_39 : decode cX6_weigh 39 = .ok (.sipush 1000, 3) := by decide +kernel
theorem dX6_weigh_42 : decode cX6_weigh 42 = .ok (.if_icmp .ge 8, 3) := by decide +kernel
theorem dX6_weigh_45 : decode cX6_weigh 45 = .ok (.iload 4, 2) := by decide +kernel
theorem dX6_weigh_47 : decode cX6_weigh 47 = .ok (.goto 13, 3) := by decide +kernel
theorem dX6_weigh_50 : decode cX6_weigh 50 = .ok (.aload_n 0, 1) := by decide +kernel
theorem dX6_weigh_51 : decode cX6_weigh 51 = .ok (.iload 4, 2) := by decide +kernel
theorem dX6_weigh_53 : decode cX6_weigh 53 = .ok (.sipush 1000, 3) := by decide +kernel
theorem dX6_weigh_56 : decode cX6_weigh 56 = .ok (.isub, 1) := by decide +kernel
theorem dX6_weigh_57 : decode cX6_weigh 57 = .ok (.invokevirtual 42, 3) := by decide +kernel
theorem dX6_weigh_60 : decode cX6_weigh 60 = .ok (.iastore, 1) := by decide +kernel
theorem dX6_weigh_61 : decode cX6_weigh 61 = .ok (.iinc 2 1, 3) := by decide +kernel
theorem dX6_weigh_64 : decode cX6_weigh 64 = .ok (.goto 80, 3) := by decide +kernel
theorem dX6_weigh_67 : decode cX6_weigh 67 = .ok (.iload 4, 2) := by decide +kernel
theorem dX6_weigh_69 : decode cX6_weigh 69 = .ok (.sipush 2000, 3) := by decide +kernel
theorem dX6_weigh_72 : decode cX6_weigh 72 = .ok (.if_icmp .ne 29, 3) := by decide +kernel
theorem dX6_weigh_75 : decode cX6_weigh 75 = .ok (.iload_n 2, 1) := by decide +kernel
theorem dX6_weigh_76 : decode cX6_weigh 76 = .ok (.iconst 1, 1) := by decide +kernel
theorem dX6_weigh_77 : decode cX6_weigh 77 = .ok (.if_icmp .lt 24, 3) := by decide +kernel
theorem dX6_weigh_80 : decode cX6_weigh 80 = .ok (.aload_n 0, 1) := by decide +kernel
theorem dX6_weigh_81 : decode cX6_weigh 81 = .ok (.getfield 15, 3) := by decide +kernel
theorem dX6_weigh_84 : decode cX6_weigh 84 = .ok (.iload_n 2, 1) := by decide +kernel
theorem dX6_weigh_85 : decode cX6_weigh 85 = .ok (.iconst 1, 1) := by decide +kernel
theorem dX6_weigh_86 : decode cX6_weigh 86 = .ok (.isub, 1) := by decide +kernel
theorem dX6_weigh_87 : decode cX6_weigh 87 = .ok (.iconst 1, 1) := by decide +kernel
theorem dX6_weigh_88 : decode cX6_weigh 88 = .ok (.aload_n 0, 1) := by decide +kernel
theorem dX6_weigh_89 : decode cX6_weigh 89 = .ok (.getfield 15, 3) := by decide +kernel
theorem dX6_weigh_92 : decode cX6_weigh 92 = .ok (.iload_n 2, 1) := by decide +kernel
theorem dX6_weigh_93 : decode cX6_weigh 93 = .ok (.iconst 1, 1) := by decide +kernel
theorem dX6_weigh_94 : decode cX6_weigh 94 = .ok (.isub, 1) := by decide +kernel
theorem dX6_weigh_95 : decode cX6_weigh 95 = .ok (.iaload, 1) := by decide +kernel
theorem dX6_weigh_96 : decode cX6_weigh 96 = .ok (.isub, 1) := by decide +kernel
theorem dX6_weigh_97 : decode cX6_weigh 97 = .ok (.iastore, 1) := by decide +kernel
theorem dX6_weigh_98 : decode cX6_weigh 98 = .ok (.goto 46, 3) := by decide +kernel
theorem dX6_weigh_101 : decode cX6_weigh 101 = .ok (.iload 4, 2) := by decide +kernel
theorem dX6_weigh_103 : decode cX6_weigh 103 = .ok (.sipush 2000, 3) := by decide +kernel
theorem dX6_weigh_106 : decode cX6_weigh 106 = .ok (.if_icmp .le 38, 3) := by decide +kernel
theorem dX6_weigh_109 : decode cX6_weigh 109 = .ok (.iload_n 2, 1) := by decide +kernel
theorem dX6_weigh_110 : decode cX6_weigh 110 = .ok (.iconst 2, 1) := by decide +kernel
theorem dX6_weigh_111 : decode cX6_weigh 111 = .ok (.if_icmp .lt 33, 3) := by decide +kernel
theorem dX6_weigh_114 : decode cX6_weigh 114 = .ok (.iinc 2 (-1), 3) := by decide +kernel
theorem dX6_weigh_117 : decode cX6_weigh 117 = .ok (.aload_n 0, 1) := by decide +kernel
theorem dX6_weigh_118 : decode cX6_weigh 118 = .ok (.getfield 15, 3) := by decide +kernel
theorem dX6_weigh_121 : decode cX6_weigh 121 = .ok (.iload_n 2, 1) := by decide +kernel
theorem dX6_weigh_122 : decode cX6_weigh 122 = .ok (.iconst 1, 1) := by decide +kernel
theorem dX6_weigh_123 : decode cX6_weigh 123 = .ok (.isub, 1) := by decide +kernel
theorem dX6_weigh_124 : decode cX6_weigh 124 = .ok (.iload 4, 2) := by decide +kernel
theorem dX6_weigh_126 : decode cX6_weigh 126 = .ok (.aload_n 0, 1) := by decide +kernel
theorem dX6_weigh_127 : decode cX6_weigh 127 = .ok (.getfield 15, 3) := by decide +kernel
theorem dX6_weigh_130 : decode cX6_weigh 130 = .ok (.iload_n 2, 1) := by decide +kernel
theorem dX6_weigh_131 : decode cX6_weigh 131 = .ok (.iconst 1, 1) := by decide +kernel
theorem dX6_weigh_132 : decode cX6_weigh 132 = .ok (.isub, 1) := by decide +kernel
theorem dX6_weigh_133 : decode cX6_weigh 133 = .ok (.iaload, 1) := by decide +kernel
theorem dX6_weigh_134 : decode cX6_weigh 134 = .ok (.aload_n 0, 1) := by decide +kernel
theorem dX6_weigh_135 : decode cX6_weigh 135 = .ok (.getfield 15, 3) := by decide +kernel
theorem dX6_weigh_138 : decode cX6_weigh 138 = .ok (.iload_n 2, 1) := by decide +kernel
theorem dX6_weigh_139 : decode cX6_weigh 139 = .ok (.iaload, 1) := by decide +kernel
theorem dX6_weigh_140 : decode cX6_weigh 140 = .ok (.invokestatic 46, 3) := by decide +kernel
theorem dX6_weigh_143 : decode cX6_weigh 143 = .ok (.iastore, 1) := by decide +kernel
theorem dX6_weigh_144 : decode cX6_weigh 144 = .ok (.iinc 3 1, 3) := by decide +kernel
theorem dX6_weigh_147 : decode cX6_weigh 147 = .ok (.goto (-143), 3) := by decide +kernel
theorem dX6_weigh_150 : decode cX6_weigh 150 = .ok (.iload_n 2, 1) := by decide +kernel
theorem dX6_weigh_151 : decode cX6_weigh 151 = .ok (.iconst 1, 1) := by decide +kernel
theorem dX6_weigh_152 : decode cX6_weigh 152 = .ok (.if_icmp .lt 14, 3) := by decide +kernel
theorem dX6_weigh_155 : decode cX6_weigh 155 = .ok (.aload_n 0, 1) := by decide +kernel
theorem dX6_weigh_156 : decode cX6_weigh 156 = .ok (.getfield 15, 3) := by decide +kernel
theorem dX6_weigh_159 : decode cX6_weigh 159 = .ok (.iload_n 2, 1) := by decide +kernel
theorem dX6_weigh_160 : decode cX6_weigh 160 = .ok (.iconst 1, 1) := by decide +kernel
theorem dX6_weigh_161 : decode cX6_weigh 161 = .ok (.isub, 1) := by decide +kernel
theorem dX6_weigh_162 : decode cX6_weigh 162 = .ok (.iaload, 1) := by decide +kernel
theorem dX6_weigh_163 : decode cX6_weigh 163 = .ok (.goto 4, 3) := by decide +kernel
theorem dX6_weigh_166 : decode cX6_weigh 166 = .ok (.iconst 0, 1) := by decide +kernel
theorem dX6_weigh_167 : decode cX6_weigh 167 = .ok (.ireturn, 1) := by decide +kernel
theorem dX6_join_0 : decode cX6_join 0 = .ok (.iload_n 0, 1) := by decide +kernel
theorem dX6_join_1 : decode cX6_join 1 = .ok (.tableswitch 114 2001 2007 #[43, 51, 59, 68, 77, 86, 100], 43) := by decide +kernel
theorem dX6_join_44 : decode cX6_join 44 = .ok (.iload_n 1, 1) := by decide +kernel
theorem dX6_join_45 : decode cX6_join 45 = .ok (.iload_n 2, 1) := by decide +kernel
theorem dX6_join_46 : decode cX6_join 46 = .ok (.iand, 1) := by decide +kernel
theorem dX6_join_47 : decode cX6_join 47 = .ok (.i2l, 1) := by decide +kernel
theorem dX6_join_48 : decode cX6_join 48 = .ok (.lstore_n 3, 1) := by decide +kernel
theorem dX6_join_49 : decode cX6_join 49 = .ok (.goto 77, 3) := by decide +kernel
theorem dX6_join_52 : decode cX6_join 52 = .ok (.iload_n 1, 1) := by decide +kernel
theorem dX6_join_53 : decode cX6_join 53 = .ok (.iload_n 2, 1) := by decide +kernel
theorem dX6_join_54 : decode cX6_join 54 = .ok (.ior, 1) := by decide +kernel
theorem dX6_join_55 : decode cX6_join 55 = .ok (.i2l, 1) := by decide +kernel
theorem dX6_join_56 : decode cX6_join 56 = .ok (.lstore_n 3, 1) := by decide +kernel
theorem dX6_join_57 : decode cX6_join 57 = .ok (.goto 69, 3) := by decide +kernel
theorem dX6_join_60 : decode cX6_join 60 = .ok (.iload_n 1, 1) := by decide +kernel
theorem dX6_join_61 : decode cX6_join 61 = .ok (.i2l, 1) := by decide +kernel
theorem dX6_join_62 : decode cX6_join 62 = .ok (.iload_n 2, 1) := by decide +kernel
theorem dX6_join_63 : decode cX6_join 63 = .ok (.i2l, 1) := by decide +kernel
theorem dX6_join_64 : decode cX6_join 64 = .ok (.ladd, 1) := by decide +kernel
theorem dX6_join_65 : decode cX6_join 65 = .ok (.lstore_n 3, 1) := by decide +kernel
theorem dX6_join_66 : decode cX6_join 66 = .ok (.goto 60, 3) := by decide +kernel
theorem dX6_join_69 : decode cX6_join 69 = .ok (.iload_n 1, 1) := by decide +kernel
theorem dX6_join_70 : decode cX6_join 70 = .ok (.i2l, 1) := by decide +kernel
theorem dX6_join_71 : decode cX6_join 71 = .ok (.iload_n 2, 1) := by decide +kernel
theorem dX6_join_72 : decode cX6_join 72 = .ok (.i2l, 1) := by decide +kernel
theorem dX6_join_73 : decode cX6_join 73 = .ok (.lsub, 1) := by decide +kernel
theorem dX6_join_74 : decode cX6_join 74 = .ok (.lstore_n 3, 1) := by decide +kernel
theorem dX6_join_75 : decode cX6_join 75 = .ok (.goto 51, 3) := by decide +kernel
theorem dX6_join_78 : decode cX6_join 78 = .ok (.iload_n 1, 1) := by decide +kernel
theorem dX6_join_79 : decode cX6_join 79 = .ok (.i2l, 1) := by decide +kernel
theorem dX6_join_80 : decode cX6_join 80 = .ok (.iload_n 2, 1) := by decide +kernel
theorem dX6_join_81 : decode cX6_join 81 = .ok (.i2l, 1) := by decide +kernel
theorem dX6_join_82 : decode cX6_join 82 = .ok (.lmul, 1) := by decide +kernel
theorem dX6_join_83 : decode cX6_join 83 = .ok (.lstore_n 3, 1) := by decide +kernel
theorem dX6_join_84 : decode cX6_join 84 = .ok (.goto 42, 3) := by decide +kernel
theorem dX6_join_87 : decode cX6_join 87 = .ok (.iload_n 1, 1) := by decide +kernel
theorem dX6_join_88 : decode cX6_join 88 = .ok (.iload_n 2, 1) := by decide +kernel
theorem dX6_join_89 : decode cX6_join 89 = .ok (.if_icmp .ne 7, 3) := by decide +kernel
theorem dX6_join_92 : decode cX6_join 92 = .ok (.lconst 1, 1) := by decide +kernel
theorem dX6_join_93 : decode cX6_join 93 = .ok (.goto 4, 3) := by decide +kernel
theorem dX6_join_96 : decode cX6_join 96 = .ok (.lconst 0, 1) := by decide +kernel
theorem dX6_join_97 : decode cX6_join 97 = .ok (.lstore_n 3, 1) := by decide +kernel
theorem dX6_join_98 : decode cX6_join 98 = .ok (.goto 28, 3) := by decide +kernel
theorem dX6_join_101 : decode cX6_join 101 = .ok (.iload_n 1, 1) := by decide +kernel
theorem dX6_join_102 : decode cX6_join 102 = .ok (.iload_n 2, 1) := by decide +kernel
theorem dX6_join_103 : decode cX6_join 103 = .ok (.if_icmp .ge 7, 3) := by decide +kernel
theorem dX6_join_106 : decode cX6_join 106 = .ok (.lconst 1, 1) := by decide +kernel
theorem dX6_join_107 : decode cX6_join 107 = .ok (.goto 4, 3) := by decide +kernel
theorem dX6_join_110 : decode cX6_join 110 = .ok (.lconst 0, 1) := by decide +kernel
theorem dX6_join_111 : decode cX6_join 111 = .ok (.lstore_n 3, 1) := by decide +kernel
theorem dX6_join_112 : decode cX6_join 112 = .ok (.goto 14, 3) := by decide +kernel
theorem dX6_join_115 : decode cX6_join 115 = .ok (.iload_n 1, 1) := by decide +kernel
theorem dX6_join_116 : decode cX6_join 116 = .ok (.iload_n 2, 1) := by decide +kernel
theorem dX6_join_117 : decode cX6_join 117 = .ok (.if_icmp .le 7, 3) := by decide +kernel
theorem dX6_join_120 : decode cX6_join 120 = .ok (.lconst 1, 1) := by decide +kernel
theorem dX6_join_121 : decode cX6_join 121 = .ok (.goto 4, 3) := by decide +kernel
theorem dX6_join_124 : decode cX6_join 124 = .ok (.lconst 0, 1) := by decide +kernel
theorem dX6_join_125 : decode cX6_join 125 = .ok (.lstore_n 3, 1) := by decide +kernel
theorem dX6_join_126 : decode cX6_join 126 = .ok (.ldc2_w 50, 3) := by decide +kernel
theorem dX6_join_129 : decode cX6_join 129 = .ok (.ldc2_w 52, 3) := by decide +kernel
theorem dX6_join_132 : decode cX6_join 132 = .ok (.lload_n 3, 1) := by decide +kernel
theorem dX6_join_133 : decode cX6_join 133 = .ok (.invokestatic 54, 3) := by decide +kernel
theorem dX6_join_136 : decode cX6_join 136 = .ok (.invokestatic 60, 3) := by decide +kernel
theorem dX6_join_139 : decode cX6_join 139 = .ok (.l2i, 1) := by decide +kernel
theorem dX6_join_140 : decode cX6_join 140 = .ok (.ireturn, 1) := by decide +kernel
theorem dX7_init_0 : decode cX7_init 0 = .ok (.aload_n 0, 1) := by decide +kernel
theorem dX7_init_1 : decode cX7_init 1 = .ok (.invokespecial 3, 3) := by decide +kernel
theorem dX7_init_4 : decode cX7_init 4 = .ok (.aload_n 0, 1) := by decide +kernel
theorem dX7_init_5 : decode cX7_init 5 = .ok (.new 9, 3) := by decide +kernel
theorem dX7_init_8 : decode cX7_init 8 = .ok (.dup, 1) := by decide +kernel
theorem dX7_init_9 : decode cX7_init 9 = .ok (.invokespecial 11, 3) := by decide +kernel
theorem dX7_init_12 : decode cX7_init 12 = .ok (.putfield 12, 3) := by decide +kernel
theorem dX7_init_15 : decode cX7_init 15 = .ok (.aload_n 0, 1) := by decide +kernel
theorem dX7_init_16 : decode cX7_init 16 = .ok (.new 18, 3) := by decide +kernel
theorem dX7_init_19 : decode cX7_init 19 = .ok (.dup, 1) := by decide +kernel
theorem dX7_init_20 : decode cX7_init 20 = .ok (.invokespecial 20, 3) := by decide +kernel
theorem dX7_init_23 : decode cX7_init 23 = .ok (.putfield 21, 3) := by decide +kernel
theorem dX7_init_26 : decode cX7_init 26 = .ok (.aload_n 0, 1) := by decide +kernel
theorem dX7_init_27 : decode cX7_init 27 = .ok (.bipush 10, 2) := by decide +kernel
theorem dX7_init_29 : decode cX7_init 29 = .ok (.anewarray 18, 3) := by decide +kernel
theorem dX7_init_32 : decode cX7_init 32 = .ok (.putfield 25, 3) := by decide +kernel
theorem dX7_init_35 : decode cX7_init 35 = .ok (.aload_n 0, 1) := by decide +kernel
theorem dX7_init_36 : decode cX7_init 36 = .ok (.iconst 0, 1) := by decide +kernel
theorem dX7_init_37 : decode cX7_init 37 = .ok (.putfield 29, 3) := by decide +kernel
theorem dX7_init_40 : decode cX7_init 40 = .ok (.aload_n 0, 1) := by decide +kernel
theorem dX7_init_41 : decode cX7_init 41 = .ok (.iconst 0, 1) := by decide +kernel
theorem dX7_init_42 : decode cX7_init 42 = .ok (.putfield 33, 3) := by decide +kernel
theorem dX7_init_45 : decode cX7_init 45 = .ok (.iconst 0, 1) := by decide +kernel
theorem dX7_init_46 : decode cX7_init 46 = .ok (.istore_n 1, 1) := by decide +kernel
theorem dX7_init_47 : decode cX7_init 47 = .ok (.iload_n 1, 1) := by decide +kernel
theorem dX7_init_48 : decode cX7_init 48 = .ok (.aload_n 0, 1) := by decide +kernel
theorem dX7_init_49 : decode cX7_init 49 = .ok (.getfield 25, 3) := by decide +kernel
theorem dX7_init_52 : decode cX7_init 52 = .ok (.arraylength, 1) := by decide +kernel
theorem dX7_init_53 : decode cX7_init 53 = .ok (.if_icmp .ge 22, 3) := by decide +kernel
theorem dX7_init_56 : decode cX7_init 56 = .ok (.aload_n 0, 1) := by decide +kernel
theorem dX7_init_57 : decode cX7_init 57 = .ok (.getfield 25, 3) := by decide +kernel
theorem dX7_init_60 : decode cX7_init 60 = .ok (.iload_n 1, 1) := by decide +kernel
theorem dX7_init_61 : decode cX7_init 61 = .ok (.new 18, 3) := by decide +kernel
theorem dX7_init_64 : decode cX7_init 64 = .ok (.dup, 1) := by decide +kernel
theorem dX7_init_65 : decode cX7_init 65 = .ok (.invokespecial 20, 3) := by decide +kernel
theorem dX7_init_68 : decode cX7_init 68 = .ok (.aastore, 1) := by decide +kernel
theorem dX7_init_69 : decode cX7_init 69 = .ok (.iinc 1 1, 3) := by decide +kernel
theorem dX7_init_72 : decode cX7_init 72 = .ok (.goto (-25), 3) := by decide +kernel
