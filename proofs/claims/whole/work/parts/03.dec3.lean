theorem dX12_napkin_8 : decode cX12_napkin 8 = .ok (.aload_n 0, 1) := by decide +kernel
theorem dX12_napkin_9 : decode cX12_napkin 9 = .ok (.getfield 80, 3) := by decide +kernel
theorem dX12_napkin_12 : decode cX12_napkin 12 = .ok (.i2l, 1) := by decide +kernel
theorem dX12_napkin_13 : decode cX12_napkin 13 = .ok (.invokestatic 138, 3) := by decide +kernel
theorem dX12_napkin_16 : decode cX12_napkin 16 = .ok (.ifCond .ne 9, 3) := by decide +kernel
theorem dX12_napkin_19 : decode cX12_napkin 19 = .ok (.aload_n 0, 1) := by decide +kernel
theorem dX12_napkin_20 : decode cX12_napkin 20 = .ok (.iconst 1, 1) := by decide +kernel
theorem dX12_napkin_21 : decode cX12_napkin 21 = .ok (.invokevirtual 244, 3) := by decide +kernel
theorem dX12_napkin_24 : decode cX12_napkin 24 = .ok (.ireturn, 1) := by decide +kernel
theorem dX12_napkin_25 : decode cX12_napkin 25 = .ok (.aload_n 0, 1) := by decide +kernel
theorem dX12_napkin_26 : decode cX12_napkin 26 = .ok (.iload_n 1, 1) := by decide +kernel
theorem dX12_napkin_27 : decode cX12_napkin 27 = .ok (.putfield 83, 3) := by decide +kernel
theorem dX12_napkin_30 : decode cX12_napkin 30 = .ok (.aload_n 0, 1) := by decide +kernel
theorem dX12_napkin_31 : decode cX12_napkin 31 = .ok (.iconst 0, 1) := by decide +kernel
theorem dX12_napkin_32 : decode cX12_napkin 32 = .ok (.putfield 80, 3) := by decide +kernel
theorem dX12_napkin_35 : decode cX12_napkin 35 = .ok (.aload_n 0, 1) := by decide +kernel
theorem dX12_napkin_36 : decode cX12_napkin 36 = .ok (.iconst 0, 1) := by decide +kernel
theorem dX12_napkin_37 : decode cX12_napkin 37 = .ok (.putfield 86, 3) := by decide +kernel
theorem dX12_napkin_40 : decode cX12_napkin 40 = .ok (.aload_n 0, 1) := by decide +kernel
theorem dX12_napkin_41 : decode cX12_napkin 41 = .ok (.iconst 0, 1) := by decide +kernel
theorem dX12_napkin_42 : decode cX12_napkin 42 = .ok (.putfield 112, 3) := by decide +kernel
theorem dX12_napkin_45 : decode cX12_napkin 45 = .ok (.aload_n 0, 1) := by decide +kernel
theorem dX12_napkin_46 : decode cX12_napkin 46 = .ok (.iconst 0, 1) := by decide +kernel
theorem dX12_napkin_47 : decode cX12_napkin 47 = .ok (.putfield 154, 3) := by decide +kernel
theorem dX12_napkin_50 : decode cX12_napkin 50 = .ok (.iconst 0, 1) := by decide +kernel
theorem dX12_napkin_51 : decode cX12_napkin 51 = .ok (.istore_n 2, 1) := by decide +kernel
theorem dX12_napkin_52 : decode cX12_napkin 52 = .ok (.iload_n 2, 1) := by decide +kernel
theorem dX12_napkin_53 : decode cX12_napkin 53 = .ok (.sipush 2912, 3) := by decide +kernel
theorem dX12_napkin_56 : decode cX12_napkin 56 = .ok (.if_icmp .ge 16, 3) := by decide +kernel
theorem dX12_napkin_59 : decode cX12_napkin 59 = .ok (.aload_n 0, 1) := by decide +kernel
theorem dX12_napkin_60 : decode cX12_napkin 60 = .ok (.getfield 13, 3) := by decide +kernel
theorem dX12_napkin_63 : decode cX12_napkin 63 = .ok (.iload_n 2, 1) := by decide +kernel
theorem dX12_napkin_64 : decode cX12_napkin 64 = .ok (.iconst 0, 1) := by decide +kernel
theorem dX12_napkin_65 : decode cX12_napkin 65 = .ok (.iastore, 1) := by decide +kernel
theorem dX12_napkin_66 : decode cX12_napkin 66 = .ok (.iinc 2 1, 3) := by decide +kernel
theorem dX12_napkin_69 : decode cX12_napkin 69 = .ok (.goto (-17), 3) := by decide +kernel
theorem dX12_napkin_72 : decode cX12_napkin 72 = .ok (.aload_n 0, 1) := by decide +kernel
theorem dX12_napkin_73 : decode cX12_napkin 73 = .ok (.invokevirtual 131, 3) := by decide +kernel
theorem dX12_napkin_76 : decode cX12_napkin 76 = .ok (.aload_n 0, 1) := by decide +kernel
theorem dX12_napkin_77 : decode cX12_napkin 77 = .ok (.getfield 112, 3) := by decide +kernel
theorem dX12_napkin_80 : decode cX12_napkin 80 = .ok (.ifCond .ne 17, 3) := by decide +kernel
theorem dX12_napkin_83 : decode cX12_napkin 83 = .ok (.aload_n 0, 1) := by decide +kernel
theorem dX12_napkin_84 : decode cX12_napkin 84 = .ok (.getfield 92, 3) := by decide +kernel
theorem dX12_napkin_87 : decode cX12_napkin 87 = .ok (.ifCond .eq 10, 3) := by decide +kernel
theorem dX12_napkin_90 : decode cX12_napkin 90 = .ok (.aload_n 0, 1) := by decide +kernel
theorem dX12_napkin_91 : decode cX12_napkin 91 = .ok (.invokevirtual 247, 3) := by decide +kernel
theorem dX12_napkin_94 : decode cX12_napkin 94 = .ok (.goto (-18), 3) := by decide +kernel
theorem dX12_napkin_97 : decode cX12_napkin 97 = .ok (.aload_n 0, 1) := by decide +kernel
theorem dX12_napkin_98 : decode cX12_napkin 98 = .ok (.aload_n 0, 1) := by decide +kernel
theorem dX12_napkin_99 : decode cX12_napkin 99 = .ok (.getfield 112, 3) := by decide +kernel
theorem dX12_napkin_102 : decode cX12_napkin 102 = .ok (.putfield 250, 3) := by decide +kernel
theorem dX12_napkin_105 : decode cX12_napkin 105 = .ok (.aload_n 0, 1) := by decide +kernel
theorem dX12_napkin_106 : decode cX12_napkin 106 = .ok (.aload_n 0, 1) := by decide +kernel
theorem dX12_napkin_107 : decode cX12_napkin 107 = .ok (.getfield 112, 3) := by decide +kernel
theorem dX12_napkin_110 : decode cX12_napkin 110 = .ok (.ifCond .ne 7, 3) := by decide +kernel
theorem dX12_napkin_113 : decode cX12_napkin 113 = .ok (.iconst (-1), 1) := by decide +kernel
theorem dX12_napkin_114 : decode cX12_napkin 114 = .ok (.goto 7, 3) := by decide +kernel
theorem dX12_napkin_117 : decode cX12_napkin 117 = .ok (.aload_n 0, 1) := by decide +kernel
theorem dX12_napkin_118 : decode cX12_napkin 118 = .ok (.getfield 115, 3) := by decide +kernel
theorem dX12_napkin_121 : decode cX12_napkin 121 = .ok (.putfield 26, 3) := by decide +kernel
theorem dX12_napkin_124 : decode cX12_napkin 124 = .ok (.aload_n 0, 1) := by decide +kernel
theorem dX12_napkin_125 : decode cX12_napkin 125 = .ok (.getfield 112, 3) := by decide +kernel
theorem dX12_napkin_128 : decode cX12_napkin 128 = .ok (.ifCond .eq 11, 3) := by decide +kernel
theorem dX12_napkin_131 : decode cX12_napkin 131 = .ok (.bipush (-10), 2) := by decide +kernel
theorem dX12_napkin_133 : decode cX12_napkin 133 = .ok (.aload_n 0, 1) := by decide +kernel
theorem dX12_napkin_134 : decode cX12_napkin 134 = .ok (.getfield 112, 3) := by decide +kernel
theorem dX12_napkin_137 : decode cX12_napkin 137 = .ok (.isub, 1) := by decide +kernel
theorem dX12_napkin_138 : decode cX12_napkin 138 = .ok (.ireturn, 1) := by decide +kernel
theorem dX12_napkin_139 : decode cX12_napkin 139 = .ok (.iconst 0, 1) := by decide +kernel
theorem dX12_napkin_140 : decode cX12_napkin 140 = .ok (.istore_n 2, 1) := by decide +kernel
theorem dX12_napkin_141 : decode cX12_napkin 141 = .ok (.iload_n 2, 1) := by decide +kernel
theorem dX12_napkin_142 : decode cX12_napkin 142 = .ok (.sipush 2912, 3) := by decide +kernel
theorem dX12_napkin_145 : decode cX12_napkin 145 = .ok (.if_icmp .ge 21, 3) := by decide +kernel
theorem dX12_napkin_148 : decode cX12_napkin 148 = .ok (.aload_n 0, 1) := by decide +kernel
theorem dX12_napkin_149 : decode cX12_napkin 149 = .ok (.getfield 9, 3) := by decide +kernel
theorem dX12_napkin_152 : decode cX12_napkin 152 = .ok (.iload_n 2, 1) := by decide +kernel
theorem dX12_napkin_153 : decode cX12_napkin 153 = .ok (.aload_n 0, 1) := by decide +kernel
theorem dX12_napkin_154 : decode cX12_napkin 154 = .ok (.getfield 13, 3) := by decide +kernel
theorem dX12_napkin_157 : decode cX12_napkin 157 = .ok (.iload_n 2, 1) := by decide +kernel
theorem dX12_napkin_158 : decode cX12_napkin 158 = .ok (.iaload, 1) := by decide +kernel
theorem dX12_napkin_159 : decode cX12_napkin 159 = .ok (.iastore, 1) := by decide +kernel
theorem dX12_napkin_160 : decode cX12_napkin 160 = .ok (.iinc 2 1, 3) := by decide +kernel
theorem dX12_napkin_163 : decode cX12_napkin 163 = .ok (.goto (-22), 3) := by decide +kernel
theorem dX12_napkin_166 : decode cX12_napkin 166 = .ok (.aload_n 0, 1) := by decide +kernel
theorem dX12_napkin_167 : decode cX12_napkin 167 = .ok (.getfield 9, 3) := by decide +kernel
theorem dX12_napkin_170 : decode cX12_napkin 170 = .ok (.iconst 0, 1) := by decide +kernel
theorem dX12_napkin_171 : decode cX12_napkin 171 = .ok (.iaload, 1) := by decide +kernel
theorem dX12_napkin_172 : decode cX12_napkin 172 = .ok (.ireturn, 1) := by decide +kernel
theorem dX12_fault_0 : decode cX12_fault 0 = .ok (.aload_n 0, 1) := by decide +kernel
theorem dX12_fault_1 : decode cX12_fault 1 = .ok (.iconst 0, 1) := by decide +kernel
theorem dX12_fault_2 : decode cX12_fault 2 = .ok (.putfield 77, 3) := by decide +kernel
theorem dX12_fault_5 : decode cX12_fault 5 = .ok (.iload_n 1, 1) := by decide +kernel
theorem dX12_fault_6 : decode cX12_fault 6 = .ok (.ifCond .ne 10, 3) := by decide +kernel
theorem dX12_fault_9 : decode cX12_fault 9 = .ok (.aload_n 0, 1) := by decide +kernel
theorem dX12_fault_10 : decode cX12_fault 10 = .ok (.getfield 250, 3) := by decide +kernel
theorem dX12_fault_13 : decode cX12_fault 13 = .ok (.goto 16, 3) := by decide +kernel
theorem dX12_fault_16 : decode cX12_fault 16 = .ok (.iload_n 1, 1) := by decide +kernel
theorem dX12_fault_17 : decode cX12_fault 17 = .ok (.iconst 1, 1) := by decide +kernel
theorem dX12_fault_18 : decode cX12_fault 18 = .ok (.if_icmp .ne 10, 3) := by decide +kernel
theorem dX12_fault_21 : decode cX12_fault 21 = .ok (.aload_n 0, 1) := by decide +kernel
theorem dX12_fault_22 : decode cX12_fault 22 = .ok (.getfield 26, 3) := by decide +kernel
theorem dX12_fault_25 : decode cX12_fault 25 = .ok (.goto 4, 3) := by decide +kernel
theorem dX12_fault_28 : decode cX12_fault 28 = .ok (.iconst (-1), 1) := by decide +kernel
theorem dX12_fault_29 : decode cX12_fault 29 = .ok (.ireturn, 1) := by decide +kernel
theorem dX12_cells_0 : decode cX12_cells 0 = .ok (.aload_n 0, 1) := by decide +kernel
theorem dX12_cells_1 : decode cX12_cells 1 = .ok (.getfield 9, 3) := by decide +kernel
theorem dX12_cells_4 : decode cX12_cells 4 = .ok (.iconst 1, 1) := by decide +kernel
theorem dX12_cells_5 : decode cX12_cells 5 = .ok (.iaload, 1) := by decide +kernel
theorem dX12_cells_6 : decode cX12_cells 6 = .ok (.ireturn, 1) := by decide +kernel
theorem dX12_isCell_0 : decode cX12_isCell 0 = .ok (.lload_n 1, 1) := by decide +kernel
theorem dX12_isCell_1 : decode cX12_isCell 1 = .ok (.lconst 0, 1) := by decide +kernel
theorem dX12_isCell_2 : decode cX12_isCell 2 = .ok (.aload_n 0, 1) := by decide +kernel
theorem dX12_isCell_3 : decode cX12_isCell 3 = .ok (.invokevirtual 253, 3) := by decide +kernel
theorem dX12_isCell_6 : decode cX12_isCell 6 = .ok (.iconst 1, 1) := by decide +kernel
theorem dX12_isCell_7 : decode cX12_isCell 7 = .ok (.isub, 1) := by decide +kernel
theorem dX12_isCell_8 : decode cX12_isCell 8 = .ok (.i2l, 1) := by decide +kernel
theorem dX12_isCell_9 : decode cX12_isCell 9 = .ok (.invokestatic 138, 3) := by decide +kernel
theorem dX12_isCell_12 : decode cX12_isCell 12 = .ok (.ireturn, 1) := by decide +kernel
theorem dX12_columnsAt_0 : decode cX12_columnsAt 0 = .ok (.aload_n 0, 1) := by decide +kernel
theorem dX12_columnsAt_1 : decode cX12_columnsAt 1 = .ok (.getfield 30, 3) := by decide +kernel
theorem dX12_columnsAt_4 : decode cX12_columnsAt 4 = .ok (.bipush 43, 2) := by decide +kernel
theorem dX12_columnsAt_6 : decode cX12_columnsAt 6 = .ok (.iload_n 1, 1) := by decide +kernel
theorem dX12_columnsAt_7 : decode cX12_columnsAt 7 = .ok (.imul, 1) := by decide +kernel
theorem dX12_columnsAt_8 : decode cX12_columnsAt 8 = .ok (.iaload, 1) := by decide +kernel
theorem dX12_columnsAt_9 : decode cX12_columnsAt 9 = .ok (.ireturn, 1) := by decide +kernel
theorem dX12_highAt_0 : decode cX12_highAt 0 = .ok (.aload_n 0, 1) := by decide +kernel
theorem dX12_highAt_1 : decode cX12_highAt 1 = .ok (.getfield 30, 3) := by decide +kernel
theorem dX12_highAt_4 : decode cX12_highAt 4 = .ok (.bipush 43, 2) := by decide +kernel
theorem dX12_highAt_6 : decode cX12_highAt 6 = .ok (.iload_n 1, 1) := by decide +kernel
theorem dX12_highAt_7 : decode cX12_highAt 7 = .ok (.imul, 1) := by decide +kernel
theorem dX12_highAt_8 : decode cX12_highAt 8 = .ok (.iconst 1, 1) := by decide +kernel
theorem dX12_highAt_9 : decode cX12_highAt 9 = .ok (.iadd, 1) := by decide +kernel
theorem dX12_highAt_10 : decode cX12_highAt 10 = .ok (.iload_n 2, 1) := by decide +kernel
theorem dX12_highAt_11 : decode cX12_highAt 11 = .ok (.iadd, 1) := by decide +kernel
theorem dX12_highAt_12 : decode cX12_highAt 12 = .ok (.iaload, 1) := by decide +kernel
theorem dX12_highAt_13 : decode cX12_highAt 13 = .ok (.ireturn, 1) := by decide +kernel
theorem dX12_layerAt_0 : decode cX12_layerAt 0 = .ok (.aload_n 0, 1) := by decide +kernel
theorem dX12_layerAt_1 : decode cX12_layerAt 1 = .ok (.getfield 30, 3) := by decide +kernel
theorem dX12_layerAt_4 : decode cX12_layerAt 4 = .ok (.bipush 43, 2) := by decide +kernel
theorem dX12_layerAt_6 : decode cX12_layerAt 6 = .ok (.iload_n 1, 1) := by decide +kernel
theorem dX12_layerAt_7 : decode cX12_layerAt 7 = .ok (.imul, 1) := by decide +kernel
theorem dX12_layerAt_8 : decode cX12_layerAt 8 = .ok (.bipush 7, 2) := by decide +kernel
theorem dX12_layerAt_10 : decode cX12_layerAt 10 = .ok (.iadd, 1) := by decide +kernel
theorem dX12_layerAt_11 : decode cX12_layerAt 11 = .ok (.bipush 6, 2) := by decide +kernel
theorem dX12_layerAt_13 : decode cX12_layerAt 13 = .ok (.iload_n 2, 1) := by decide +kernel
theorem dX12_layerAt_14 : decode cX12_layerAt 14 = .ok (.imul, 1) := by decide +kernel
theorem dX12_layerAt_15 : decode cX12_layerAt 15 = .ok (.iadd, 1) := by decide +kernel
theorem dX12_layerAt_16 : decode cX12_layerAt 16 = .ok (.iload_n 3, 1) := by decide +kernel
theorem dX12_layerAt_17 : decode cX12_layerAt 17 = .ok (.iadd, 1) := by decide +kernel
theorem dX12_layerAt_18 : decode cX12_layerAt 18 = .ok (.iaload, 1) := by decide +kernel
theorem dX12_layerAt_19 : decode cX12_layerAt 19 = .ok (.ireturn, 1) := by decide +kernel
theorem dX12_laysFlat_0 : decode cX12_laysFlat 0 = .ok (.aload_n 0, 1) := by decide +kernel
theorem dX12_laysFlat_1 : decode cX12_laysFlat 1 = .ok (.getfield 30, 3) := by decide +kernel
theorem dX12_laysFlat_4 : decode cX12_laysFlat 4 = .ok (.iconst 0, 1) := by decide +kernel
theorem dX12_laysFlat_5 : decode cX12_laysFlat 5 = .ok (.aload_n 0, 1) := by decide +kernel
theorem dX12_laysFlat_6 : decode cX12_laysFlat 6 = .ok (.invokevirtual 253, 3) := by decide +kernel
theorem dX12_laysFlat_9 : decode cX12_laysFlat 9 = .ok (.iastore, 1) := by decide +kernel
theorem dX12_laysFlat_10 : decode cX12_laysFlat 10 = .ok (.iconst 0, 1) := by decide +kernel
theorem dX12_laysFlat_11 : decode cX12_laysFlat 11 = .ok (.istore_n 1, 1) := by decide +kernel
theorem dX12_laysFlat_12 : decode cX12_laysFlat 12 = .ok (.iload_n 1, 1) := by decide +kernel
theorem dX12_laysFlat_13 : decode cX12_laysFlat 13 = .ok (.aload_n 0, 1) := by decide +kernel
theorem dX12_laysFlat_14 : decode cX12_laysFlat 14 = .ok (.invokevirtual 253, 3) := by decide +kernel
theorem dX12_laysFlat_17 : decode cX12_laysFlat 17 = .ok (.if_icmp .ge 35, 3) := by decide +kernel
theorem dX12_laysFlat_20 : decode cX12_laysFlat 20 = .ok (.aload_n 0, 1) := by decide +kernel
theorem dX12_laysFlat_21 : decode cX12_laysFlat 21 = .ok (.getfield 30, 3) := by decide +kernel
theorem dX12_laysFlat_24 : decode cX12_laysFlat 24 = .ok (.iconst 1, 1) := by decide +kernel
theorem dX12_laysFlat_25 : decode cX12_laysFlat 25 = .ok (.iload_n 1, 1) := by decide +kernel
theorem dX12_laysFlat_26 : decode cX12_laysFlat 26 = .ok (.iadd, 1) := by decide +kernel
theorem dX12_laysFlat_27 : decode cX12_laysFlat 27 = .ok (.iconst 1, 1) := by decide +kernel
theorem dX12_laysFlat_28 : decode cX12_laysFlat 28 = .ok (.iastore, 1) := by decide +kernel
theorem dX12_laysFlat_29 : decode cX12_laysFlat 29 = .ok (.aload_n 0, 1) := by decide +kernel
theorem dX12_laysFlat_30 : decode cX12_laysFlat 30 = .ok (.getfield 30, 3) := by decide +kernel
theorem dX12_laysFlat_33 : decode cX12_laysFlat 33 = .ok (.bipush 7, 2) := by decide +kernel
theorem dX12_laysFlat_35 : decode cX12_laysFlat 35 = .ok (.bipush 6, 2) := by decide +kernel
theorem dX12_laysFlat_37 : decode cX12_laysFlat 37 = .ok (.iload_n 1, 1) := by decide +kernel
theorem dX12_laysFlat_38 : decode cX12_laysFlat 38 = .ok (.imul, 1) := by decide +kernel
theorem dX12_laysFlat_39 : decode cX12_laysFlat 39 = .ok (.iadd, 1) := by decide +kernel
theorem dX12_laysFlat_40 : decode cX12_laysFlat 40 = .ok (.iconst 2, 1) := by decide +kernel
theorem dX12_laysFlat_41 : decode cX12_laysFlat 41 = .ok (.iload_n 1, 1) := by decide +kernel
theorem dX12_laysFlat_42 : decode cX12_laysFlat 42 = .ok (.imul, 1) := by decide +kernel
theorem dX12_laysFlat_43 : decode cX12_laysFlat 43 = .ok (.iconst 1, 1) := by decide +kernel
theorem dX12_laysFlat_44 : decode cX12_laysFlat 44 = .ok (.iadd, 1) := by decide +kernel
theorem dX12_laysFlat_45 : decode cX12_laysFlat 45 = .ok (.iastore, 1) := by decide +kernel
theorem dX12_laysFlat_46 : decode cX12_laysFlat 46 = .ok (.iinc 1 1, 3) := by decide +kernel
theorem dX12_laysFlat_49 : decode cX12_laysFlat 49 = .ok (.goto (-37), 3) := by decide +kernel
theorem dX12_laysFlat_52 : decode cX12_laysFlat 52 = .ok (.return_, 1) := by decide +kernel
theorem dX12_isFold_0 : decode cX12_isFold 0 = .ok (.lload_n 2, 1) := by decide +kernel
theorem dX12_isFold_1 : decode cX12_isFold 1 = .ok (.lconst 1, 1) := by decide +kernel
theorem dX12_isFold_2 : decode cX12_isFold 2 = .ok (.aload_n 0, 1) := by decide +kernel
theorem dX12_isFold_3 : decode cX12_isFold 3 = .ok (.iload_n 1, 1) := by decide +kernel
theorem dX12_isFold_4 : decode cX12_isFold 4 = .ok (.invokevirtual 256, 3) := by decide +kernel
theorem dX12_isFold_7 : decode cX12_isFold 7 = .ok (.iconst 1, 1) := by decide +kernel
theorem dX12_isFold_8 : decode cX12_isFold 8 = .ok (.isub, 1) := by decide +kernel
theorem dX12_isFold_9 : decode cX12_isFold 9 = .ok (.i2l, 1) := by decide +kernel
theorem dX12_isFold_10 : decode cX12_isFold 10 = .ok (.invokestatic 138, 3) := by decide +kernel
theorem dX12_isFold_13 : decode cX12_isFold 13 = .ok (.ifCond .eq 19, 3) := by decide +kernel
theorem dX12_isFold_16 : decode cX12_isFold 16 = .ok (.lload 4, 2) := by decide +kernel
theorem dX12_isFold_18 : decode cX12_isFold 18 = .ok (.lconst 0, 1) := by decide +kernel
theorem dX12_isFold_19 : decode cX12_isFold 19 = .ok (.ldc2_w 259, 3) := by decide +kernel
theorem dX12_isFold_22 : decode cX12_isFold 22 = .ok (.invokestatic 138, 3) := by decide +kernel
theorem dX12_isFold_25 : decode cX12_isFold 25 = .ok (.ifCond .eq 7, 3) := by decide +kernel
theorem dX12_isFold_28 : decode cX12_isFold 28 = .ok (.iconst 1, 1) := by decide +kernel
theorem dX12_isFold_29 : decode cX12_isFold 29 = .ok (.goto 4, 3) := by decide +kernel
theorem dX12_isFold_32 : decode cX12_isFold 32 = .ok (.iconst 0, 1) := by decide +kernel
theorem dX12_isFold_33 : decode cX12_isFold 33 = .ok (.ireturn, 1) := by decide +kernel
theorem dX12_puts_0 : decode cX12_puts 0 = .ok (.bipush 43, 2) := by decide +kernel
theorem dX12_puts_2 : decode cX12_puts 2 = .ok (.iload_n 1, 1) := by decide +kernel
theorem dX12_puts_3 : decode cX12_puts 3 = .ok (.iconst 1, 1) := by decide +kernel
theorem dX12_puts_4 : decode cX12_puts 4 = .ok (.iadd, 1) := by decide +kernel
theorem dX12_puts_5 : decode cX12_puts 5 = .ok (.imul, 1) := by decide +kernel
theorem dX12_puts_6 : decode cX12_puts 6 = .ok (.istore 5, 2) := by decide +kernel
theorem dX12_puts_8 : decode cX12_puts 8 = .ok (.aload_n 0, 1) := by decide +kernel
theorem dX12_puts_9 : decode cX12_puts 9 = .ok (.iload_n 1, 1) := by decide +kernel
theorem dX12_puts_10 : decode cX12_puts 10 = .ok (.iload_n 2, 1) := by decide +kernel
theorem dX12_puts_11 : decode cX12_puts 11 = .ok (.invokevirtual 261, 3) := by decide +kernel
theorem dX12_puts_14 : decode cX12_puts 14 = .ok (.istore 6, 2) := by decide +kernel
theorem dX12_puts_16 : decode cX12_puts 16 = .ok (.iconst 0, 1) := by decide +kernel
theorem dX12_puts_17 : decode cX12_puts 17 = .ok (.istore 7, 2) := by decide +kernel
theorem dX12_puts_19 : decode cX12_puts 19 = .ok (.iload 7, 2) := by decide +kernel
theorem dX12_puts_21 : decode cX12_puts 21 = .ok (.iload 6, 2) := by decide +kernel
theorem dX12_puts_23 : decode cX12_puts 23 = .ok (.if_icmp .ge 88, 3) := by decide +kernel
theorem dX12_puts_26 : decode cX12_puts 26 = .ok (.iload_n 3, 1) := by decide +kernel
theorem dX12_puts_27 : decode cX12_puts 27 = .ok (.ifCond .eq 21, 3) := by decide +kernel
theorem dX12_puts_30 : decode cX12_puts 30 = .ok (.aload_n 0, 1) := by decide +kernel
theorem dX12_puts_31 : decode cX12_puts 31 = .ok (.iload_n 1, 1) := by decide +kernel
theorem dX12_puts_32 : decode cX12_puts 32 = .ok (.iload_n 2, 1) := by decide +kernel
theorem dX12_puts_33 : decode cX12_puts 33 = .ok (.iload 6, 2) := by decide +kernel
theorem dX12_puts_35 : decode cX12_puts 35 = .ok (.iconst 1, 1) := by decide +kernel
theorem dX12_puts_36 : decode cX12_puts 36 = .ok (.isub, 1) := by decide +kernel
theorem dX12_puts_37 : decode cX12_puts 37 = .ok (.iload 7, 2) := by decide +kernel
theorem dX12_puts_39 : decode cX12_puts 39 = .ok (.isub, 1) := by decide +kernel
theorem dX12_puts_40 : decode cX12_puts 40 = .ok (.invokevirtual 264, 3) := by decide +kernel
theorem dX12_puts_43 : decode cX12_puts 43 = .ok (.iconst 1, 1) := by decide +kernel
theorem dX12_puts_44 : decode cX12_puts 44 = .ok (.ixor, 1) := by decide +kernel
theorem dX12_puts_45 : decode cX12_puts 45 = .ok (.goto 11, 3) := by decide +kernel
theorem dX12_puts_48 : decode cX12_puts 48 = .ok (.aload_n 0, 1) := by decide +kernel
theorem dX12_puts_49 : decode cX12_puts 49 = .ok (.iload_n 1, 1) := by decide +kernel
theorem dX12_puts_50 : decode cX12_puts 50 = .ok (.iload_n 2, 1) := by decide +kernel
theorem dX12_puts_51 : decode cX12_puts 51 = .ok (.iload 7, 2) := by decide +kernel
theorem dX12_puts_53 : decode cX12_puts 53 = .ok (.invokevirtual 264, 3) := by decide +kernel
theorem dX12_puts_56 : decode cX12_puts 56 = .ok (.istore 8, 2) := by decide +kernel
theorem dX12_puts_58 : decode cX12_puts 58 = .ok (.aload_n 0, 1) := by decide +kernel
theorem dX12_puts_59 : decode cX12_puts 59 = .ok (.getfield 30, 3) := by decide +kernel
theorem dX12_puts_62 : decode cX12_puts 62 = .ok (.iload 5, 2) := by decide +kernel
theorem dX12_puts_64 : decode cX12_puts 64 = .ok (.bipush 7, 2) := by decide +kernel
theorem dX12_puts_66 : decode cX12_puts 66 = .ok (.iadd, 1) := by decide +kernel
theorem dX12_puts_67 : decode cX12_puts 67 = .ok (.bipush 6, 2) := by decide +kernel
theorem dX12_puts_69 : decode cX12_puts 69 = .ok (.iload 4, 2) := by decide +kernel
theorem dX12_puts_71 : decode cX12_puts 71 = .ok (.imul, 1) := by decide +kernel
theorem dX12_puts_72 : decode cX12_puts 72 = .ok (.iadd, 1) := by decide +kernel
theorem dX12_puts_73 : decode cX12_puts 73 = .ok (.aload_n 0, 1) := by decide +kernel
theorem dX12_puts_74 : decode cX12_puts 74 = .ok (.getfield 30, 3) := by decide +kernel
theorem dX12_puts_77 : decode cX12_puts 77 = .ok (.iload 5, 2) := by decide +kernel
theorem dX12_puts_79 : decode cX12_puts 79 = .ok (.iconst 1, 1) := by decide +kernel
theorem dX12_puts_80 : decode cX12_puts 80 = .ok (.iadd, 1) := by decide +kernel
theorem dX12_puts_81 : decode cX12_puts 81 = .ok (.iload 4, 2) := by decide +kernel
theorem dX12_puts_83 : decode cX12_puts 83 = .ok (.iadd, 1) := by decide +kernel
theorem dX12_puts_84 : decode cX12_puts 84 = .ok (.iaload, 1) := by decide +kernel
theorem dX12_puts_85 : decode cX12_puts 85 = .ok (.iadd, 1) := by decide +kernel
theorem dX12_puts_86 : decode cX12_puts 86 = .ok (.iload 8, 2) := by decide +kernel
theorem dX12_puts_88 : decode cX12_puts 88 = .ok (.iastore, 1) := by decide +kernel
theorem dX12_puts_89 : decode cX12_puts 89 = .ok (.aload_n 0, 1) := by decide +kernel
theorem dX12_puts_90 : decode cX12_puts 90 = .ok (.getfield 30, 3) := by decide +kernel
theorem dX12_puts_93 : decode cX12_puts 93 = .ok (.iload 5, 2) := by decide +kernel
theorem dX12_puts_95 : decode cX12_puts 95 = .ok (.iconst 1, 1) := by decide +kernel
theorem dX12_puts_96 : decode cX12_puts 96 = .ok (.iadd, 1) := by decide +kernel
theorem dX12_puts_97 : decode cX12_puts 97 = .ok (.iload 4, 2) := by decide +kernel
theorem dX12_puts_99 : decode cX12_puts 99 = .ok (.iadd, 1) := by decide +kernel
theorem dX12_puts_100 : decode cX12_puts 100 = .ok (.dup2, 1) := by decide +kernel
theorem dX12_puts_101 : decode cX12_puts 101 = .ok (.iaload, 1) := by decide +kernel
theorem dX12_puts_102 : decode cX12_puts 102 = .ok (.iconst 1, 1) := by decide +kernel
theorem dX12_puts_103 : decode cX12_puts 103 = .ok (.iadd, 1) := by decide +kernel
theorem dX12_puts_104 : decode cX12_puts 104 = .ok (.iastore, 1) := by decide +kernel
theorem dX12_puts_105 : decode cX12_puts 105 = .ok (.iinc 7 1, 3) := by decide +kernel
theorem dX12_puts_108 : decode cX12_puts 108 = .ok (.goto (-89), 3) := by decide +kernel
theorem dX12_puts_111 : decode cX12_puts 111 = .ok (.return_, 1) := by decide +kernel
theorem dX12_folds_0 : decode cX12_folds 0 = .ok (.aload_n 0, 1) := by decide +kernel
theorem dX12_folds_1 : decode cX12_folds 1 = .ok (.iload_n 1, 1) := by decide +kernel
theorem dX12_folds_2 : decode cX12_folds 2 = .ok (.invokevirtual 256, 3) := by decide +kernel
theorem dX12_folds_5 : decode cX12_folds 5 = .ok (.istore 4, 2) := by decide +kernel
theorem dX12_folds_7 : decode cX12_folds 7 = .ok (.iload_n 2, 1) := by decide +kernel
theorem dX12_folds_8 : decode cX12_folds 8 = .ok (.iload 4, 2) := by decide +kernel
theorem dX12_folds_10 : decode cX12_folds 10 = .ok (.iload_n 2, 1) := by decide +kernel
theorem dX12_folds_11 : decode cX12_folds 11 = .ok (.isub, 1) := by decide +kernel
theorem dX12_folds_12 : decode cX12_folds 12 = .ok (.invokestatic 268, 3) := by decide +kernel
theorem dX12_folds_15 : decode cX12_folds 15 = .ok (.istore 5, 2) := by decide +kernel
theorem dX12_folds_17 : decode cX12_folds 17 = .ok (.iload_n 3, 1) := by decide +kernel
theorem dX12_folds_18 : decode cX12_folds 18 = .ok (.iconst 2, 1) := by decide +kernel
theorem dX12_folds_19 : decode cX12_folds 19 = .ok (.if_icmp .ge 7, 3) := by decide +kernel
theorem dX12_folds_22 : decode cX12_folds 22 = .ok (.iconst 1, 1) := by decide +kernel
theorem dX12_folds_23 : decode cX12_folds 23 = .ok (.goto 4, 3) := by decide +kernel
theorem dX12_folds_26 : decode cX12_folds 26 = .ok (.iconst 0, 1) := by decide +kernel
theorem dX12_folds_27 : decode cX12_folds 27 = .ok (.istore 6, 2) := by decide +kernel
theorem dX12_folds_29 : decode cX12_folds 29 = .ok (.iload_n 3, 1) := by decide +kernel
theorem dX12_folds_30 : decode cX12_folds 30 = .ok (.iconst 2, 1) := by decide +kernel
theorem dX12_folds_31 : decode cX12_folds 31 = .ok (.irem, 1) := by decide +kernel
theorem dX12_folds_32 : decode cX12_folds 32 = .ok (.iconst 1, 1) := by decide +kernel
theorem dX12_folds_33 : decode cX12_folds 33 = .ok (.if_icmp .ne 7, 3) := by decide +kernel
theorem dX12_folds_36 : decode cX12_folds 36 = .ok (.iconst 1, 1) := by decide +kernel
theorem dX12_folds_37 : decode cX12_folds 37 = .ok (.goto 4, 3) := by decide +kernel
theorem dX12_folds_40 : decode cX12_folds 40 = .ok (.iconst 0, 1) := by decide +kernel
theorem dX12_folds_41 : decode cX12_folds 41 = .ok (.istore 7, 2) := by decide +kernel
theorem dX12_folds_43 : decode cX12_folds 43 = .ok (.aload_n 0, 1) := by decide +kernel
theorem dX12_folds_44 : decode cX12_folds 44 = .ok (.getfield 30, 3) := by decide +kernel
theorem dX12_folds_47 : decode cX12_folds 47 = .ok (.bipush 43, 2) := by decide +kernel
theorem dX12_folds_49 : decode cX12_folds 49 = .ok (.iload_n 1, 1) := by decide +kernel
theorem dX12_folds_50 : decode cX12_folds 50 = .ok (.iconst 1, 1) := by decide +kernel
theorem dX12_folds_51 : decode cX12_folds 51 = .ok (.iadd, 1) := by decide +kernel
theorem dX12_folds_52 : decode cX12_folds 52 = .ok (.imul, 1) := by decide +kernel
theorem dX12_folds_53 : decode cX12_folds 53 = .ok (.iload 5, 2) := by decide +kernel
theorem dX12_folds_55 : decode cX12_folds 55 = .ok (.iastore, 1) := by decide +kernel
theorem dX12_folds_56 : decode cX12_folds 56 = .ok (.iconst 0, 1) := by decide +kernel
theorem dX12_folds_57 : decode cX12_folds 57 = .ok (.istore 8, 2) := by decide +kernel
theorem dX12_folds_59 : decode cX12_folds 59 = .ok (.iload 8, 2) := by decide +kernel
theorem dX12_folds_61 : decode cX12_folds 61 = .ok (.iload 5, 2) := by decide +kernel
theorem dX12_folds_63 : decode cX12_folds 63 = .ok (.if_icmp .ge 170, 3) := by decide +kernel
theorem dX12_folds_66 : decode cX12_folds 66 = .ok (.aload_n 0, 1) := by decide +kernel
theorem dX12_folds_67 : decode cX12_folds 67 = .ok (.getfield 30, 3) := by decide +kernel
theorem dX12_folds_70 : decode cX12_folds 70 = .ok (.bipush 43, 2) := by decide +kernel
theorem dX12_folds_72 : decode cX12_folds 72 = .ok (.iload_n 1, 1) := by decide +kernel
theorem dX12_folds_73 : decode cX12_folds 73 = .ok (.iconst 1, 1) := by decide +kernel
theorem dX12_folds_74 : decode cX12_folds 74 = .ok (.iadd, 1) := by decide +kernel
theorem dX12_folds_75 : decode cX12_folds 75 = .ok (.imul, 1) := by decide +kernel
theorem dX12_folds_76 : decode cX12_folds 76 = .ok (.iconst 1, 1) := by decide +kernel
theorem dX12_folds_77 : decode cX12_folds 77 = .ok (.iadd, 1) := by decide +kernel
theorem dX12_folds_78 : decode cX12_folds 78 = .ok (.iload 8, 2) := by decide +kernel
theorem dX12_folds_80 : decode cX12_folds 80 = .ok (.iadd, 1) := by decide +kernel
theorem dX12_folds_81 : decode cX12_folds 81 = .ok (.iconst 0, 1) := by decide +kernel
theorem dX12_folds_82 : decode cX12_folds 82 = .ok (.iastore, 1) := by decide +kernel
theorem dX12_folds_83 : decode cX12_folds 83 = .ok (.iload 6, 2) := by decide +kernel
theorem dX12_folds_85 : decode cX12_folds 85 = .ok (.ifCond .eq 8, 3) := by decide +kernel
theorem dX12_folds_88 : decode cX12_folds 88 = .ok (.iload 8, 2) := by decide +kernel
theorem dX12_folds_90 : decode cX12_folds 90 = .ok (.goto 10, 3) := by decide +kernel
theorem dX12_folds_93 : decode cX12_folds 93 = .ok (.iload 5, 2) := by decide +kernel
theorem dX12_folds_95 : decode cX12_folds 95 = .ok (.iconst 1, 1) := by decide +kernel
theorem dX12_folds_96 : decode cX12_folds 96 = .ok (.isub, 1) := by decide +kernel
theorem dX12_folds_97 : decode cX12_folds 97 = .ok (.iload 8, 2) := by decide +kernel
theorem dX12_folds_99 : decode cX12_folds 99 = .ok (.isub, 1) := by decide +kernel
theorem dX12_folds_100 : decode cX12_folds 100 = .ok (.istore 9, 2) := by decide +kernel
theorem dX12_folds_102 : decode cX12_folds 102 = .ok (.iload 6, 2) := by decide +kernel
theorem dX12_folds_104 : decode cX12_folds 104 = .ok (.ifCond .eq 12, 3) := by decide +kernel
theorem dX12_folds_107 : decode cX12_folds 107 = .ok (.iload_n 2, 1) := by decide +kernel
theorem dX12_folds_108 : decode cX12_folds 108 = .ok (.iconst 1, 1) := by decide +kernel
theorem dX12_folds_109 : decode cX12_folds 109 = .ok (.isub, 1) := by decide +kernel
theorem dX12_folds_110 : decode cX12_folds 110 = .ok (.iload 9, 2) := by decide +kernel
theorem dX12_folds_112 : decode cX12_folds 112 = .ok (.isub, 1) := by decide +kernel
theorem dX12_folds_113 : decode cX12_folds 113 = .ok (.goto 7, 3) := by decide +kernel
theorem dX12_folds_116 : decode cX12_folds 116 = .ok (.iload_n 2, 1) := by decide +kernel
theorem dX12_folds_117 : decode cX12_folds 117 = .ok (.iload 9, 2) := by decide +kernel
theorem dX12_folds_119 : decode cX12_folds 119 = .ok (.iadd, 1) := by decide +kernel
theorem dX12_folds_120 : decode cX12_folds 120 = .ok (.istore 10, 2) := by decide +kernel
theorem dX12_folds_122 : decode cX12_folds 122 = .ok (.iload 6, 2) := by decide +kernel
theorem dX12_folds_124 : decode cX12_folds 124 = .ok (.ifCond .eq 10, 3) := by decide +kernel
theorem dX12_folds_127 : decode cX12_folds 127 = .ok (.iload_n 2, 1) := by decide +kernel
theorem dX12_folds_128 : decode cX12_folds 128 = .ok (.iload 9, 2) := by decide +kernel
theorem dX12_folds_130 : decode cX12_folds 130 = .ok (.iadd, 1) := by decide +kernel
theorem dX12_folds_131 : decode cX12_folds 131 = .ok (.goto 9, 3) := by decide +kernel
theorem dX12_folds_134 : decode cX12_folds 134 = .ok (.iload_n 2, 1) := by decide +kernel
theorem dX12_folds_135 : decode cX12_folds 135 = .ok (.iconst 1, 1) := by decide +kernel
theorem dX12_folds_136 : decode cX12_folds 136 = .ok (.isub, 1) := by decide +kernel
theorem dX12_folds_137 : decode cX12_folds 137 = .ok (.iload 9, 2) := by decide +kernel
theorem dX12_folds_139 : decode cX12_folds 139 = .ok (.isub, 1) := by decide +kernel
theorem dX12_folds_140 : decode cX12_folds 140 = .ok (.istore 11, 2) := by decide +kernel
theorem dX12_folds_142 : decode cX12_folds 142 = .ok (.iload 7, 2) := by decide +kernel
theorem dX12_folds_144 : decode cX12_folds 144 = .ok (.ifCond .eq 28, 3) := by decide +kernel
theorem dX12_folds_147 : decode cX12_folds 147 = .ok (.iload 10, 2) := by decide +kernel
theorem dX12_folds_149 : decode cX12_folds 149 = .ok (.i2l, 1) := by decide +kernel
theorem dX12_folds_150 : decode cX12_folds 150 = .ok (.lconst 0, 1) := by decide +kernel
theorem dX12_folds_151 : decode cX12_folds 151 = .ok (.iload 4, 2) := by decide +kernel
theorem dX12_folds_153 : decode cX12_folds 153 = .ok (.iconst 1, 1) := by decide +kernel
theorem dX12_folds_154 : decode cX12_folds 154 = .ok (.isub, 1) := by decide +kernel
theorem dX12_folds_155 : decode cX12_folds 155 = .ok (.i2l, 1) := by decide +kernel
theorem dX12_folds_156 : decode cX12_folds 156 = .ok (.invokestatic 138, 3) := by decide +kernel
theorem dX12_folds_159 : decode cX12_folds 159 = .ok (.ifCond .eq 13, 3) := by decide +kernel
theorem dX12_folds_162 : decode cX12_folds 162 = .ok (.aload_n 0, 1) := by decide +kernel
theorem dX12_folds_163 : decode cX12_folds 163 = .ok (.iload_n 1, 1) := by decide +kernel
theorem dX12_folds_164 : decode cX12_folds 164 = .ok (.iload 10, 2) := by decide +kernel
theorem dX12_folds_166 : decode cX12_folds 166 = .ok (.iconst 1, 1) := by decide +kernel
theorem dX12_folds_167 : decode cX12_folds 167 = .ok (.iload 8, 2) := by decide +kernel
theorem dX12_folds_169 : decode cX12_folds 169 = .ok (.invokevirtual 273, 3) := by decide +kernel
theorem dX12_folds_172 : decode cX12_folds 172 = .ok (.iload 11, 2) := by decide +kernel
theorem dX12_folds_174 : decode cX12_folds 174 = .ok (.i2l, 1) := by decide +kernel
theorem dX12_folds_175 : decode cX12_folds 175 = .ok (.lconst 0, 1) := by decide +kernel
theorem dX12_folds_176 : decode cX12_folds 176 = .ok (.iload 4, 2) := by decide +kernel
theorem dX12_folds_178 : decode cX12_folds 178 = .ok (.iconst 1, 1) := by decide +kernel
theorem dX12_folds_179 : decode cX12_folds 179 = .ok (.isub, 1) := by decide +kernel
theorem dX12_folds_180 : decode cX12_folds 180 = .ok (.i2l, 1) := by decide +kernel
theorem dX12_folds_181 : decode cX12_folds 181 = .ok (.invokestatic 138, 3) := by decide +kernel
theorem dX12_folds_184 : decode cX12_folds 184 = .ok (.ifCond .eq 13, 3) := by decide +kernel
theorem dX12_folds_187 : decode cX12_folds 187 = .ok (.aload_n 0, 1) := by decide +kernel
theorem dX12_folds_188 : decode cX12_folds 188 = .ok (.iload_n 1, 1) := by decide +kernel
theorem dX12_folds_189 : decode cX12_folds 189 = .ok (.iload 11, 2) := by decide +kernel
theorem dX12_folds_191 : decode cX12_folds 191 = .ok (.iconst 0, 1) := by decide +kernel
theorem dX12_folds_192 : decode cX12_folds 192 = .ok (.iload 8, 2) := by decide +kernel
theorem dX12_folds_194 : decode cX12_folds 194 = .ok (.invokevirtual 273, 3) := by decide +kernel
theorem dX12_folds_197 : decode cX12_folds 197 = .ok (.iload 7, 2) := by decide +kernel
theorem dX12_folds_199 : decode cX12_folds 199 = .ok (.ifCond .ne 28, 3) := by decide +kernel
theorem dX12_folds_202 : decode cX12_folds 202 = .ok (.iload 10, 2) := by decide +kernel
theorem dX12_folds_204 : decode cX12_folds 204 = .ok (.i2l, 1) := by decide +kernel
theorem dX12_folds_205 : decode cX12_folds 205 = .ok (.lconst 0, 1) := by decide +kernel
theorem dX12_folds_206 : decode cX12_folds 206 = .ok (.iload 4, 2) := by decide +kernel
theorem dX12_folds_208 : decode cX12_folds 208 = .ok (.iconst 1, 1) := by decide +kernel
theorem dX12_folds_209 : decode cX12_folds 209 = .ok (.isub, 1) := by decide +kernel
theorem dX12_folds_210 : decode cX12_folds 210 = .ok (.i2l, 1) := by decide +kernel
theorem dX12_folds_211 : decode cX12_folds 211 = .ok (.invokestatic 138, 3) := by decide +kernel
theorem dX12_folds_214 : decode cX12_folds 214 = .ok (.ifCond .eq 13, 3) := by decide +kernel
theorem dX12_folds_217 : decode cX12_folds 217 = .ok (.aload_n 0, 1) := by decide +kernel
theorem dX12_folds_218 : decode cX12_folds 218 = .ok (.iload_n 1, 1) := by decide +kernel
theorem dX12_folds_219 : decode cX12_folds 219 = .ok (.iload 10, 2) := by decide +kernel
theorem dX12_folds_221 : decode cX12_folds 221 = .ok (.iconst 1, 1) := by decide +kernel
theorem dX12_folds_222 : decode cX12_folds 222 = .ok (.iload 8, 2) := by decide +kernel
theorem dX12_folds_224 : decode cX12_folds 224 = .ok (.invokevirtual 273, 3) := by decide +kernel
theorem dX12_folds_227 : decode cX12_folds 227 = .ok (.iinc 8 1, 3) := by decide +kernel
theorem dX12_folds_230 : decode cX12_folds 230 = .ok (.goto (-171), 3) := by decide +kernel
theorem dX12_folds_233 : decode cX12_folds 233 = .ok (.return_, 1) := by decide +kernel
theorem dX12_laysNow_0 : decode cX12_laysNow 0 = .ok (.aload_n 0, 1) := by decide +kernel
theorem dX12_laysNow_1 : decode cX12_laysNow 1 = .ok (.invokevirtual 277, 3) := by decide +kernel
theorem dX12_laysNow_4 : decode cX12_laysNow 4 = .ok (.iconst 0, 1) := by decide +kernel
theorem dX12_laysNow_5 : decode cX12_laysNow 5 = .ok (.istore_n 1, 1) := by decide +kernel
theorem dX12_laysNow_6 : decode cX12_laysNow 6 = .ok (.iload_n 1, 1) := by decide +kernel
theorem dX12_laysNow_7 : decode cX12_laysNow 7 = .ok (.aload_n 0, 1) := by decide +kernel
theorem dX12_laysNow_8 : decode cX12_laysNow 8 = .ok (.getfield 9, 3) := by decide +kernel
theorem dX12_laysNow_11 : decode cX12_laysNow 11 = .ok (.bipush 7, 2) := by decide +kernel
theorem dX12_laysNow_13 : decode cX12_laysNow 13 = .ok (.iaload, 1) := by decide +kernel
theorem dX12_laysNow_14 : decode cX12_laysNow 14 = .ok (.if_icmp .ge 38, 3) := by decide +kernel
theorem dX12_laysNow_17 : decode cX12_laysNow 17 = .ok (.aload_n 0, 1) := by decide +kernel
theorem dX12_laysNow_18 : decode cX12_laysNow 18 = .ok (.iload_n 1, 1) := by decide +kernel
theorem dX12_laysNow_19 : decode cX12_laysNow 19 = .ok (.aload_n 0, 1) := by decide +kernel
theorem dX12_laysNow_20 : decode cX12_laysNow 20 = .ok (.getfield 9, 3) := by decide +kernel
theorem dX12_laysNow_23 : decode cX12_laysNow 23 = .ok (.bipush 8, 2) := by decide +kernel
theorem dX12_laysNow_25 : decode cX12_laysNow 25 = .ok (.iload_n 1, 1) := by decide +kernel
theorem dX12_laysNow_26 : decode cX12_laysNow 26 = .ok (.iadd, 1) := by decide +kernel
theorem dX12_laysNow_27 : decode cX12_laysNow 27 = .ok (.iaload, 1) := by decide +kernel
theorem dX12_laysNow_28 : decode cX12_laysNow 28 = .ok (.bipush 10, 2) := by decide +kernel
theorem dX12_laysNow_30 : decode cX12_laysNow 30 = .ok (.idiv, 1) := by decide +kernel
theorem dX12_laysNow_31 : decode cX12_laysNow 31 = .ok (.aload_n 0, 1) := by decide +kernel
theorem dX12_laysNow_32 : decode cX12_laysNow 32 = .ok (.getfield 9, 3) := by decide +kernel
theorem dX12_laysNow_35 : decode cX12_laysNow 35 = .ok (.bipush 8, 2) := by decide +kernel
theorem dX12_laysNow_37 : decode cX12_laysNow 37 = .ok (.iload_n 1, 1) := by decide +kernel
theorem dX12_laysNow_38 : decode cX12_laysNow 38 = .ok (.iadd, 1) := by decide +kernel
theorem dX12_laysNow_39 : decode cX12_laysNow 39 = .ok (.iaload, 1) := by decide +kernel
theorem dX12_laysNow_40 : decode cX12_laysNow 40 = .ok (.bipush 10, 2) := by decide +kernel
theorem dX12_laysNow_42 : decode cX12_laysNow 42 = .ok (.irem, 1) := by decide +kernel
theorem dX12_laysNow_43 : decode cX12_laysNow 43 = .ok (.invokevirtual 280, 3) := by decide +kernel
theorem dX12_laysNow_46 : decode cX12_laysNow 46 = .ok (.iinc 1 1, 3) := by decide +kernel
theorem dX12_laysNow_49 : decode cX12_laysNow 49 = .ok (.goto (-43), 3) := by decide +kernel
theorem dX12_laysNow_52 : decode cX12_laysNow 52 = .ok (.aload_n 0, 1) := by decide +kernel
theorem dX12_laysNow_53 : decode cX12_laysNow 53 = .ok (.getfield 9, 3) := by decide +kernel
theorem dX12_laysNow_56 : decode cX12_laysNow 56 = .ok (.bipush 7, 2) := by decide +kernel
theorem dX12_laysNow_58 : decode cX12_laysNow 58 = .ok (.iaload, 1) := by decide +kernel
theorem dX12_laysNow_59 : decode cX12_laysNow 59 = .ok (.ireturn, 1) := by decide +kernel
theorem dX12_markOf_0 : decode cX12_markOf 0 = .ok (.aload_n 0, 1) := by decide +kernel
theorem dX12_markOf_1 : decode cX12_markOf 1 = .ok (.getfield 9, 3) := by decide +kernel
theorem dX12_markOf_4 : decode cX12_markOf 4 = .ok (.bipush 13, 2) := by decide +kernel
theorem dX12_markOf_6 : decode cX12_markOf 6 = .ok (.iload_n 1, 1) := by decide +kernel
theorem dX12_markOf_7 : decode cX12_markOf 7 = .ok (.iconst 2, 1) := by decide +kernel
theorem dX12_markOf_8 : decode cX12_markOf 8 = .ok (.irem, 1) := by decide +kernel
theorem dX12_markOf_9 : decode cX12_markOf 9 = .ok (.iconst 1, 1) := by decide +kernel
theorem dX12_markOf_10 : decode cX12_markOf 10 = .ok (.if_icmp .ne 7, 3) := by decide +kernel
theorem dX12_markOf_13 : decode cX12_markOf 13 = .ok (.iconst 1, 1) := by decide +kernel
theorem dX12_markOf_14 : decode cX12_markOf 14 = .ok (.goto 4, 3) := by decide +kernel
theorem dX12_markOf_17 : decode cX12_markOf 17 = .ok (.iconst 0, 1) := by decide +kernel
theorem dX12_markOf_18 : decode cX12_markOf 18 = .ok (.iload_n 2, 1) := by decide +kernel
theorem dX12_markOf_19 : decode cX12_markOf 19 = .ok (.if_icmp .ne 7, 3) := by decide +kernel
theorem dX12_markOf_22 : decode cX12_markOf 22 = .ok (.iconst 0, 1) := by decide +kernel
theorem dX12_markOf_23 : decode cX12_markOf 23 = .ok (.goto 5, 3) := by decide +kernel
theorem dX12_markOf_26 : decode cX12_markOf 26 = .ok (.bipush 6, 2) := by decide +kernel
theorem dX12_markOf_28 : decode cX12_markOf 28 = .ok (.iadd, 1) := by decide +kernel
theorem dX12_markOf_29 : decode cX12_markOf 29 = .ok (.iload_n 1, 1) := by decide +kernel
theorem dX12_markOf_30 : decode cX12_markOf 30 = .ok (.iconst 2, 1) := by decide +kernel
theorem dX12_markOf_31 : decode cX12_markOf 31 = .ok (.idiv, 1) := by decide +kernel
theorem dX12_markOf_32 : decode cX12_markOf 32 = .ok (.iadd, 1) := by decide +kernel
theorem dX12_markOf_33 : decode cX12_markOf 33 = .ok (.iaload, 1) := by decide +kernel
theorem dX12_markOf_34 : decode cX12_markOf 34 = .ok (.ireturn, 1) := by decide +kernel
theorem dX12_aboveAt_0 : decode cX12_aboveAt 0 = .ok (.aload_n 0, 1) := by decide +kernel
theorem dX12_aboveAt_1 : decode cX12_aboveAt 1 = .ok (.aload_n 0, 1) := by decide +kernel
theorem dX12_aboveAt_2 : decode cX12_aboveAt 2 = .ok (.iload_n 1, 1) := by decide +kernel
theorem dX12_aboveAt_3 : decode cX12_aboveAt 3 = .ok (.iload_n 2, 1) := by decide +kernel
theorem dX12_aboveAt_4 : decode cX12_aboveAt 4 = .ok (.aload_n 0, 1) := by decide +kernel
theorem dX12_aboveAt_5 : decode cX12_aboveAt 5 = .ok (.iload_n 1, 1) := by decide +kernel
theorem dX12_aboveAt_6 : decode cX12_aboveAt 6 = .ok (.iload_n 2, 1) := by decide +kernel
theorem dX12_aboveAt_7 : decode cX12_aboveAt 7 = .ok (.invokevirtual 261, 3) := by decide +kernel
theorem dX12_aboveAt_10 : decode cX12_aboveAt 10 = .ok (.iconst 1, 1) := by decide +kernel
theorem dX12_aboveAt_11 : decode cX12_aboveAt 11 = .ok (.isub, 1) := by decide +kernel
theorem dX12_aboveAt_12 : decode cX12_aboveAt 12 = .ok (.invokevirtual 264, 3) := by decide +kernel
theorem dX12_aboveAt_15 : decode cX12_aboveAt 15 = .ok (.iconst 1, 1) := by decide +kernel
theorem dX12_aboveAt_16 : decode cX12_aboveAt 16 = .ok (.invokevirtual 283, 3) := by decide +kernel
theorem dX12_aboveAt_19 : decode cX12_aboveAt 19 = .ok (.ireturn, 1) := by decide +kernel
theorem dX12_beneathAt_0 : decode cX12_beneathAt 0 = .ok (.aload_n 0, 1) := by decide +kernel
theorem dX12_beneathAt_1 : decode cX12_beneathAt 1 = .ok (.aload_n 0, 1) := by decide +kernel
theorem dX12_beneathAt_2 : decode cX12_beneathAt 2 = .ok (.iload_n 1, 1) := by decide +kernel
theorem dX12_beneathAt_3 : decode cX12_beneathAt 3 = .ok (.iload_n 2, 1) := by decide +kernel
theorem dX12_beneathAt_4 : decode cX12_beneathAt 4 = .ok (.iconst 0, 1) := by decide +kernel
theorem dX12_beneathAt_5 : decode cX12_beneathAt 5 = .ok (.invokevirtual 264, 3) := by decide +kernel
theorem dX12_beneathAt_8 : decode cX12_beneathAt 8 = .ok (.iconst 0, 1) := by decide +kernel
theorem dX12_beneathAt_9 : decode cX12_beneathAt 9 = .ok (.invokevirtual 283, 3) := by decide +kernel
theorem dX12_beneathAt_12 : decode cX12_beneathAt 12 = .ok (.ireturn, 1) := by decide +kernel
theorem dX12_highestAt_0 : decode cX12_highestAt 0 = .ok (.iconst 0, 1) := by decide +kernel
theorem dX12_highestAt_1 : decode cX12_highestAt 1 = .ok (.istore_n 2, 1) := by decide +kernel
theorem dX12_highestAt_2 : decode cX12_highestAt 2 = .ok (.iconst 0, 1) := by decide +kernel
theorem dX12_highestAt_3 : decode cX12_highestAt 3 = .ok (.istore_n 3, 1) := by decide +kernel
theorem dX12_highestAt_4 : decode cX12_highestAt 4 = .ok (.iload_n 3, 1) := by decide +kernel
theorem dX12_highestAt_5 : decode cX12_highestAt 5 = .ok (.aload_n 0, 1) := by decide +kernel
theorem dX12_highestAt_6 : decode cX12_highestAt 6 = .ok (.iload_n 1, 1) := by decide +kernel
theorem dX12_highestAt_7 : decode cX12_highestAt 7 = .ok (.invokevirtual 256, 3) := by decide +kernel
theorem dX12_highestAt_10 : decode cX12_highestAt 10 = .ok (.if_icmp .ge 20, 3) := by decide +kernel
theorem dX12_highestAt_13 : decode cX12_highestAt 13 = .ok (.iload_n 2, 1) := by decide +kernel
theorem dX12_highestAt_14 : decode cX12_highestAt 14 = .ok (.aload_n 0, 1) := by decide +kernel
theorem dX12_highestAt_15 : decode cX12_highestAt 15 = .ok (.iload_n 1, 1) := by decide +kernel
theorem dX12_highestAt_16 : decode cX12_highestAt 16 = .ok (.iload_n 3, 1) := by decide +kernel
theorem dX12_highestAt_17 : decode cX12_highestAt 17 = .ok (.invokevirtual 261, 3) := by decide +kernel
theorem dX12_highestAt_20 : decode cX12_highestAt 20 = .ok (.invokestatic 268, 3) := by decide +kernel
theorem dX12_highestAt_23 : decode cX12_highestAt 23 = .ok (.istore_n 2, 1) := by decide +kernel
theorem dX12_highestAt_24 : decode cX12_highestAt 24 = .ok (.iinc 3 1, 3) := by decide +kernel
theorem dX12_highestAt_27 : decode cX12_highestAt 27 = .ok (.goto (-23), 3) := by decide +kernel
theorem dX12_highestAt_30 : decode cX12_highestAt 30 = .ok (.iload_n 2, 1) := by decide +kernel
theorem dX12_highestAt_31 : decode cX12_highestAt 31 = .ok (.ireturn, 1) := by decide +kernel
theorem dX12_topAt_0 : decode cX12_topAt 0 = .ok (.iconst 0, 1) := by decide +kernel
theorem dX12_topAt_1 : decode cX12_topAt 1 = .ok (.istore_n 2, 1) := by decide +kernel
theorem dX12_topAt_2 : decode cX12_topAt 2 = .ok (.iconst 0, 1) := by decide +kernel
theorem dX12_topAt_3 : decode cX12_topAt 3 = .ok (.istore_n 3, 1) := by decide +kernel
theorem dX12_topAt_4 : decode cX12_topAt 4 = .ok (.iload_n 3, 1) := by decide +kernel
theorem dX12_topAt_5 : decode cX12_topAt 5 = .ok (.aload_n 0, 1) := by decide +kernel
theorem dX12_topAt_6 : decode cX12_topAt 6 = .ok (.iload_n 1, 1) := by decide +kernel
theorem dX12_topAt_7 : decode cX12_topAt 7 = .ok (.invokevirtual 256, 3) := by decide +kernel
theorem dX12_topAt_10 : decode cX12_topAt 10 = .ok (.if_icmp .ge 18, 3) := by decide +kernel
theorem dX12_topAt_13 : decode cX12_topAt 13 = .ok (.iload_n 2, 1) := by decide +kernel
theorem dX12_topAt_14 : decode cX12_topAt 14 = .ok (.aload_n 0, 1) := by decide +kernel
theorem dX12_topAt_15 : decode cX12_topAt 15 = .ok (.iload_n 1, 1) := by decide +kernel
theorem dX12_topAt_16 : decode cX12_topAt 16 = .ok (.iload_n 3, 1) := by decide +kernel
theorem dX12_topAt_17 : decode cX12_topAt 17 = .ok (.invokevirtual 287, 3) := by decide +kernel
theorem dX12_topAt_20 : decode cX12_topAt 20 = .ok (.iadd, 1) := by decide +kernel
theorem dX12_topAt_21 : decode cX12_topAt 21 = .ok (.istore_n 2, 1) := by decide +kernel
theorem dX12_topAt_22 : decode cX12_topAt 22 = .ok (.iinc 3 1, 3) := by decide +kernel
theorem dX12_topAt_25 : decode cX12_topAt 25 = .ok (.goto (-21), 3) := by decide +kernel
theorem dX12_topAt_28 : decode cX12_topAt 28 = .ok (.iload_n 2, 1) := by decide +kernel
theorem dX12_topAt_29 : decode cX12_topAt 29 = .ok (.ireturn, 1) := by decide +kernel
theorem dX12_underAt_0 : decode cX12_underAt 0 = .ok (.iconst 0, 1) := by decide +kernel
theorem dX12_underAt_1 : decode cX12_underAt 1 = .ok (.istore_n 2, 1) := by decide +kernel
theorem dX12_underAt_2 : decode cX12_underAt 2 = .ok (.iconst 0, 1) := by decide +kernel
theorem dX12_underAt_3 : decode cX12_underAt 3 = .ok (.istore_n 3, 1) := by decide +kernel
theorem dX12_underAt_4 : decode cX12_underAt 4 = .ok (.iload_n 3, 1) := by decide +kernel
theorem dX12_underAt_5 : decode cX12_underAt 5 = .ok (.aload_n 0, 1) := by decide +kernel
theorem dX12_underAt_6 : decode cX12_underAt 6 = .ok (.iload_n 1, 1) := by decide +kernel
theorem dX12_underAt_7 : decode cX12_underAt 7 = .ok (.invokevirtual 256, 3) := by decide +kernel
theorem dX12_underAt_10 : decode cX12_underAt 10 = .ok (.if_icmp .ge 18, 3) := by decide +kernel
theorem dX12_underAt_13 : decode cX12_underAt 13 = .ok (.iload_n 2, 1) := by decide +kernel
theorem dX12_underAt_14 : decode cX12_underAt 14 = .ok (.aload_n 0, 1) := by decide +kernel
theorem dX12_underAt_15 : decode cX12_underAt 15 = .ok (.iload_n 1, 1) := by decide +kernel
theorem dX12_underAt_16 : decode cX12_underAt 16 = .ok (.iload_n 3, 1) := by decide +kernel
theorem dX12_underAt_17 : decode cX12_underAt 17 = .ok (.invokevirtual 290, 3) := by decide +kernel
theorem dX12_underAt_20 : decode cX12_underAt 20 = .ok (.iadd, 1) := by decide +kernel
theorem dX12_underAt_21 : decode cX12_underAt 21 = .ok (.istore_n 2, 1) := by decide +kernel
theorem dX12_underAt_22 : decode cX12_underAt 22 = .ok (.iinc 3 1, 3) := by decide +kernel
theorem dX12_underAt_25 : decode cX12_underAt 25 = .ok (.goto (-21), 3) := by decide +kernel
theorem dX12_underAt_28 : decode cX12_underAt 28 = .ok (.iload_n 2, 1) := by decide +kernel
theorem dX12_underAt_29 : decode cX12_underAt 29 = .ok (.ireturn, 1) := by decide +kernel
theorem dX12_hiddenAt_0 : decode cX12_hiddenAt 0 = .ok (.aload_n 0, 1) := by decide +kernel
theorem dX12_hiddenAt_1 : decode cX12_hiddenAt 1 = .ok (.iload_n 1, 1) := by decide +kernel
theorem dX12_hiddenAt_2 : decode cX12_hiddenAt 2 = .ok (.invokevirtual 293, 3) := by decide +kernel
theorem dX12_hiddenAt_5 : decode cX12_hiddenAt 5 = .ok (.ineg, 1) := by decide +kernel
theorem dX12_hiddenAt_6 : decode cX12_hiddenAt 6 = .ok (.aload_n 0, 1) := by decide +kernel
theorem dX12_hiddenAt_7 : decode cX12_hiddenAt 7 = .ok (.iload_n 1, 1) := by decide +kernel
theorem dX12_hiddenAt_8 : decode cX12_hiddenAt 8 = .ok (.invokevirtual 296, 3) := by decide +kernel
theorem dX12_hiddenAt_11 : decode cX12_hiddenAt 11 = .ok (.isub, 1) := by decide +kernel
theorem dX12_hiddenAt_12 : decode cX12_hiddenAt 12 = .ok (.istore_n 2, 1) := by decide +kernel
theorem dX12_hiddenAt_13 : decode cX12_hiddenAt 13 = .ok (.iconst 0, 1) := by decide +kernel
theorem dX12_hiddenAt_14 : decode cX12_hiddenAt 14 = .ok (.istore_n 3, 1) := by decide +kernel
theorem dX12_hiddenAt_15 : decode cX12_hiddenAt 15 = .ok (.iload_n 3, 1) := by decide +kernel
theorem dX12_hiddenAt_16 : decode cX12_hiddenAt 16 = .ok (.aload_n 0, 1) := by decide +kernel
theorem dX12_hiddenAt_17 : decode cX12_hiddenAt 17 = .ok (.invokevirtual 253, 3) := by decide +kernel
theorem dX12_hiddenAt_20 : decode cX12_hiddenAt 20 = .ok (.if_icmp .ge 31, 3) := by decide +kernel
theorem dX12_hiddenAt_23 : decode cX12_hiddenAt 23 = .ok (.iload_n 2, 1) := by decide +kernel
theorem dX12_hiddenAt_24 : decode cX12_hiddenAt 24 = .ok (.aload_n 0, 1) := by decide +kernel
theorem dX12_hiddenAt_25 : decode cX12_hiddenAt 25 = .ok (.getfield 9, 3) := by decide +kernel
theorem dX12_hiddenAt_28 : decode cX12_hiddenAt 28 = .ok (.bipush 13, 2) := by decide +kernel
theorem dX12_hiddenAt_30 : decode cX12_hiddenAt 30 = .ok (.iload_n 3, 1) := by decide +kernel
theorem dX12_hiddenAt_31 : decode cX12_hiddenAt 31 = .ok (.iadd, 1) := by decide +kernel
theorem dX12_hiddenAt_32 : decode cX12_hiddenAt 32 = .ok (.iaload, 1) := by decide +kernel
theorem dX12_hiddenAt_33 : decode cX12_hiddenAt 33 = .ok (.aload_n 0, 1) := by decide +kernel
theorem dX12_hiddenAt_34 : decode cX12_hiddenAt 34 = .ok (.getfield 9, 3) := by decide +kernel
theorem dX12_hiddenAt_37 : decode cX12_hiddenAt 37 = .ok (.bipush 19, 2) := by decide +kernel
theorem dX12_hiddenAt_39 : decode cX12_hiddenAt 39 = .ok (.iload_n 3, 1) := by decide +kernel
theorem dX12_hiddenAt_40 : decode cX12_hiddenAt 40 = .ok (.iadd, 1) := by decide +kernel
theorem dX12_hiddenAt_41 : decode cX12_hiddenAt 41 = .ok (.iaload, 1) := by decide +kernel
theorem dX12_hiddenAt_42 : decode cX12_hiddenAt 42 = .ok (.iadd, 1) := by decide +kernel
theorem dX12_hiddenAt_43 : decode cX12_hiddenAt 43 = .ok (.iadd, 1) := by decide +kernel
theorem dX12_hiddenAt_44 : decode cX12_hiddenAt 44 = .ok (.istore_n 2, 1) := by decide +kernel
theorem dX12_hiddenAt_45 : decode cX12_hiddenAt 45 = .ok (.iinc 3 1, 3) := by decide +kernel
theorem dX12_hiddenAt_48 : decode cX12_hiddenAt 48 = .ok (.goto (-33), 3) := by decide +kernel
theorem dX12_hiddenAt_51 : decode cX12_hiddenAt 51 = .ok (.iload_n 2, 1) := by decide +kernel
theorem dX12_hiddenAt_52 : decode cX12_hiddenAt 52 = .ok (.ireturn, 1) := by decide +kernel
theorem dX12_laysPlaces_0 : decode cX12_laysPlaces 0 = .ok (.iconst 0, 1) := by decide +kernel
theorem dX12_laysPlaces_1 : decode cX12_laysPlaces 1 = .ok (.istore_n 2, 1) := by decide +kernel
theorem dX12_laysPlaces_2 : decode cX12_laysPlaces 2 = .ok (.iload_n 2, 1) := by decide +kernel
theorem dX12_laysPlaces_3 : decode cX12_laysPlaces 3 = .ok (.aload_n 0, 1) := by decide +kernel
theorem dX12_laysPlaces_4 : decode cX12_laysPlaces 4 = .ok (.iload_n 1, 1) := by decide +kernel
theorem dX12_laysPlaces_5 : decode cX12_laysPlaces 5 = .ok (.invokevirtual 256, 3) := by decide +kernel
theorem dX12_laysPlaces_8 : decode cX12_laysPlaces 8 = .ok (.if_icmp .ge 59, 3) := by decide +kernel
theorem dX12_laysPlaces_11 : decode cX12_laysPlaces 11 = .ok (.iconst 0, 1) := by decide +kernel
theorem dX12_laysPlaces_12 : decode cX12_laysPlaces 12 = .ok (.istore_n 3, 1) := by decide +kernel
theorem dX12_laysPlaces_13 : decode cX12_laysPlaces 13 = .ok (.iload_n 3, 1) := by decide +kernel
theorem dX12_laysPlaces_14 : decode cX12_laysPlaces 14 = .ok (.aload_n 0, 1) := by decide +kernel
theorem dX12_laysPlaces_15 : decode cX12_laysPlaces 15 = .ok (.iload_n 1, 1) := by decide +kernel
theorem dX12_laysPlaces_16 : decode cX12_laysPlaces 16 = .ok (.iload_n 2, 1) := by decide +kernel
theorem dX12_laysPlaces_17 : decode cX12_laysPlaces 17 = .ok (.invokevirtual 261, 3) := by decide +kernel
theorem dX12_laysPlaces_20 : decode cX12_laysPlaces 20 = .ok (.if_icmp .ge 41, 3) := by decide +kernel
theorem dX12_laysPlaces_23 : decode cX12_laysPlaces 23 = .ok (.aload_n 0, 1) := by decide +kernel
theorem dX12_laysPlaces_24 : decode cX12_laysPlaces 24 = .ok (.getfield 33, 3) := by decide +kernel
theorem dX12_laysPlaces_27 : decode cX12_laysPlaces 27 = .ok (.aload_n 0, 1) := by decide +kernel
theorem dX12_laysPlaces_28 : decode cX12_laysPlaces 28 = .ok (.iload_n 1, 1) := by decide +kernel
theorem dX12_laysPlaces_29 : decode cX12_laysPlaces 29 = .ok (.iload_n 2, 1) := by decide +kernel
theorem dX12_laysPlaces_30 : decode cX12_laysPlaces 30 = .ok (.iload_n 3, 1) := by decide +kernel
theorem dX12_laysPlaces_31 : decode cX12_laysPlaces 31 = .ok (.invokevirtual 264, 3) := by decide +kernel
theorem dX12_laysPlaces_34 : decode cX12_laysPlaces 34 = .ok (.iconst 2, 1) := by decide +kernel
theorem dX12_laysPlaces_35 : decode cX12_laysPlaces 35 = .ok (.idiv, 1) := by decide +kernel
theorem dX12_laysPlaces_36 : decode cX12_laysPlaces 36 = .ok (.bipush 16, 2) := by decide +kernel
theorem dX12_laysPlaces_38 : decode cX12_laysPlaces 38 = .ok (.iload_n 2, 1) := by decide +kernel
theorem dX12_laysPlaces_39 : decode cX12_laysPlaces 39 = .ok (.imul, 1) := by decide +kernel
theorem dX12_laysPlaces_40 : decode cX12_laysPlaces 40 = .ok (.iconst 2, 1) := by decide +kernel
theorem dX12_laysPlaces_41 : decode cX12_laysPlaces 41 = .ok (.iload_n 3, 1) := by decide +kernel
theorem dX12_laysPlaces_42 : decode cX12_laysPlaces 42 = .ok (.imul, 1) := by decide +kernel
theorem dX12_laysPlaces_43 : decode cX12_laysPlaces 43 = .ok (.iadd, 1) := by decide +kernel
theorem dX12_laysPlaces_44 : decode cX12_laysPlaces 44 = .ok (.aload_n 0, 1) := by decide +kernel
theorem dX12_laysPlaces_45 : decode cX12_laysPlaces 45 = .ok (.iload_n 1, 1) := by decide +kernel
theorem dX12_laysPlaces_46 : decode cX12_laysPlaces 46 = .ok (.iload_n 2, 1) := by decide +kernel
theorem dX12_laysPlaces_47 : decode cX12_laysPlaces 47 = .ok (.iload_n 3, 1) := by decide +kernel
theorem dX12_laysPlaces_48 : decode cX12_laysPlaces 48 = .ok (.invokevirtual 264, 3) := by decide +kernel
theorem dX12_laysPlaces_51 : decode cX12_laysPlaces 51 = .ok (.iconst 2, 1) := by decide +kernel
theorem dX12_laysPlaces_52 : decode cX12_laysPlaces 52 = .ok (.irem, 1) := by decide +kernel
theorem dX12_laysPlaces_53 : decode cX12_laysPlaces 53 = .ok (.iadd, 1) := by decide +kernel
theorem dX12_laysPlaces_54 : decode cX12_laysPlaces 54 = .ok (.iastore, 1) := by decide +kernel
theorem dX12_laysPlaces_55 : decode cX12_laysPlaces 55 = .ok (.iinc 3 1, 3) := by decide +kernel
theorem dX12_laysPlaces_58 : decode cX12_laysPlaces 58 = .ok (.goto (-45), 3) := by decide +kernel
theorem dX12_laysPlaces_61 : decode cX12_laysPlaces 61 = .ok (.iinc 2 1, 3) := by decide +kernel
theorem dX12_laysPlaces_64 : decode cX12_laysPlaces 64 = .ok (.goto (-62), 3) := by decide +kernel
theorem dX12_laysPlaces_67 : decode cX12_laysPlaces 67 = .ok (.return_, 1) := by decide +kernel
theorem dX12_creaseOf_0 : decode cX12_creaseOf 0 = .ok (.aload_n 0, 1) := by decide +kernel
theorem dX12_creaseOf_1 : decode cX12_creaseOf 1 = .ok (.getfield 33, 3) := by decide +kernel
theorem dX12_creaseOf_4 : decode cX12_creaseOf 4 = .ok (.iload_n 1, 1) := by decide +kernel
theorem dX12_creaseOf_5 : decode cX12_creaseOf 5 = .ok (.iaload, 1) := by decide +kernel
theorem dX12_creaseOf_6 : decode cX12_creaseOf 6 = .ok (.istore_n 2, 1) := by decide +kernel
theorem dX12_creaseOf_7 : decode cX12_creaseOf 7 = .ok (.aload_n 0, 1) := by decide +kernel
theorem dX12_creaseOf_8 : decode cX12_creaseOf 8 = .ok (.getfield 33, 3) := by decide +kernel
theorem dX12_creaseOf_11 : decode cX12_creaseOf 11 = .ok (.iload_n 1, 1) := by decide +kernel
theorem dX12_creaseOf_12 : decode cX12_creaseOf 12 = .ok (.iconst 1, 1) := by decide +kernel
theorem dX12_creaseOf_13 : decode cX12_creaseOf 13 = .ok (.iadd, 1) := by decide +kernel
theorem dX12_creaseOf_14 : decode cX12_creaseOf 14 = .ok (.iaload, 1) := by decide +kernel
theorem dX12_creaseOf_15 : decode cX12_creaseOf 15 = .ok (.istore_n 3, 1) := by decide +kernel
theorem dX12_creaseOf_16 : decode cX12_creaseOf 16 = .ok (.iload_n 2, 1) := by decide +kernel
theorem dX12_creaseOf_17 : decode cX12_creaseOf 17 = .ok (.bipush 16, 2) := by decide +kernel
theorem dX12_creaseOf_19 : decode cX12_creaseOf 19 = .ok (.idiv, 1) := by decide +kernel
theorem dX12_creaseOf_20 : decode cX12_creaseOf 20 = .ok (.iload_n 3, 1) := by decide +kernel
theorem dX12_creaseOf_21 : decode cX12_creaseOf 21 = .ok (.bipush 16, 2) := by decide +kernel
theorem dX12_creaseOf_23 : decode cX12_creaseOf 23 = .ok (.idiv, 1) := by decide +kernel
theorem dX12_creaseOf_24 : decode cX12_creaseOf 24 = .ok (.if_icmp .eq 5, 3) := by decide +kernel
theorem dX12_creaseOf_27 : decode cX12_creaseOf 27 = .ok (.iconst 0, 1) := by decide +kernel
theorem dX12_creaseOf_28 : decode cX12_creaseOf 28 = .ok (.ireturn, 1) := by decide +kernel
theorem dX12_creaseOf_29 : decode cX12_creaseOf 29 = .ok (.iload_n 2, 1) := by decide +kernel
theorem dX12_creaseOf_30 : decode cX12_creaseOf 30 = .ok (.iload_n 3, 1) := by decide +kernel
theorem dX12_creaseOf_31 : decode cX12_creaseOf 31 = .ok (.invokestatic 299, 3) := by decide +kernel
theorem dX12_creaseOf_34 : decode cX12_creaseOf 34 = .ok (.iconst 2, 1) := by decide +kernel
theorem dX12_creaseOf_35 : decode cX12_creaseOf 35 = .ok (.irem, 1) := by decide +kernel
theorem dX12_creaseOf_36 : decode cX12_creaseOf 36 = .ok (.iconst 1, 1) := by decide +kernel
theorem dX12_creaseOf_37 : decode cX12_creaseOf 37 = .ok (.if_icmp .ne 7, 3) := by decide +kernel
theorem dX12_creaseOf_40 : decode cX12_creaseOf 40 = .ok (.iconst 2, 1) := by decide +kernel
theorem dX12_creaseOf_41 : decode cX12_creaseOf 41 = .ok (.goto 4, 3) := by decide +kernel
theorem dX12_creaseOf_44 : decode cX12_creaseOf 44 = .ok (.iconst 1, 1) := by decide +kernel
theorem dX12_creaseOf_45 : decode cX12_creaseOf 45 = .ok (.ireturn, 1) := by decide +kernel
theorem dX12_creasesAt_0 : decode cX12_creasesAt 0 = .ok (.aload_n 0, 1) := by decide +kernel
theorem dX12_creasesAt_1 : decode cX12_creasesAt 1 = .ok (.iload_n 1, 1) := by decide +kernel
theorem dX12_creasesAt_2 : decode cX12_creasesAt 2 = .ok (.invokevirtual 302, 3) := by decide +kernel
theorem dX12_creasesAt_5 : decode cX12_creasesAt 5 = .ok (.iconst 0, 1) := by decide +kernel
theorem dX12_creasesAt_6 : decode cX12_creasesAt 6 = .ok (.istore_n 2, 1) := by decide +kernel
theorem dX12_creasesAt_7 : decode cX12_creasesAt 7 = .ok (.iconst 0, 1) := by decide +kernel
theorem dX12_creasesAt_8 : decode cX12_creasesAt 8 = .ok (.istore_n 3, 1) := by decide +kernel
theorem dX12_creasesAt_9 : decode cX12_creasesAt 9 = .ok (.iload_n 3, 1) := by decide +kernel
theorem dX12_creasesAt_10 : decode cX12_creasesAt 10 = .ok (.iconst 1, 1) := by decide +kernel
theorem dX12_creasesAt_11 : decode cX12_creasesAt 11 = .ok (.iadd, 1) := by decide +kernel
theorem dX12_creasesAt_12 : decode cX12_creasesAt 12 = .ok (.aload_n 0, 1) := by decide +kernel
theorem dX12_creasesAt_13 : decode cX12_creasesAt 13 = .ok (.invokevirtual 253, 3) := by decide +kernel
theorem dX12_creasesAt_16 : decode cX12_creasesAt 16 = .ok (.if_icmp .ge 19, 3) := by decide +kernel
theorem dX12_creasesAt_19 : decode cX12_creasesAt 19 = .ok (.iconst 3, 1) := by decide +kernel
theorem dX12_creasesAt_20 : decode cX12_creasesAt 20 = .ok (.iload_n 2, 1) := by decide +kernel
theorem dX12_creasesAt_21 : decode cX12_creasesAt 21 = .ok (.imul, 1) := by decide +kernel
theorem dX12_creasesAt_22 : decode cX12_creasesAt 22 = .ok (.aload_n 0, 1) := by decide +kernel
theorem dX12_creasesAt_23 : decode cX12_creasesAt 23 = .ok (.iload_n 3, 1) := by decide +kernel
theorem dX12_creasesAt_24 : decode cX12_creasesAt 24 = .ok (.invokevirtual 305, 3) := by decide +kernel
theorem dX12_creasesAt_27 : decode cX12_creasesAt 27 = .ok (.iadd, 1) := by decide +kernel
theorem dX12_creasesAt_28 : decode cX12_creasesAt 28 = .ok (.istore_n 2, 1) := by decide +kernel
theorem dX12_creasesAt_29 : decode cX12_creasesAt 29 = .ok (.iinc 3 1, 3) := by decide +kernel
theorem dX12_creasesAt_32 : decode cX12_creasesAt 32 = .ok (.goto (-23), 3) := by decide +kernel
theorem dX12_creasesAt_35 : decode cX12_creasesAt 35 = .ok (.iload_n 2, 1) := by decide +kernel
theorem dX12_creasesAt_36 : decode cX12_creasesAt 36 = .ok (.ireturn, 1) := by decide +kernel
theorem dX12_bound_0 : decode cX12_bound 0 = .ok (.ldc2_w 308, 3) := by decide +kernel
theorem dX12_bound_3 : decode cX12_bound 3 = .ok (.ldc2_w 310, 3) := by decide +kernel
theorem dX12_bound_6 : decode cX12_bound 6 = .ok (.lload_n 0, 1) := by decide +kernel
theorem dX12_bound_7 : decode cX12_bound 7 = .ok (.invokestatic 312, 3) := by decide +kernel
theorem dX12_bound_10 : decode cX12_bound 10 = .ok (.invokestatic 315, 3) := by decide +kernel
theorem dX12_bound_13 : decode cX12_bound 13 = .ok (.l2i, 1) := by decide +kernel
theorem dX12_bound_14 : decode cX12_bound 14 = .ok (.ireturn, 1) := by decide +kernel
theorem dX12_done_0 : decode cX12_done 0 = .ok (.iload_n 0, 1) := by decide +kernel
theorem dX12_done_1 : decode cX12_done 1 = .ok (.tableswitch 114 10 16 #[43, 50, 57, 64, 76, 88, 100], 43) := by decide +kernel
theorem dX12_done_44 : decode cX12_done 44 = .ok (.lload_n 1, 1) := by decide +kernel
theorem dX12_done_45 : decode cX12_done 45 = .ok (.lload_n 3, 1) := by decide +kernel
theorem dX12_done_46 : decode cX12_done 46 = .ok (.ladd, 1) := by decide +kernel
theorem dX12_done_47 : decode cX12_done 47 = .ok (.invokestatic 317, 3) := by decide +kernel
theorem dX12_done_50 : decode cX12_done 50 = .ok (.ireturn, 1) := by decide +kernel
theorem dX12_done_51 : decode cX12_done 51 = .ok (.lload_n 1, 1) := by decide +kernel
theorem dX12_done_52 : decode cX12_done 52 = .ok (.lload_n 3, 1) := by decide +kernel
theorem dX12_done_53 : decode cX12_done 53 = .ok (.lsub, 1) := by decide +kernel
theorem dX12_done_54 : decode cX12_done 54 = .ok (.invokestatic 317, 3) := by decide +kernel
theorem dX12_done_57 : decode cX12_done 57 = .ok (.ireturn, 1) := by decide +kernel
theorem dX12_done_58 : decode cX12_done 58 = .ok (.lload_n 1, 1) := by decide +kernel
theorem dX12_done_59 : decode cX12_done 59 = .ok (.lload_n 3, 1) := by decide +kernel
theorem dX12_done_60 : decode cX12_done 60 = .ok (.lmul, 1) := by decide +kernel
theorem dX12_done_61 : decode cX12_done 61 = .ok (.invokestatic 317, 3) := by decide +kernel
theorem dX12_done_64 : decode cX12_done 64 = .ok (.ireturn, 1) := by decide +kernel
theorem dX12_done_65 : decode cX12_done 65 = .ok (.lload_n 1, 1) := by decide +kernel
theorem dX12_done_66 : decode cX12_done 66 = .ok (.lload_n 3, 1) := by decide +kernel
theorem dX12_done_67 : decode cX12_done 67 = .ok (.lcmp, 1) := by decide +kernel
theorem dX12_done_68 : decode cX12_done 68 = .ok (.ifCond .ne 7, 3) := by decide +kernel
theorem dX12_done_71 : decode cX12_done 71 = .ok (.iconst 1, 1) := by decide +kernel
theorem dX12_done_72 : decode cX12_done 72 = .ok (.goto 4, 3) := by decide +kernel
theorem dX12_done_75 : decode cX12_done 75 = .ok (.iconst 0, 1) := by decide +kernel
theorem dX12_done_76 : decode cX12_done 76 = .ok (.ireturn, 1) := by decide +kernel
theorem dX12_done_77 : decode cX12_done 77 = .ok (.lload_n 1, 1) := by decide +kernel
theorem dX12_done_78 : decode cX12_done 78 = .ok (.lload_n 3, 1) := by decide +kernel
theorem dX12_done_79 : decode cX12_done 79 = .ok (.lcmp, 1) := by decide +kernel
theorem dX12_done_80 : decode cX12_done 80 = .ok (.ifCond .ge 7, 3) := by decide +kernel
theorem dX12_done_83 : decode cX12_done 83 = .ok (.iconst 1, 1) := by decide +kernel
theorem dX12_done_84 : decode cX12_done 84 = .ok (.goto 4, 3) := by decide +kernel
theorem dX12_done_87 : decode cX12_done 87 = .ok (.iconst 0, 1) := by decide +kernel
theorem dX12_done_88 : decode cX12_done 88 = .ok (.ireturn, 1) := by decide +kernel
theorem dX12_done_89 : decode cX12_done 89 = .ok (.lload_n 1, 1) := by decide +kernel
theorem dX12_done_90 : decode cX12_done 90 = .ok (.lload_n 3, 1) := by decide +kernel
theorem dX12_done_91 : decode cX12_done 91 = .ok (.lcmp, 1) := by decide +kernel
theorem dX12_done_92 : decode cX12_done 92 = .ok (.ifCond .le 7, 3) := by decide +kernel
theorem dX12_done_95 : decode cX12_done 95 = .ok (.iconst 1, 1) := by decide +kernel
theorem dX12_done_96 : decode cX12_done 96 = .ok (.goto 4, 3) := by decide +kernel
theorem dX12_done_99 : decode cX12_done 99 = .ok (.iconst 0, 1) := by decide +kernel
theorem dX12_done_100 : decode cX12_done 100 = .ok (.ireturn, 1) := by decide +kernel
theorem dX12_done_101 : decode cX12_done 101 = .ok (.lload_n 1, 1) := by decide +kernel
theorem dX12_done_102 : decode cX12_done 102 = .ok (.lload_n 3, 1) := by decide +kernel
theorem dX12_done_103 : decode cX12_done 103 = .ok (.ladd, 1) := by decide +kernel
theorem dX12_done_104 : decode cX12_done 104 = .ok (.lconst 1, 1) := by decide +kernel
theorem dX12_done_105 : decode cX12_done 105 = .ok (.lcmp, 1) := by decide +kernel
theorem dX12_done_106 : decode cX12_done 106 = .ok (.ifCond .le 7, 3) := by decide +kernel
theorem dX12_done_109 : decode cX12_done 109 = .ok (.iconst 1, 1) := by decide +kernel
theorem dX12_done_110 : decode cX12_done 110 = .ok (.goto 4, 3) := by decide +kernel
theorem dX12_done_113 : decode cX12_done 113 = .ok (.iconst 0, 1) := by decide +kernel
theorem dX12_done_114 : decode cX12_done 114 = .ok (.ireturn, 1) := by decide +kernel
theorem dX12_done_115 : decode cX12_done 115 = .ok (.lload_n 1, 1) := by decide +kernel
theorem dX12_done_116 : decode cX12_done 116 = .ok (.lload_n 3, 1) := by decide +kernel
theorem dX12_done_117 : decode cX12_done 117 = .ok (.ladd, 1) := by decide +kernel
theorem dX12_done_118 : decode cX12_done 118 = .ok (.lconst 0, 1) := by decide +kernel
theorem dX12_done_119 : decode cX12_done 119 = .ok (.lcmp, 1) := by decide +kernel
theorem dX12_done_120 : decode cX12_done 120 = .ok (.ifCond .le 7, 3) := by decide +kernel
theorem dX12_done_123 : decode cX12_done 123 = .ok (.iconst 1, 1) := by decide +kernel
theorem dX12_done_124 : decode cX12_done 124 = .ok (.goto 4, 3) := by decide +kernel
theorem dX12_done_127 : decode cX12_done 127 = .ok (.iconst 0, 1) := by decide +kernel
theorem dX12_done_128 : decode cX12_done 128 = .ok (.ireturn, 1) := by decide +kernel
theorem dX12_lawOf_0 : decode cX12_lawOf 0 = .ok (.iconst 0, 1) := by decide +kernel
theorem dX12_lawOf_1 : decode cX12_lawOf 1 = .ok (.istore_n 3, 1) := by decide +kernel
theorem dX12_lawOf_2 : decode cX12_lawOf 2 = .ok (.iconst 0, 1) := by decide +kernel
theorem dX12_lawOf_3 : decode cX12_lawOf 3 = .ok (.istore 4, 2) := by decide +kernel
theorem dX12_lawOf_5 : decode cX12_lawOf 5 = .ok (.iload 4, 2) := by decide +kernel
theorem dX12_lawOf_7 : decode cX12_lawOf 7 = .ok (.aload_n 0, 1) := by decide +kernel
theorem dX12_lawOf_8 : decode cX12_lawOf 8 = .ok (.getfield 9, 3) := by decide +kernel
theorem dX12_lawOf_11 : decode cX12_lawOf 11 = .ok (.iload_n 1, 1) := by decide +kernel
theorem dX12_lawOf_12 : decode cX12_lawOf 12 = .ok (.iaload, 1) := by decide +kernel
theorem dX12_lawOf_13 : decode cX12_lawOf 13 = .ok (.if_icmp .ge 126, 3) := by decide +kernel
theorem dX12_lawOf_16 : decode cX12_lawOf 16 = .ok (.aload_n 0, 1) := by decide +kernel
theorem dX12_lawOf_17 : decode cX12_lawOf 17 = .ok (.getfield 9, 3) := by decide +kernel
theorem dX12_lawOf_20 : decode cX12_lawOf 20 = .ok (.iload_n 2, 1) := by decide +kernel
theorem dX12_lawOf_21 : decode cX12_lawOf 21 = .ok (.iload 4, 2) := by decide +kernel
theorem dX12_lawOf_23 : decode cX12_lawOf 23 = .ok (.iadd, 1) := by decide +kernel
theorem dX12_lawOf_24 : decode cX12_lawOf 24 = .ok (.iaload, 1) := by decide +kernel
theorem dX12_lawOf_25 : decode cX12_lawOf 25 = .ok (.istore 5, 2) := by decide +kernel
theorem dX12_lawOf_27 : decode cX12_lawOf 27 = .ok (.iload 5, 2) := by decide +kernel
theorem dX12_lawOf_29 : decode cX12_lawOf 29 = .ok (.bipush 100, 2) := by decide +kernel
theorem dX12_lawOf_31 : decode cX12_lawOf 31 = .ok (.if_icmp .lt 42, 3) := by decide +kernel
theorem dX12_lawOf_34 : decode cX12_lawOf 34 = .ok (.aload_n 0, 1) := by decide +kernel
theorem dX12_lawOf_35 : decode cX12_lawOf 35 = .ok (.getfield 36, 3) := by decide +kernel
theorem dX12_lawOf_38 : decode cX12_lawOf 38 = .ok (.iload_n 3, 1) := by decide +kernel
theorem dX12_lawOf_39 : decode cX12_lawOf 39 = .ok (.iload 5, 2) := by decide +kernel
theorem dX12_lawOf_41 : decode cX12_lawOf 41 = .ok (.sipush 1000, 3) := by decide +kernel
theorem dX12_lawOf_44 : decode cX12_lawOf 44 = .ok (.if_icmp .lt 12, 3) := by decide +kernel
theorem dX12_lawOf_47 : decode cX12_lawOf 47 = .ok (.iload 5, 2) := by decide +kernel
theorem dX12_lawOf_49 : decode cX12_lawOf 49 = .ok (.sipush 1000, 3) := by decide +kernel
theorem dX12_lawOf_52 : decode cX12_lawOf 52 = .ok (.isub, 1) := by decide +kernel
theorem dX12_lawOf_53 : decode cX12_lawOf 53 = .ok (.goto 13, 3) := by decide +kernel
theorem dX12_lawOf_56 : decode cX12_lawOf 56 = .ok (.aload_n 0, 1) := by decide +kernel
theorem dX12_lawOf_57 : decode cX12_lawOf 57 = .ok (.getfield 39, 3) := by decide +kernel
theorem dX12_lawOf_60 : decode cX12_lawOf 60 = .ok (.iload 5, 2) := by decide +kernel
theorem dX12_lawOf_62 : decode cX12_lawOf 62 = .ok (.bipush 100, 2) := by decide +kernel
theorem dX12_lawOf_64 : decode cX12_lawOf 64 = .ok (.isub, 1) := by decide +kernel
theorem dX12_lawOf_65 : decode cX12_lawOf 65 = .ok (.iaload, 1) := by decide +kernel
theorem dX12_lawOf_66 : decode cX12_lawOf 66 = .ok (.iastore, 1) := by decide +kernel
theorem dX12_lawOf_67 : decode cX12_lawOf 67 = .ok (.iinc 3 1, 3) := by decide +kernel
theorem dX12_lawOf_70 : decode cX12_lawOf 70 = .ok (.goto 63, 3) := by decide +kernel
theorem dX12_lawOf_73 : decode cX12_lawOf 73 = .ok (.iload 5, 2) := by decide +kernel
theorem dX12_lawOf_75 : decode cX12_lawOf 75 = .ok (.bipush 18, 2) := by decide +kernel
theorem dX12_lawOf_77 : decode cX12_lawOf 77 = .ok (.if_icmp .ne 24, 3) := by decide +kernel
theorem dX12_lawOf_80 : decode cX12_lawOf 80 = .ok (.aload_n 0, 1) := by decide +kernel
theorem dX12_lawOf_81 : decode cX12_lawOf 81 = .ok (.getfield 36, 3) := by decide +kernel
theorem dX12_lawOf_84 : decode cX12_lawOf 84 = .ok (.iload_n 3, 1) := by decide +kernel
theorem dX12_lawOf_85 : decode cX12_lawOf 85 = .ok (.iconst 1, 1) := by decide +kernel
theorem dX12_lawOf_86 : decode cX12_lawOf 86 = .ok (.isub, 1) := by decide +kernel
theorem dX12_lawOf_87 : decode cX12_lawOf 87 = .ok (.iconst 1, 1) := by decide +kernel
theorem dX12_lawOf_88 : decode cX12_lawOf 88 = .ok (.aload_n 0, 1) := by decide +kernel
theorem dX12_lawOf_89 : decode cX12_lawOf 89 = .ok (.getfield 36, 3) := by decide +kernel
theorem dX12_lawOf_92 : decode cX12_lawOf 92 = .ok (.iload_n 3, 1) := by decide +kernel
theorem dX12_lawOf_93 : decode cX12_lawOf 93 = .ok (.iconst 1, 1) := by decide +kernel
theorem dX12_lawOf_94 : decode cX12_lawOf 94 = .ok (.isub, 1) := by decide +kernel
theorem dX12_lawOf_95 : decode cX12_lawOf 95 = .ok (.iaload, 1) := by decide +kernel
theorem dX12_lawOf_96 : decode cX12_lawOf 96 = .ok (.isub, 1) := by decide +kernel
theorem dX12_lawOf_97 : decode cX12_lawOf 97 = .ok (.iastore, 1) := by decide +kernel
theorem dX12_lawOf_98 : decode cX12_lawOf 98 = .ok (.goto 35, 3) := by decide +kernel
theorem dX12_lawOf_101 : decode cX12_lawOf 101 = .ok (.iinc 3 (-1), 3) := by decide +kernel
theorem dX12_lawOf_104 : decode cX12_lawOf 104 = .ok (.aload_n 0, 1) := by decide +kernel
theorem dX12_lawOf_105 : decode cX12_lawOf 105 = .ok (.getfield 36, 3) := by decide +kernel
theorem dX12_lawOf_108 : decode cX12_lawOf 108 = .ok (.iload_n 3, 1) := by decide +kernel
theorem dX12_lawOf_109 : decode cX12_lawOf 109 = .ok (.iconst 1, 1) := by decide +kernel
theorem dX12_lawOf_110 : decode cX12_lawOf 110 = .ok (.isub, 1) := by decide +kernel
theorem dX12_lawOf_111 : decode cX12_lawOf 111 = .ok (.iload 5, 2) := by decide +kernel
theorem dX12_lawOf_113 : decode cX12_lawOf 113 = .ok (.aload_n 0, 1) := by decide +kernel
theorem dX12_lawOf_114 : decode cX12_lawOf 114 = .ok (.getfield 36, 3) := by decide +kernel
theorem dX12_lawOf_117 : decode cX12_lawOf 117 = .ok (.iload_n 3, 1) := by decide +kernel
theorem dX12_lawOf_118 : decode cX12_lawOf 118 = .ok (.iconst 1, 1) := by decide +kernel
theorem dX12_lawOf_119 : decode cX12_lawOf 119 = .ok (.isub, 1) := by decide +kernel
theorem dX12_lawOf_120 : decode cX12_lawOf 120 = .ok (.iaload, 1) := by decide +kernel
theorem dX12_lawOf_121 : decode cX12_lawOf 121 = .ok (.i2l, 1) := by decide +kernel
theorem dX12_lawOf_122 : decode cX12_lawOf 122 = .ok (.aload_n 0, 1) := by decide +kernel
theorem dX12_lawOf_123 : decode cX12_lawOf 123 = .ok (.getfield 36, 3) := by decide +kernel
theorem dX12_lawOf_126 : decode cX12_lawOf 126 = .ok (.iload_n 3, 1) := by decide +kernel
theorem dX12_lawOf_127 : decode cX12_lawOf 127 = .ok (.iaload, 1) := by decide +kernel
theorem dX12_lawOf_128 : decode cX12_lawOf 128 = .ok (.i2l, 1) := by decide +kernel
theorem dX12_lawOf_129 : decode cX12_lawOf 129 = .ok (.invokestatic 321, 3) := by decide +kernel
theorem dX12_lawOf_132 : decode cX12_lawOf 132 = .ok (.iastore, 1) := by decide +kernel
theorem dX12_lawOf_133 : decode cX12_lawOf 133 = .ok (.iinc 4 1, 3) := by decide +kernel
theorem dX12_lawOf_136 : decode cX12_lawOf 136 = .ok (.goto (-131), 3) := by decide +kernel
theorem dX12_lawOf_139 : decode cX12_lawOf 139 = .ok (.aload_n 0, 1) := by decide +kernel
theorem dX12_lawOf_140 : decode cX12_lawOf 140 = .ok (.getfield 36, 3) := by decide +kernel
theorem dX12_lawOf_143 : decode cX12_lawOf 143 = .ok (.iconst 0, 1) := by decide +kernel
theorem dX12_lawOf_144 : decode cX12_lawOf 144 = .ok (.iaload, 1) := by decide +kernel
theorem dX12_lawOf_145 : decode cX12_lawOf 145 = .ok (.ireturn, 1) := by decide +kernel
theorem dX12_asks_0 : decode cX12_asks 0 = .ok (.aload_n 0, 1) := by decide +kernel
theorem dX12_asks_1 : decode cX12_asks 1 = .ok (.getfield 39, 3) := by decide +kernel
theorem dX12_asks_4 : decode cX12_asks 4 = .ok (.iconst 0, 1) := by decide +kernel
theorem dX12_asks_5 : decode cX12_asks 5 = .ok (.aload_n 0, 1) := by decide +kernel
theorem dX12_asks_6 : decode cX12_asks 6 = .ok (.iload_n 1, 1) := by decide +kernel
theorem dX12_asks_7 : decode cX12_asks 7 = .ok (.invokevirtual 256, 3) := by decide +kernel
theorem dX12_asks_10 : decode cX12_asks 10 = .ok (.iastore, 1) := by decide +kernel
theorem dX12_asks_11 : decode cX12_asks 11 = .ok (.aload_n 0, 1) := by decide +kernel
theorem dX12_asks_12 : decode cX12_asks 12 = .ok (.getfield 39, 3) := by decide +kernel
theorem dX12_asks_15 : decode cX12_asks 15 = .ok (.iconst 1, 1) := by decide +kernel
theorem dX12_asks_16 : decode cX12_asks 16 = .ok (.aload_n 0, 1) := by decide +kernel
theorem dX12_asks_17 : decode cX12_asks 17 = .ok (.iload_n 1, 1) := by decide +kernel
theorem dX12_asks_18 : decode cX12_asks 18 = .ok (.invokevirtual 325, 3) := by decide +kernel
theorem dX12_asks_21 : decode cX12_asks 21 = .ok (.iastore, 1) := by decide +kernel
theorem dX12_asks_22 : decode cX12_asks 22 = .ok (.aload_n 0, 1) := by decide +kernel
theorem dX12_asks_23 : decode cX12_asks 23 = .ok (.getfield 39, 3) := by decide +kernel
theorem dX12_asks_26 : decode cX12_asks 26 = .ok (.iconst 2, 1) := by decide +kernel
theorem dX12_asks_27 : decode cX12_asks 27 = .ok (.iload_n 1, 1) := by decide +kernel
theorem dX12_asks_28 : decode cX12_asks 28 = .ok (.iastore, 1) := by decide +kernel
theorem dX12_asks_29 : decode cX12_asks 29 = .ok (.aload_n 0, 1) := by decide +kernel
theorem dX12_asks_30 : decode cX12_asks 30 = .ok (.getfield 39, 3) := by decide +kernel
theorem dX12_asks_33 : decode cX12_asks 33 = .ok (.iconst 3, 1) := by decide +kernel
theorem dX12_asks_34 : decode cX12_asks 34 = .ok (.aload_n 0, 1) := by decide +kernel
theorem dX12_asks_35 : decode cX12_asks 35 = .ok (.iload_n 1, 1) := by decide +kernel
theorem dX12_asks_36 : decode cX12_asks 36 = .ok (.invokevirtual 293, 3) := by decide +kernel
theorem dX12_asks_39 : decode cX12_asks 39 = .ok (.iastore, 1) := by decide +kernel
theorem dX12_asks_40 : decode cX12_asks 40 = .ok (.aload_n 0, 1) := by decide +kernel
theorem dX12_asks_41 : decode cX12_asks 41 = .ok (.getfield 39, 3) := by decide +kernel
theorem dX12_asks_44 : decode cX12_asks 44 = .ok (.iconst 4, 1) := by decide +kernel
theorem dX12_asks_45 : decode cX12_asks 45 = .ok (.aload_n 0, 1) := by decide +kernel
theorem dX12_asks_46 : decode cX12_asks 46 = .ok (.iload_n 1, 1) := by decide +kernel
theorem dX12_asks_47 : decode cX12_asks 47 = .ok (.invokevirtual 296, 3) := by decide +kernel
theorem dX12_asks_50 : decode cX12_asks 50 = .ok (.iastore, 1) := by decide +kernel
theorem dX12_asks_51 : decode cX12_asks 51 = .ok (.aload_n 0, 1) := by decide +kernel
theorem dX12_asks_52 : decode cX12_asks 52 = .ok (.getfield 39, 3) := by decide +kernel
theorem dX12_asks_55 : decode cX12_asks 55 = .ok (.iconst 5, 1) := by decide +kernel
theorem dX12_asks_56 : decode cX12_asks 56 = .ok (.aload_n 0, 1) := by decide +kernel
theorem dX12_asks_57 : decode cX12_asks 57 = .ok (.iload_n 1, 1) := by decide +kernel
theorem dX12_asks_58 : decode cX12_asks 58 = .ok (.invokevirtual 328, 3) := by decide +kernel
theorem dX12_asks_61 : decode cX12_asks 61 = .ok (.iastore, 1) := by decide +kernel
theorem dX12_asks_62 : decode cX12_asks 62 = .ok (.return_, 1) := by decide +kernel
theorem dX12_worthAt_0 : decode cX12_worthAt 0 = .ok (.aload_n 0, 1) := by decide +kernel
theorem dX12_worthAt_1 : decode cX12_worthAt 1 = .ok (.getfield 9, 3) := by decide +kernel
theorem dX12_worthAt_4 : decode cX12_worthAt 4 = .ok (.iconst 3, 1) := by decide +kernel
theorem dX12_worthAt_5 : decode cX12_worthAt 5 = .ok (.iaload, 1) := by decide +kernel
theorem dX12_worthAt_6 : decode cX12_worthAt 6 = .ok (.ifCond .ne 5, 3) := by decide +kernel
theorem dX12_worthAt_9 : decode cX12_worthAt 9 = .ok (.iconst 0, 1) := by decide +kernel
theorem dX12_worthAt_10 : decode cX12_worthAt 10 = .ok (.ireturn, 1) := by decide +kernel
theorem dX12_worthAt_11 : decode cX12_worthAt 11 = .ok (.aload_n 0, 1) := by decide +kernel
theorem dX12_worthAt_12 : decode cX12_worthAt 12 = .ok (.iload_n 1, 1) := by decide +kernel
theorem dX12_worthAt_13 : decode cX12_worthAt 13 = .ok (.invokevirtual 331, 3) := by decide +kernel
theorem dX12_worthAt_16 : decode cX12_worthAt 16 = .ok (.aload_n 0, 1) := by decide +kernel
theorem dX12_worthAt_17 : decode cX12_worthAt 17 = .ok (.iconst 3, 1) := by decide +kernel
theorem dX12_worthAt_18 : decode cX12_worthAt 18 = .ok (.sipush 209, 3) := by decide +kernel
theorem dX12_worthAt_21 : decode cX12_worthAt 21 = .ok (.invokevirtual 334, 3) := by decide +kernel
theorem dX12_worthAt_24 : decode cX12_worthAt 24 = .ok (.ireturn, 1) := by decide +kernel
theorem dX12_holdsAt_0 : decode cX12_holdsAt 0 = .ok (.aload_n 0, 1) := by decide +kernel
theorem dX12_holdsAt_1 : decode cX12_holdsAt 1 = .ok (.getfield 9, 3) := by decide +kernel
theorem dX12_holdsAt_4 : decode cX12_holdsAt 4 = .ok (.iconst 4, 1) := by decide +kernel
theorem dX12_holdsAt_5 : decode cX12_holdsAt 5 = .ok (.iaload, 1) := by decide +kernel
theorem dX12_holdsAt_6 : decode cX12_holdsAt 6 = .ok (.ifCond .ne 5, 3) := by decide +kernel
theorem dX12_holdsAt_9 : decode cX12_holdsAt 9 = .ok (.iconst 0, 1) := by decide +kernel
theorem dX12_holdsAt_10 : decode cX12_holdsAt 10 = .ok (.ireturn, 1) := by decide +kernel
theorem dX12_holdsAt_11 : decode cX12_holdsAt 11 = .ok (.aload_n 0, 1) := by decide +kernel
theorem dX12_holdsAt_12 : decode cX12_holdsAt 12 = .ok (.iload_n 1, 1) := by decide +kernel
theorem dX12_holdsAt_13 : decode cX12_holdsAt 13 = .ok (.invokevirtual 331, 3) := by decide +kernel
theorem dX12_holdsAt_16 : decode cX12_holdsAt 16 = .ok (.aload_n 0, 1) := by decide +kernel
theorem dX12_holdsAt_17 : decode cX12_holdsAt 17 = .ok (.iconst 4, 1) := by decide +kernel
theorem dX12_holdsAt_18 : decode cX12_holdsAt 18 = .ok (.sipush 1109, 3) := by decide +kernel
theorem dX12_holdsAt_21 : decode cX12_holdsAt 21 = .ok (.invokevirtual 334, 3) := by decide +kernel
theorem dX12_holdsAt_24 : decode cX12_holdsAt 24 = .ok (.iconst 1, 1) := by decide +kernel
theorem dX12_holdsAt_25 : decode cX12_holdsAt 25 = .ok (.if_icmp .ne 7, 3) := by decide +kernel
theorem dX12_holdsAt_28 : decode cX12_holdsAt 28 = .ok (.iconst 1, 1) := by decide +kernel
theorem dX12_holdsAt_29 : decode cX12_holdsAt 29 = .ok (.goto 4, 3) := by decide +kernel
theorem dX12_holdsAt_32 : decode cX12_holdsAt 32 = .ok (.iconst 0, 1) := by decide +kernel
theorem dX12_holdsAt_33 : decode cX12_holdsAt 33 = .ok (.ireturn, 1) := by decide +kernel
theorem dX12_likesAt_0 : decode cX12_likesAt 0 = .ok (.aload_n 0, 1) := by decide +kernel
theorem dX12_likesAt_1 : decode cX12_likesAt 1 = .ok (.getfield 9, 3) := by decide +kernel
theorem dX12_likesAt_4 : decode cX12_likesAt 4 = .ok (.iconst 5, 1) := by decide +kernel
theorem dX12_likesAt_5 : decode cX12_likesAt 5 = .ok (.iaload, 1) := by decide +kernel
theorem dX12_likesAt_6 : decode cX12_likesAt 6 = .ok (.ifCond .ne 5, 3) := by decide +kernel
theorem dX12_likesAt_9 : decode cX12_likesAt 9 = .ok (.iconst 0, 1) := by decide +kernel
theorem dX12_likesAt_10 : decode cX12_likesAt 10 = .ok (.ireturn, 1) := by decide +kernel
theorem dX12_likesAt_11 : decode cX12_likesAt 11 = .ok (.aload_n 0, 1) := by decide +kernel
theorem dX12_likesAt_12 : decode cX12_likesAt 12 = .ok (.iload_n 1, 1) := by decide +kernel
theorem dX12_likesAt_13 : decode cX12_likesAt 13 = .ok (.invokevirtual 331, 3) := by decide +kernel
theorem dX12_likesAt_16 : decode cX12_likesAt 16 = .ok (.aload_n 0, 1) := by decide +kernel
theorem dX12_likesAt_17 : decode cX12_likesAt 17 = .ok (.getfield 39, 3) := by decide +kernel
theorem dX12_likesAt_20 : decode cX12_likesAt 20 = .ok (.bipush 6, 2) := by decide +kernel
theorem dX12_likesAt_22 : decode cX12_likesAt 22 = .ok (.iload_n 2, 1) := by decide +kernel
theorem dX12_likesAt_23 : decode cX12_likesAt 23 = .ok (.iastore, 1) := by decide +kernel
theorem dX12_likesAt_24 : decode cX12_likesAt 24 = .ok (.aload_n 0, 1) := by decide +kernel
theorem dX12_likesAt_25 : decode cX12_likesAt 25 = .ok (.getfield 39, 3) := by decide +kernel
theorem dX12_likesAt_28 : decode cX12_likesAt 28 = .ok (.bipush 7, 2) := by decide +kernel
theorem dX12_likesAt_30 : decode cX12_likesAt 30 = .ok (.aload_n 0, 1) := by decide +kernel
theorem dX12_likesAt_31 : decode cX12_likesAt 31 = .ok (.getfield 9, 3) := by decide +kernel
theorem dX12_likesAt_34 : decode cX12_likesAt 34 = .ok (.bipush 25, 2) := by decide +kernel
theorem dX12_likesAt_36 : decode cX12_likesAt 36 = .ok (.iload_n 2, 1) := by decide +kernel
theorem dX12_likesAt_37 : decode cX12_likesAt 37 = .ok (.iadd, 1) := by decide +kernel
theorem dX12_likesAt_38 : decode cX12_likesAt 38 = .ok (.iaload, 1) := by decide +kernel
theorem dX12_likesAt_39 : decode cX12_likesAt 39 = .ok (.iastore, 1) := by decide +kernel
theorem dX12_likesAt_40 : decode cX12_likesAt 40 = .ok (.aload_n 0, 1) := by decide +kernel
theorem dX12_likesAt_41 : decode cX12_likesAt 41 = .ok (.iconst 5, 1) := by decide +kernel
theorem dX12_likesAt_42 : decode cX12_likesAt 42 = .ok (.sipush 2009, 3) := by decide +kernel
theorem dX12_likesAt_45 : decode cX12_likesAt 45 = .ok (.invokevirtual 334, 3) := by decide +kernel
theorem dX12_likesAt_48 : decode cX12_likesAt 48 = .ok (.ireturn, 1) := by decide +kernel
theorem dX12_cell_0 : decode cX12_cell 0 = .ok (.aload_n 0, 1) := by decide +kernel
theorem dX12_cell_1 : decode cX12_cell 1 = .ok (.aload_n 0, 1) := by decide +kernel
theorem dX12_cell_2 : decode cX12_cell 2 = .ok (.iload_n 1, 1) := by decide +kernel
theorem dX12_cell_3 : decode cX12_cell 3 = .ok (.i2l, 1) := by decide +kernel
theorem dX12_cell_4 : decode cX12_cell 4 = .ok (.invokevirtual 337, 3) := by decide +kernel
theorem dX12_cell_7 : decode cX12_cell 7 = .ok (.ifCond .ne 7, 3) := by decide +kernel
theorem dX12_cell_10 : decode cX12_cell 10 = .ok (.iconst 1, 1) := by decide +kernel
theorem dX12_cell_11 : decode cX12_cell 11 = .ok (.goto 20, 3) := by decide +kernel
theorem dX12_cell_14 : decode cX12_cell 14 = .ok (.iload_n 2, 1) := by decide +kernel
theorem dX12_cell_15 : decode cX12_cell 15 = .ok (.i2l, 1) := by decide +kernel
theorem dX12_cell_16 : decode cX12_cell 16 = .ok (.lconst 0, 1) := by decide +kernel
theorem dX12_cell_17 : decode cX12_cell 17 = .ok (.ldc2_w 341, 3) := by decide +kernel
theorem dX12_cell_20 : decode cX12_cell 20 = .ok (.invokestatic 138, 3) := by decide +kernel
theorem dX12_cell_23 : decode cX12_cell 23 = .ok (.ifCond .eq 7, 3) := by decide +kernel
theorem dX12_cell_26 : decode cX12_cell 26 = .ok (.iconst 0, 1) := by decide +kernel
theorem dX12_cell_27 : decode cX12_cell 27 = .ok (.goto 4, 3) := by decide +kernel
theorem dX12_cell_30 : decode cX12_cell 30 = .ok (.iconst 2, 1) := by decide +kernel
theorem dX12_cell_31 : decode cX12_cell 31 = .ok (.putfield 77, 3) := by decide +kernel
theorem dX12_cell_34 : decode cX12_cell 34 = .ok (.aload_n 0, 1) := by decide +kernel
theorem dX12_cell_35 : decode cX12_cell 35 = .ok (.getfield 77, 3) := by decide +kernel
theorem dX12_cell_38 : decode cX12_cell 38 = .ok (.ifCond .le 5, 3) := by decide +kernel
theorem dX12_cell_41 : decode cX12_cell 41 = .ok (.iconst 0, 1) := by decide +kernel
theorem dX12_cell_42 : decode cX12_cell 42 = .ok (.ireturn, 1) := by decide +kernel
theorem dX12_cell_43 : decode cX12_cell 43 = .ok (.iload_n 2, 1) := by decide +kernel
theorem dX12_cell_44 : decode cX12_cell 44 = .ok (.iconst 2, 1) := by decide +kernel
theorem dX12_cell_45 : decode cX12_cell 45 = .ok (.if_icmp .ge 18, 3) := by decide +kernel
theorem dX12_cell_48 : decode cX12_cell 48 = .ok (.aload_n 0, 1) := by decide +kernel
theorem dX12_cell_49 : decode cX12_cell 49 = .ok (.getfield 9, 3) := by decide +kernel
theorem dX12_cell_52 : decode cX12_cell 52 = .ok (.bipush 13, 2) := by decide +kernel
theorem dX12_cell_54 : decode cX12_cell 54 = .ok (.bipush 6, 2) := by decide +kernel
theorem dX12_cell_56 : decode cX12_cell 56 = .ok (.iload_n 2, 1) := by decide +kernel
theorem dX12_cell_57 : decode cX12_cell 57 = .ok (.imul, 1) := by decide +kernel
theorem dX12_cell_58 : decode cX12_cell 58 = .ok (.iadd, 1) := by decide +kernel
theorem dX12_cell_59 : decode cX12_cell 59 = .ok (.iload_n 1, 1) := by decide +kernel
theorem dX12_cell_60 : decode cX12_cell 60 = .ok (.iadd, 1) := by decide +kernel
theorem dX12_cell_61 : decode cX12_cell 61 = .ok (.iaload, 1) := by decide +kernel
theorem dX12_cell_62 : decode cX12_cell 62 = .ok (.ireturn, 1) := by decide +kernel
theorem dX12_cell_63 : decode cX12_cell 63 = .ok (.aload_n 0, 1) := by decide +kernel
theorem dX12_cell_64 : decode cX12_cell 64 = .ok (.aload_n 0, 1) := by decide +kernel
theorem dX12_cell_65 : decode cX12_cell 65 = .ok (.invokevirtual 343, 3) := by decide +kernel
theorem dX12_cell_68 : decode cX12_cell 68 = .ok (.invokevirtual 302, 3) := by decide +kernel
theorem dX12_cell_71 : decode cX12_cell 71 = .ok (.iload_n 2, 1) := by decide +kernel
theorem dX12_cell_72 : decode cX12_cell 72 = .ok (.iconst 2, 1) := by decide +kernel
theorem dX12_cell_73 : decode cX12_cell 73 = .ok (.if_icmp .ne 15, 3) := by decide +kernel
theorem dX12_cell_76 : decode cX12_cell 76 = .ok (.aload_n 0, 1) := by decide +kernel
theorem dX12_cell_77 : decode cX12_cell 77 = .ok (.getfield 33, 3) := by decide +kernel
theorem dX12_cell_80 : decode cX12_cell 80 = .ok (.iload_n 1, 1) := by decide +kernel
theorem dX12_cell_81 : decode cX12_cell 81 = .ok (.iaload, 1) := by decide +kernel
theorem dX12_cell_82 : decode cX12_cell 82 = .ok (.bipush 16, 2) := by decide +kernel
theorem dX12_cell_84 : decode cX12_cell 84 = .ok (.idiv, 1) := by decide +kernel
theorem dX12_cell_85 : decode cX12_cell 85 = .ok (.goto 30, 3) := by decide +kernel
theorem dX12_cell_88 : decode cX12_cell 88 = .ok (.iload_n 2, 1) := by decide +kernel
theorem dX12_cell_89 : decode cX12_cell 89 = .ok (.iconst 3, 1) := by decide +kernel
theorem dX12_cell_90 : decode cX12_cell 90 = .ok (.if_icmp .ne 17, 3) := by decide +kernel
theorem dX12_cell_93 : decode cX12_cell 93 = .ok (.aload_n 0, 1) := by decide +kernel
theorem dX12_cell_94 : decode cX12_cell 94 = .ok (.getfield 33, 3) := by decide +kernel
theorem dX12_cell_97 : decode cX12_cell 97 = .ok (.iload_n 1, 1) := by decide +kernel
theorem dX12_cell_98 : decode cX12_cell 98 = .ok (.iaload, 1) := by decide +kernel
theorem dX12_cell_99 : decode cX12_cell 99 = .ok (.iconst 2, 1) := by decide +kernel
theorem dX12_cell_100 : decode cX12_cell 100 = .ok (.idiv, 1) := by decide +kernel
theorem dX12_cell_101 : decode cX12_cell 101 = .ok (.bipush 8, 2) := by decide +kernel
theorem dX12_cell_103 : decode cX12_cell 103 = .ok (.irem, 1) := by decide +kernel
theorem dX12_cell_104 : decode cX12_cell 104 = .ok (.goto 11, 3) := by decide +kernel
theorem dX12_cell_107 : decode cX12_cell 107 = .ok (.aload_n 0, 1) := by decide +kernel
theorem dX12_cell_108 : decode cX12_cell 108 = .ok (.getfield 33, 3) := by decide +kernel
theorem dX12_cell_111 : decode cX12_cell 111 = .ok (.iload_n 1, 1) := by decide +kernel
theorem dX12_cell_112 : decode cX12_cell 112 = .ok (.iaload, 1) := by decide +kernel
theorem dX12_cell_113 : decode cX12_cell 113 = .ok (.iconst 2, 1) := by decide +kernel
theorem dX12_cell_114 : decode cX12_cell 114 = .ok (.irem, 1) := by decide +kernel
theorem dX12_cell_115 : decode cX12_cell 115 = .ok (.ireturn, 1) := by decide +kernel
theorem dX12_isColumn_0 : decode cX12_isColumn 0 = .ok (.iload_n 1, 1) := by decide +kernel
theorem dX12_isColumn_1 : decode cX12_isColumn 1 = .ok (.i2l, 1) := by decide +kernel
theorem dX12_isColumn_2 : decode cX12_isColumn 2 = .ok (.lconst 0, 1) := by decide +kernel
theorem dX12_isColumn_3 : decode cX12_isColumn 3 = .ok (.aload_n 0, 1) := by decide +kernel
theorem dX12_isColumn_4 : decode cX12_isColumn 4 = .ok (.aload_n 0, 1) := by decide +kernel
theorem dX12_isColumn_5 : decode cX12_isColumn 5 = .ok (.invokevirtual 343, 3) := by decide +kernel
theorem dX12_isColumn_8 : decode cX12_isColumn 8 = .ok (.invokevirtual 256, 3) := by decide +kernel
theorem dX12_isColumn_11 : decode cX12_isColumn 11 = .ok (.iconst 1, 1) := by decide +kernel
theorem dX12_isColumn_12 : decode cX12_isColumn 12 = .ok (.isub, 1) := by decide +kernel
theorem dX12_isColumn_13 : decode cX12_isColumn 13 = .ok (.i2l, 1) := by decide +kernel
theorem dX12_isColumn_14 : decode cX12_isColumn 14 = .ok (.invokestatic 138, 3) := by decide +kernel
theorem dX12_isColumn_17 : decode cX12_isColumn 17 = .ok (.ireturn, 1) := by decide +kernel
theorem dX12_high_0 : decode cX12_high 0 = .ok (.aload_n 0, 1) := by decide +kernel
theorem dX12_high_1 : decode cX12_high 1 = .ok (.iconst 0, 1) := by decide +kernel
theorem dX12_high_2 : decode cX12_high 2 = .ok (.putfield 77, 3) := by decide +kernel
theorem dX12_high_5 : decode cX12_high 5 = .ok (.aload_n 0, 1) := by decide +kernel
theorem dX12_high_6 : decode cX12_high 6 = .ok (.iload_n 1, 1) := by decide +kernel
theorem dX12_high_7 : decode cX12_high 7 = .ok (.invokevirtual 346, 3) := by decide +kernel
theorem dX12_high_10 : decode cX12_high 10 = .ok (.ifCond .eq 18, 3) := by decide +kernel
theorem dX12_high_13 : decode cX12_high 13 = .ok (.aload_n 0, 1) := by decide +kernel
theorem dX12_high_14 : decode cX12_high 14 = .ok (.aload_n 0, 1) := by decide +kernel
theorem dX12_high_15 : decode cX12_high 15 = .ok (.getfield 9, 3) := by decide +kernel
theorem dX12_high_18 : decode cX12_high 18 = .ok (.bipush 7, 2) := by decide +kernel
theorem dX12_high_20 : decode cX12_high 20 = .ok (.iaload, 1) := by decide +kernel
theorem dX12_high_21 : decode cX12_high 21 = .ok (.iload_n 1, 1) := by decide +kernel
theorem dX12_high_22 : decode cX12_high 22 = .ok (.invokevirtual 261, 3) := by decide +kernel
theorem dX12_high_25 : decode cX12_high 25 = .ok (.goto 8, 3) := by decide +kernel
theorem dX12_high_28 : decode cX12_high 28 = .ok (.aload_n 0, 1) := by decide +kernel
theorem dX12_high_29 : decode cX12_high 29 = .ok (.iconst 1, 1) := by decide +kernel
theorem dX12_high_30 : decode cX12_high 30 = .ok (.invokevirtual 244, 3) := by decide +kernel
theorem dX12_high_33 : decode cX12_high 33 = .ok (.ireturn, 1) := by decide +kernel
theorem dX12_layer_0 : decode cX12_layer 0 = .ok (.aload_n 0, 1) := by decide +kernel
theorem dX12_layer_1 : decode cX12_layer 1 = .ok (.aload_n 0, 1) := by decide +kernel
theorem dX12_layer_2 : decode cX12_layer 2 = .ok (.iload_n 1, 1) := by decide +kernel
theorem dX12_layer_3 : decode cX12_layer 3 = .ok (.invokevirtual 346, 3) := by decide +kernel
theorem dX12_layer_6 : decode cX12_layer 6 = .ok (.ifCond .ne 7, 3) := by decide +kernel
theorem dX12_layer_9 : decode cX12_layer 9 = .ok (.iconst 1, 1) := by decide +kernel
theorem dX12_layer_10 : decode cX12_layer 10 = .ok (.goto 12, 3) := by decide +kernel
theorem dX12_layer_13 : decode cX12_layer 13 = .ok (.iload_n 2, 1) := by decide +kernel
theorem dX12_layer_14 : decode cX12_layer 14 = .ok (.ifCond .ge 7, 3) := by decide +kernel
theorem dX12_layer_17 : decode cX12_layer 17 = .ok (.iconst 2, 1) := by decide +kernel
theorem dX12_layer_18 : decode cX12_layer 18 = .ok (.goto 4, 3) := by decide +kernel
theorem dX12_layer_21 : decode cX12_layer 21 = .ok (.iconst 0, 1) := by decide +kernel
theorem dX12_layer_22 : decode cX12_layer 22 = .ok (.putfield 77, 3) := by decide +kernel
theorem dX12_layer_25 : decode cX12_layer 25 = .ok (.aload_n 0, 1) := by decide +kernel
theorem dX12_layer_26 : decode cX12_layer 26 = .ok (.getfield 77, 3) := by decide +kernel
theorem dX12_layer_29 : decode cX12_layer 29 = .ok (.ifCond .le 5, 3) := by decide +kernel
theorem dX12_layer_32 : decode cX12_layer 32 = .ok (.iconst 0, 1) := by decide +kernel
theorem dX12_layer_33 : decode cX12_layer 33 = .ok (.ireturn, 1) := by decide +kernel
theorem dX12_layer_34 : decode cX12_layer 34 = .ok (.iload_n 2, 1) := by decide +kernel
theorem dX12_layer_35 : decode cX12_layer 35 = .ok (.aload_n 0, 1) := by decide +kernel
theorem dX12_layer_36 : decode cX12_layer 36 = .ok (.aload_n 0, 1) := by decide +kernel
theorem dX12_layer_37 : decode cX12_layer 37 = .ok (.getfield 9, 3) := by decide +kernel
theorem dX12_layer_40 : decode cX12_layer 40 = .ok (.bipush 7, 2) := by decide +kernel
theorem dX12_layer_42 : decode cX12_layer 42 = .ok (.iaload, 1) := by decide +kernel
theorem dX12_layer_43 : decode cX12_layer 43 = .ok (.iload_n 1, 1) := by decide +kernel
theorem dX12_layer_44 : decode cX12_layer 44 = .ok (.invokevirtual 261, 3) := by decide +kernel
theorem dX12_layer_47 : decode cX12_layer 47 = .ok (.if_icmp .ge 21, 3) := by decide +kernel
theorem dX12_layer_50 : decode cX12_layer 50 = .ok (.aload_n 0, 1) := by decide +kernel
theorem dX12_layer_51 : decode cX12_layer 51 = .ok (.aload_n 0, 1) := by decide +kernel
theorem dX12_layer_52 : decode cX12_layer 52 = .ok (.getfield 9, 3) := by decide +kernel
theorem dX12_layer_55 : decode cX12_layer 55 = .ok (.bipush 7, 2) := by decide +kernel
theorem dX12_layer_57 : decode cX12_layer 57 = .ok (.iaload, 1) := by decide +kernel
theorem dX12_layer_58 : decode cX12_layer 58 = .ok (.iload_n 1, 1) := by decide +kernel
theorem dX12_layer_59 : decode cX12_layer 59 = .ok (.iload_n 2, 1) := by decide +kernel
theorem dX12_layer_60 : decode cX12_layer 60 = .ok (.invokevirtual 264, 3) := by decide +kernel
theorem dX12_layer_63 : decode cX12_layer 63 = .ok (.iconst 2, 1) := by decide +kernel
theorem dX12_layer_64 : decode cX12_layer 64 = .ok (.idiv, 1) := by decide +kernel
theorem dX12_layer_65 : decode cX12_layer 65 = .ok (.goto 4, 3) := by decide +kernel
theorem dX12_layer_68 : decode cX12_layer 68 = .ok (.iconst (-1), 1) := by decide +kernel
theorem dX12_layer_69 : decode cX12_layer 69 = .ok (.ireturn, 1) := by decide +kernel
theorem dX12_above_0 : decode cX12_above 0 = .ok (.aload_n 0, 1) := by decide +kernel
theorem dX12_above_1 : decode cX12_above 1 = .ok (.iconst 0, 1) := by decide +kernel
theorem dX12_above_2 : decode cX12_above 2 = .ok (.putfield 77, 3) := by decide +kernel
theorem dX12_above_5 : decode cX12_above 5 = .ok (.aload_n 0, 1) := by decide +kernel
theorem dX12_above_6 : decode cX12_above 6 = .ok (.iload_n 1, 1) := by decide +kernel
theorem dX12_above_7 : decode cX12_above 7 = .ok (.invokevirtual 346, 3) := by decide +kernel
theorem dX12_above_10 : decode cX12_above 10 = .ok (.ifCond .eq 18, 3) := by decide +kernel
theorem dX12_above_13 : decode cX12_above 13 = .ok (.aload_n 0, 1) := by decide +kernel
theorem dX12_above_14 : decode cX12_above 14 = .ok (.aload_n 0, 1) := by decide +kernel
theorem dX12_above_15 : decode cX12_above 15 = .ok (.getfield 9, 3) := by decide +kernel
theorem dX12_above_18 : decode cX12_above 18 = .ok (.bipush 7, 2) := by decide +kernel
theorem dX12_above_20 : decode cX12_above 20 = .ok (.iaload, 1) := by decide +kernel
theorem dX12_above_21 : decode cX12_above 21 = .ok (.iload_n 1, 1) := by decide +kernel
theorem dX12_above_22 : decode cX12_above 22 = .ok (.invokevirtual 287, 3) := by decide +kernel
theorem dX12_above_25 : decode cX12_above 25 = .ok (.goto 8, 3) := by decide +kernel
theorem dX12_above_28 : decode cX12_above 28 = .ok (.aload_n 0, 1) := by decide +kernel
theorem dX12_above_29 : decode cX12_above 29 = .ok (.iconst 1, 1) := by decide +kernel
theorem dX12_above_30 : decode cX12_above 30 = .ok (.invokevirtual 244, 3) := by decide +kernel
theorem dX12_above_33 : decode cX12_above 33 = .ok (.ireturn, 1) := by decide +kernel
theorem dX12_beneath_0 : decode cX12_beneath 0 = .ok (.aload_n 0, 1) := by decide +kernel
theorem dX12_beneath_1 : decode cX12_beneath 1 = .ok (.iconst 0, 1) := by decide +kernel
theorem dX12_beneath_2 : decode cX12_beneath 2 = .ok (.putfield 77, 3) := by decide +kernel
theorem dX12_beneath_5 : decode cX12_beneath 5 = .ok (.aload_n 0, 1) := by decide +kernel
theorem dX12_beneath_6 : decode cX12_beneath 6 = .ok (.iload_n 1, 1) := by decide +kernel
theorem dX12_beneath_7 : decode cX12_beneath 7 = .ok (.invokevirtual 346, 3) := by decide +kernel
theorem dX12_beneath_10 : decode cX12_beneath 10 = .ok (.ifCond .eq 18, 3) := by decide +kernel
theorem dX12_beneath_13 : decode cX12_beneath 13 = .ok (.aload_n 0, 1) := by decide +kernel
theorem dX12_beneath_14 : decode cX12_beneath 14 = .ok (.aload_n 0, 1) := by decide +kernel
theorem dX12_beneath_15 : decode cX12_beneath 15 = .ok (.getfield 9, 3) := by decide +kernel
theorem dX12_beneath_18 : decode cX12_beneath 18 = .ok (.bipush 7, 2) := by decide +kernel
theorem dX12_beneath_20 : decode cX12_beneath 20 = .ok (.iaload, 1) := by decide +kernel
theorem dX12_beneath_21 : decode cX12_beneath 21 = .ok (.iload_n 1, 1) := by decide +kernel
theorem dX12_beneath_22 : decode cX12_beneath 22 = .ok (.invokevirtual 290, 3) := by decide +kernel
theorem dX12_beneath_25 : decode cX12_beneath 25 = .ok (.goto 8, 3) := by decide +kernel
theorem dX12_beneath_28 : decode cX12_beneath 28 = .ok (.aload_n 0, 1) := by decide +kernel
theorem dX12_beneath_29 : decode cX12_beneath 29 = .ok (.iconst 1, 1) := by decide +kernel
theorem dX12_beneath_30 : decode cX12_beneath 30 = .ok (.invokevirtual 244, 3) := by decide +kernel
theorem dX12_beneath_33 : decode cX12_beneath 33 = .ok (.ireturn, 1) := by decide +kernel
theorem dX12_crease_0 : decode cX12_crease 0 = .ok (.aload_n 0, 1) := by decide +kernel
theorem dX12_crease_1 : decode cX12_crease 1 = .ok (.iconst 0, 1) := by decide +kernel
theorem dX12_crease_2 : decode cX12_crease 2 = .ok (.putfield 77, 3) := by decide +kernel
theorem dX12_crease_5 : decode cX12_crease 5 = .ok (.iload_n 1, 1) := by decide +kernel
theorem dX12_crease_6 : decode cX12_crease 6 = .ok (.i2l, 1) := by decide +kernel
theorem dX12_crease_7 : decode cX12_crease 7 = .ok (.lconst 0, 1) := by decide +kernel
theorem dX12_crease_8 : decode cX12_crease 8 = .ok (.aload_n 0, 1) := by decide +kernel
theorem dX12_crease_9 : decode cX12_crease 9 = .ok (.invokevirtual 253, 3) := by decide +kernel
theorem dX12_crease_12 : decode cX12_crease 12 = .ok (.iconst 2, 1) := by decide +kernel
theorem dX12_crease_13 : decode cX12_crease 13 = .ok (.isub, 1) := by decide +kernel
theorem dX12_crease_14 : decode cX12_crease 14 = .ok (.i2l, 1) := by decide +kernel
theorem dX12_crease_15 : decode cX12_crease 15 = .ok (.invokestatic 138, 3) := by decide +kernel
theorem dX12_crease_18 : decode cX12_crease 18 = .ok (.ifCond .ne 9, 3) := by decide +kernel
theorem dX12_crease_21 : decode cX12_crease 21 = .ok (.aload_n 0, 1) := by decide +kernel
theorem dX12_crease_22 : decode cX12_crease 22 = .ok (.iconst 1, 1) := by decide +kernel
theorem dX12_crease_23 : decode cX12_crease 23 = .ok (.invokevirtual 244, 3) := by decide +kernel
theorem dX12_crease_26 : decode cX12_crease 26 = .ok (.ireturn, 1) := by decide +kernel
theorem dX12_crease_27 : decode cX12_crease 27 = .ok (.aload_n 0, 1) := by decide +kernel
theorem dX12_crease_28 : decode cX12_crease 28 = .ok (.aload_n 0, 1) := by decide +kernel
theorem dX12_crease_29 : decode cX12_crease 29 = .ok (.invokevirtual 343, 3) := by decide +kernel
theorem dX12_crease_32 : decode cX12_crease 32 = .ok (.invokevirtual 302, 3) := by decide +kernel
theorem dX12_crease_35 : decode cX12_crease 35 = .ok (.aload_n 0, 1) := by decide +kernel
theorem dX12_crease_36 : decode cX12_crease 36 = .ok (.iload_n 1, 1) := by decide +kernel
theorem dX12_crease_37 : decode cX12_crease 37 = .ok (.invokevirtual 305, 3) := by decide +kernel
theorem dX12_crease_40 : decode cX12_crease 40 = .ok (.ireturn, 1) := by decide +kernel
theorem dX12_folded_0 : decode cX12_folded 0 = .ok (.aload_n 0, 1) := by decide +kernel
theorem dX12_folded_1 : decode cX12_folded 1 = .ok (.iconst 0, 1) := by decide +kernel
theorem dX12_folded_2 : decode cX12_folded 2 = .ok (.putfield 77, 3) := by decide +kernel
theorem dX12_folded_5 : decode cX12_folded 5 = .ok (.iload_n 1, 1) := by decide +kernel
theorem dX12_folded_6 : decode cX12_folded 6 = .ok (.ifCond .ge 9, 3) := by decide +kernel
theorem dX12_folded_9 : decode cX12_folded 9 = .ok (.aload_n 0, 1) := by decide +kernel
theorem dX12_folded_10 : decode cX12_folded 10 = .ok (.iconst 1, 1) := by decide +kernel
theorem dX12_folded_11 : decode cX12_folded 11 = .ok (.invokevirtual 244, 3) := by decide +kernel
theorem dX12_folded_14 : decode cX12_folded 14 = .ok (.ireturn, 1) := by decide +kernel
theorem dX12_folded_15 : decode cX12_folded 15 = .ok (.iload_n 1, 1) := by decide +kernel
theorem dX12_folded_16 : decode cX12_folded 16 = .ok (.aload_n 0, 1) := by decide +kernel
theorem dX12_folded_17 : decode cX12_folded 17 = .ok (.getfield 9, 3) := by decide +kernel
theorem dX12_folded_20 : decode cX12_folded 20 = .ok (.bipush 7, 2) := by decide +kernel
theorem dX12_folded_22 : decode cX12_folded 22 = .ok (.iaload, 1) := by decide +kernel
theorem dX12_folded_23 : decode cX12_folded 23 = .ok (.if_icmp .ge 15, 3) := by decide +kernel
theorem dX12_folded_26 : decode cX12_folded 26 = .ok (.aload_n 0, 1) := by decide +kernel
theorem dX12_folded_27 : decode cX12_folded 27 = .ok (.getfield 9, 3) := by decide +kernel
theorem dX12_folded_30 : decode cX12_folded 30 = .ok (.bipush 8, 2) := by decide +kernel
theorem dX12_folded_32 : decode cX12_folded 32 = .ok (.iload_n 1, 1) := by decide +kernel
theorem dX12_folded_33 : decode cX12_folded 33 = .ok (.iadd, 1) := by decide +kernel
theorem dX12_folded_34 : decode cX12_folded 34 = .ok (.iaload, 1) := by decide +kernel
theorem dX12_folded_35 : decode cX12_folded 35 = .ok (.goto 4, 3) := by decide +kernel
theorem dX12_folded_38 : decode cX12_folded 38 = .ok (.iconst (-1), 1) := by decide +kernel
theorem dX12_folded_39 : decode cX12_folded 39 = .ok (.ireturn, 1) := by decide +kernel
theorem dX12_worth_0 : decode cX12_worth 0 = .ok (.aload_n 0, 1) := by decide +kernel
theorem dX12_worth_1 : decode cX12_worth 1 = .ok (.iconst 0, 1) := by decide +kernel
theorem dX12_worth_2 : decode cX12_worth 2 = .ok (.putfield 77, 3) := by decide +kernel
theorem dX12_worth_5 : decode cX12_worth 5 = .ok (.aload_n 0, 1) := by decide +kernel
theorem dX12_worth_6 : decode cX12_worth 6 = .ok (.aload_n 0, 1) := by decide +kernel
theorem dX12_worth_7 : decode cX12_worth 7 = .ok (.invokevirtual 343, 3) := by decide +kernel
theorem dX12_worth_10 : decode cX12_worth 10 = .ok (.invokevirtual 349, 3) := by decide +kernel
theorem dX12_worth_13 : decode cX12_worth 13 = .ok (.ireturn, 1) := by decide +kernel
theorem dX12_holds_0 : decode cX12_holds 0 = .ok (.aload_n 0, 1) := by decide +kernel
theorem dX12_holds_1 : decode cX12_holds 1 = .ok (.iconst 0, 1) := by decide +kernel
theorem dX12_holds_2 : decode cX12_holds 2 = .ok (.putfield 77, 3) := by decide +kernel
theorem dX12_holds_5 : decode cX12_holds 5 = .ok (.aload_n 0, 1) := by decide +kernel
theorem dX12_holds_6 : decode cX12_holds 6 = .ok (.aload_n 0, 1) := by decide +kernel
theorem dX12_holds_7 : decode cX12_holds 7 = .ok (.invokevirtual 343, 3) := by decide +kernel
theorem dX12_holds_10 : decode cX12_holds 10 = .ok (.invokevirtual 352, 3) := by decide +kernel
theorem dX12_holds_13 : decode cX12_holds 13 = .ok (.ireturn, 1) := by decide +kernel
theorem dX12_likes_0 : decode cX12_likes 0 = .ok (.aload_n 0, 1) := by decide +kernel
theorem dX12_likes_1 : decode cX12_likes 1 = .ok (.iconst 0, 1) := by decide +kernel
theorem dX12_likes_2 : decode cX12_likes 2 = .ok (.putfield 77, 3) := by decide +kernel
theorem dX12_likes_5 : decode cX12_likes 5 = .ok (.iload_n 1, 1) := by decide +kernel
theorem dX12_likes_6 : decode cX12_likes 6 = .ok (.i2l, 1) := by decide +kernel
theorem dX12_likes_7 : decode cX12_likes 7 = .ok (.lconst 0, 1) := by decide +kernel
theorem dX12_likes_8 : decode cX12_likes 8 = .ok (.aload_n 0, 1) := by decide +kernel
theorem dX12_likes_9 : decode cX12_likes 9 = .ok (.getfield 9, 3) := by decide +kernel
theorem dX12_likes_12 : decode cX12_likes 12 = .ok (.iconst 2, 1) := by decide +kernel
theorem dX12_likes_13 : decode cX12_likes 13 = .ok (.iaload, 1) := by decide +kernel
theorem dX12_likes_14 : decode cX12_likes 14 = .ok (.iconst 1, 1) := by decide +kernel
theorem dX12_likes_15 : decode cX12_likes 15 = .ok (.isub, 1) := by decide +kernel
theorem dX12_likes_16 : decode cX12_likes 16 = .ok (.i2l, 1) := by decide +kernel
theorem dX12_likes_17 : decode cX12_likes 17 = .ok (.invokestatic 138, 3) := by decide +kernel
theorem dX12_likes_20 : decode cX12_likes 20 = .ok (.ifCond .eq 15, 3) := by decide +kernel
theorem dX12_likes_23 : decode cX12_likes 23 = .ok (.aload_n 0, 1) := by decide +kernel
theorem dX12_likes_24 : decode cX12_likes 24 = .ok (.aload_n 0, 1) := by decide +kernel
theorem dX12_likes_25 : decode cX12_likes 25 = .ok (.invokevirtual 343, 3) := by decide +kernel
theorem dX12_likes_28 : decode cX12_likes 28 = .ok (.iload_n 1, 1) := by decide +kernel
theorem dX12_likes_29 : decode cX12_likes 29 = .ok (.invokevirtual 355, 3) := by decide +kernel
theorem dX12_likes_32 : decode cX12_likes 32 = .ok (.goto 8, 3) := by decide +kernel
theorem dX12_likes_35 : decode cX12_likes 35 = .ok (.aload_n 0, 1) := by decide +kernel
theorem dX12_likes_36 : decode cX12_likes 36 = .ok (.iconst 1, 1) := by decide +kernel
theorem dX12_likes_37 : decode cX12_likes 37 = .ok (.invokevirtual 244, 3) := by decide +kernel
theorem dX12_likes_40 : decode cX12_likes 40 = .ok (.ireturn, 1) := by decide +kernel
theorem dX12_keeps_0 : decode cX12_keeps 0 = .ok (.aload_n 0, 1) := by decide +kernel
theorem dX12_keeps_1 : decode cX12_keeps 1 = .ok (.getfield 9, 3) := by decide +kernel
theorem dX12_keeps_4 : decode cX12_keeps 4 = .ok (.bipush 6, 2) := by decide +kernel
theorem dX12_keeps_6 : decode cX12_keeps 6 = .ok (.iaload, 1) := by decide +kernel
theorem dX12_keeps_7 : decode cX12_keeps 7 = .ok (.bipush 10, 2) := by decide +kernel
theorem dX12_keeps_9 : decode cX12_keeps 9 = .ok (.if_icmp .ne 45, 3) := by decide +kernel
theorem dX12_keeps_12 : decode cX12_keeps 12 = .ok (.bipush 29, 2) := by decide +kernel
theorem dX12_keeps_14 : decode cX12_keeps 14 = .ok (.istore_n 1, 1) := by decide +kernel
theorem dX12_keeps_15 : decode cX12_keeps 15 = .ok (.iload_n 1, 1) := by decide +kernel
theorem dX12_keeps_16 : decode cX12_keeps 16 = .ok (.sipush 191, 3) := by decide +kernel
theorem dX12_keeps_19 : decode cX12_keeps 19 = .ok (.if_icmp .ge 24, 3) := by decide +kernel
theorem dX12_keeps_22 : decode cX12_keeps 22 = .ok (.aload_n 0, 1) := by decide +kernel
theorem dX12_keeps_23 : decode cX12_keeps 23 = .ok (.getfield 9, 3) := by decide +kernel
theorem dX12_keeps_26 : decode cX12_keeps 26 = .ok (.iload_n 1, 1) := by decide +kernel
theorem dX12_keeps_27 : decode cX12_keeps 27 = .ok (.aload_n 0, 1) := by decide +kernel
theorem dX12_keeps_28 : decode cX12_keeps 28 = .ok (.getfield 9, 3) := by decide +kernel
theorem dX12_keeps_31 : decode cX12_keeps 31 = .ok (.iload_n 1, 1) := by decide +kernel
theorem dX12_keeps_32 : decode cX12_keeps 32 = .ok (.bipush 18, 2) := by decide +kernel
theorem dX12_keeps_34 : decode cX12_keeps 34 = .ok (.iadd, 1) := by decide +kernel
theorem dX12_keeps_35 : decode cX12_keeps 35 = .ok (.iaload, 1) := by decide +kernel
theorem dX12_keeps_36 : decode cX12_keeps 36 = .ok (.iastore, 1) := by decide +kernel
theorem dX12_keeps_37 : decode cX12_keeps 37 = .ok (.iinc 1 1, 3) := by decide +kernel
theorem dX12_keeps_40 : decode cX12_keeps 40 = .ok (.goto (-25), 3) := by decide +kernel
theorem dX12_keeps_43 : decode cX12_keeps 43 = .ok (.aload_n 0, 1) := by decide +kernel
theorem dX12_keeps_44 : decode cX12_keeps 44 = .ok (.getfield 9, 3) := by decide +kernel
theorem dX12_keeps_47 : decode cX12_keeps 47 = .ok (.bipush 6, 2) := by decide +kernel
theorem dX12_keeps_49 : decode cX12_keeps 49 = .ok (.dup2, 1) := by decide +kernel
theorem dX12_keeps_50 : decode cX12_keeps 50 = .ok (.iaload, 1) := by decide +kernel
theorem dX12_keeps_51 : decode cX12_keeps 51 = .ok (.iconst 1, 1) := by decide +kernel
theorem dX12_keeps_52 : decode cX12_keeps 52 = .ok (.isub, 1) := by decide +kernel
theorem dX12_keeps_53 : decode cX12_keeps 53 = .ok (.iastore, 1) := by decide +kernel
theorem dX12_keeps_54 : decode cX12_keeps 54 = .ok (.iconst 0, 1) := by decide +kernel
theorem dX12_keeps_55 : decode cX12_keeps 55 = .ok (.istore_n 1, 1) := by decide +kernel
theorem dX12_keeps_56 : decode cX12_keeps 56 = .ok (.iload_n 1, 1) := by decide +kernel
theorem dX12_keeps_57 : decode cX12_keeps 57 = .ok (.bipush 18, 2) := by decide +kernel
theorem dX12_keeps_59 : decode cX12_keeps 59 = .ok (.if_icmp .ge 38, 3) := by decide +kernel
theorem dX12_keeps_62 : decode cX12_keeps 62 = .ok (.aload_n 0, 1) := by decide +kernel
theorem dX12_keeps_63 : decode cX12_keeps 63 = .ok (.getfield 9, 3) := by decide +kernel
theorem dX12_keeps_66 : decode cX12_keeps 66 = .ok (.bipush 29, 2) := by decide +kernel
theorem dX12_keeps_68 : decode cX12_keeps 68 = .ok (.bipush 18, 2) := by decide +kernel
theorem dX12_keeps_70 : decode cX12_keeps 70 = .ok (.aload_n 0, 1) := by decide +kernel
theorem dX12_keeps_71 : decode cX12_keeps 71 = .ok (.getfield 9, 3) := by decide +kernel
theorem dX12_keeps_74 : decode cX12_keeps 74 = .ok (.bipush 6, 2) := by decide +kernel
theorem dX12_keeps_76 : decode cX12_keeps 76 = .ok (.iaload, 1) := by decide +kernel
theorem dX12_keeps_77 : decode cX12_keeps 77 = .ok (.imul, 1) := by decide +kernel
theorem dX12_keeps_78 : decode cX12_keeps 78 = .ok (.iadd, 1) := by decide +kernel
theorem dX12_keeps_79 : decode cX12_keeps 79 = .ok (.iload_n 1, 1) := by decide +kernel
theorem dX12_keeps_80 : decode cX12_keeps 80 = .ok (.iadd, 1) := by decide +kernel
theorem dX12_keeps_81 : decode cX12_keeps 81 = .ok (.aload_n 0, 1) := by decide +kernel
theorem dX12_keeps_82 : decode cX12_keeps 82 = .ok (.getfield 9, 3) := by decide +kernel
theorem dX12_keeps_85 : decode cX12_keeps 85 = .ok (.bipush 7, 2) := by decide +kernel
theorem dX12_keeps_87 : decode cX12_keeps 87 = .ok (.iload_n 1, 1) := by decide +kernel
theorem dX12_keeps_88 : decode cX12_keeps 88 = .ok (.iadd, 1) := by decide +kernel
theorem dX12_keeps_89 : decode cX12_keeps 89 = .ok (.iaload, 1) := by decide +kernel
theorem dX12_keeps_90 : decode cX12_keeps 90 = .ok (.iastore, 1) := by decide +kernel
theorem dX12_keeps_91 : decode cX12_keeps 91 = .ok (.iinc 1 1, 3) := by decide +kernel
theorem dX12_keeps_94 : decode cX12_keeps 94 = .ok (.goto (-38), 3) := by decide +kernel
theorem dX12_keeps_97 : decode cX12_keeps 97 = .ok (.aload_n 0, 1) := by decide +kernel
theorem dX12_keeps_98 : decode cX12_keeps 98 = .ok (.getfield 9, 3) := by decide +kernel
theorem dX12_keeps_101 : decode cX12_keeps 101 = .ok (.bipush 6, 2) := by decide +kernel
theorem dX12_keeps_103 : decode cX12_keeps 103 = .ok (.dup2, 1) := by decide +kernel
theorem dX12_keeps_104 : decode cX12_keeps 104 = .ok (.iaload, 1) := by decide +kernel
theorem dX12_keeps_105 : decode cX12_keeps 105 = .ok (.iconst 1, 1) := by decide +kernel
theorem dX12_keeps_106 : decode cX12_keeps 106 = .ok (.iadd, 1) := by decide +kernel
theorem dX12_keeps_107 : decode cX12_keeps 107 = .ok (.iastore, 1) := by decide +kernel
theorem dX12_keeps_108 : decode cX12_keeps 108 = .ok (.return_, 1) := by decide +kernel
theorem dX12_putsAside_0 : decode cX12_putsAside 0 = .ok (.iconst 0, 1) := by decide +kernel
theorem dX12_putsAside_1 : decode cX12_putsAside 1 = .ok (.istore_n 1, 1) := by decide +kernel
theorem dX12_putsAside_2 : decode cX12_putsAside 2 = .ok (.iload_n 1, 1) := by decide +kernel
theorem dX12_putsAside_3 : decode cX12_putsAside 3 = .ok (.bipush 18, 2) := by decide +kernel
theorem dX12_putsAside_5 : decode cX12_putsAside 5 = .ok (.if_icmp .ge 24, 3) := by decide +kernel
theorem dX12_putsAside_8 : decode cX12_putsAside 8 = .ok (.aload_n 0, 1) := by decide +kernel
theorem dX12_putsAside_9 : decode cX12_putsAside 9 = .ok (.getfield 42, 3) := by decide +kernel
theorem dX12_putsAside_12 : decode cX12_putsAside 12 = .ok (.iload_n 1, 1) := by decide +kernel
theorem dX12_putsAside_13 : decode cX12_putsAside 13 = .ok (.aload_n 0, 1) := by decide +kernel
theorem dX12_putsAside_14 : decode cX12_putsAside 14 = .ok (.getfield 9, 3) := by decide +kernel
theorem dX12_putsAside_17 : decode cX12_putsAside 17 = .ok (.bipush 7, 2) := by decide +kernel
theorem dX12_putsAside_19 : decode cX12_putsAside 19 = .ok (.iload_n 1, 1) := by decide +kernel
theorem dX12_putsAside_20 : decode cX12_putsAside 20 = .ok (.iadd, 1) := by decide +kernel
theorem dX12_putsAside_21 : decode cX12_putsAside 21 = .ok (.iaload, 1) := by decide +kernel
theorem dX12_putsAside_22 : decode cX12_putsAside 22 = .ok (.iastore, 1) := by decide +kernel
theorem dX12_putsAside_23 : decode cX12_putsAside 23 = .ok (.iinc 1 1, 3) := by decide +kernel
theorem dX12_putsAside_26 : decode cX12_putsAside 26 = .ok (.goto (-24), 3) := by decide +kernel
theorem dX12_putsAside_29 : decode cX12_putsAside 29 = .ok (.return_, 1) := by decide +kernel
theorem dX12_putsBack_0 : decode cX12_putsBack 0 = .ok (.iconst 0, 1) := by decide +kernel
theorem dX12_putsBack_1 : decode cX12_putsBack 1 = .ok (.istore_n 1, 1) := by decide +kernel
theorem dX12_putsBack_2 : decode cX12_putsBack 2 = .ok (.iload_n 1, 1) := by decide +kernel
theorem dX12_putsBack_3 : decode cX12_putsBack 3 = .ok (.bipush 18, 2) := by decide +kernel
theorem dX12_putsBack_5 : decode cX12_putsBack 5 = .ok (.if_icmp .ge 24, 3) := by decide +kernel
theorem dX12_putsBack_8 : decode cX12_putsBack 8 = .ok (.aload_n 0, 1) := by decide +kernel
theorem dX12_putsBack_9 : decode cX12_putsBack 9 = .ok (.getfield 9, 3) := by decide +kernel
theorem dX12_putsBack_12 : decode cX12_putsBack 12 = .ok (.bipush 7, 2) := by decide +kernel
theorem dX12_putsBack_14 : decode cX12_putsBack 14 = .ok (.iload_n 1, 1) := by decide +kernel
theorem dX12_putsBack_15 : decode cX12_putsBack 15 = .ok (.iadd, 1) := by decide +kernel
theorem dX12_putsBack_16 : decode cX12_putsBack 16 = .ok (.aload_n 0, 1) := by decide +kernel
theorem dX12_putsBack_17 : decode cX12_putsBack 17 = .ok (.getfield 42, 3) := by decide +kernel
theorem dX12_putsBack_20 : decode cX12_putsBack 20 = .ok (.iload_n 1, 1) := by decide +kernel
theorem dX12_putsBack_21 : decode cX12_putsBack 21 = .ok (.iaload, 1) := by decide +kernel
theorem dX12_putsBack_22 : decode cX12_putsBack 22 = .ok (.iastore, 1) := by decide +kernel
theorem dX12_putsBack_23 : decode cX12_putsBack 23 = .ok (.iinc 1 1, 3) := by decide +kernel
theorem dX12_putsBack_26 : decode cX12_putsBack 26 = .ok (.goto (-24), 3) := by decide +kernel
theorem dX12_putsBack_29 : decode cX12_putsBack 29 = .ok (.return_, 1) := by decide +kernel
theorem dX12_addsFold_0 : decode cX12_addsFold 0 = .ok (.aload_n 0, 1) := by decide +kernel
theorem dX12_addsFold_1 : decode cX12_addsFold 1 = .ok (.getfield 9, 3) := by decide +kernel
theorem dX12_addsFold_4 : decode cX12_addsFold 4 = .ok (.bipush 8, 2) := by decide +kernel
theorem dX12_addsFold_6 : decode cX12_addsFold 6 = .ok (.aload_n 0, 1) := by decide +kernel
theorem dX12_addsFold_7 : decode cX12_addsFold 7 = .ok (.getfield 9, 3) := by decide +kernel
theorem dX12_addsFold_10 : decode cX12_addsFold 10 = .ok (.bipush 7, 2) := by decide +kernel
theorem dX12_addsFold_12 : decode cX12_addsFold 12 = .ok (.iaload, 1) := by decide +kernel
theorem dX12_addsFold_13 : decode cX12_addsFold 13 = .ok (.iadd, 1) := by decide +kernel
theorem dX12_addsFold_14 : decode cX12_addsFold 14 = .ok (.iload_n 1, 1) := by decide +kernel
theorem dX12_addsFold_15 : decode cX12_addsFold 15 = .ok (.iastore, 1) := by decide +kernel
theorem dX12_addsFold_16 : decode cX12_addsFold 16 = .ok (.aload_n 0, 1) := by decide +kernel
theorem dX12_addsFold_17 : decode cX12_addsFold 17 = .ok (.getfield 9, 3) := by decide +kernel
theorem dX12_addsFold_20 : decode cX12_addsFold 20 = .ok (.bipush 7, 2) := by decide +kernel
theorem dX12_addsFold_22 : decode cX12_addsFold 22 = .ok (.dup2, 1) := by decide +kernel
theorem dX12_addsFold_23 : decode cX12_addsFold 23 = .ok (.iaload, 1) := by decide +kernel
theorem dX12_addsFold_24 : decode cX12_addsFold 24 = .ok (.iconst 1, 1) := by decide +kernel
theorem dX12_addsFold_25 : decode cX12_addsFold 25 = .ok (.iadd, 1) := by decide +kernel
theorem dX12_addsFold_26 : decode cX12_addsFold 26 = .ok (.iastore, 1) := by decide +kernel
theorem dX12_addsFold_27 : decode cX12_addsFold 27 = .ok (.return_, 1) := by decide +kernel
theorem dX12_fold_0 : decode cX12_fold 0 = .ok (.aload_n 0, 1) := by decide +kernel
theorem dX12_fold_1 : decode cX12_fold 1 = .ok (.iconst 0, 1) := by decide +kernel
theorem dX12_fold_2 : decode cX12_fold 2 = .ok (.putfield 77, 3) := by decide +kernel
theorem dX12_fold_5 : decode cX12_fold 5 = .ok (.aload_n 0, 1) := by decide +kernel
theorem dX12_fold_6 : decode cX12_fold 6 = .ok (.aload_n 0, 1) := by decide +kernel
theorem dX12_fold_7 : decode cX12_fold 7 = .ok (.invokevirtual 343, 3) := by decide +kernel
theorem dX12_fold_10 : decode cX12_fold 10 = .ok (.iload_n 1, 1) := by decide +kernel
theorem dX12_fold_11 : decode cX12_fold 11 = .ok (.i2l, 1) := by decide +kernel
theorem dX12_fold_12 : decode cX12_fold 12 = .ok (.iload_n 2, 1) := by decide +kernel
theorem dX12_fold_13 : decode cX12_fold 13 = .ok (.i2l, 1) := by decide +kernel
theorem dX12_fold_14 : decode cX12_fold 14 = .ok (.invokevirtual 358, 3) := by decide +kernel
theorem dX12_fold_17 : decode cX12_fold 17 = .ok (.ifCond .ne 5, 3) := by decide +kernel
theorem dX12_fold_20 : decode cX12_fold 20 = .ok (.iconst (-1), 1) := by decide +kernel
theorem dX12_fold_21 : decode cX12_fold 21 = .ok (.ireturn, 1) := by decide +kernel
theorem dX12_fold_22 : decode cX12_fold 22 = .ok (.aload_n 0, 1) := by decide +kernel
theorem dX12_fold_23 : decode cX12_fold 23 = .ok (.invokevirtual 362, 3) := by decide +kernel
theorem dX12_fold_26 : decode cX12_fold 26 = .ok (.aload_n 0, 1) := by decide +kernel
theorem dX12_fold_27 : decode cX12_fold 27 = .ok (.bipush 10, 2) := by decide +kernel
theorem dX12_fold_29 : decode cX12_fold 29 = .ok (.iload_n 1, 1) := by decide +kernel
theorem dX12_fold_30 : decode cX12_fold 30 = .ok (.imul, 1) := by decide +kernel
theorem dX12_fold_31 : decode cX12_fold 31 = .ok (.iload_n 2, 1) := by decide +kernel
theorem dX12_fold_32 : decode cX12_fold 32 = .ok (.iadd, 1) := by decide +kernel
theorem dX12_fold_33 : decode cX12_fold 33 = .ok (.invokevirtual 365, 3) := by decide +kernel
theorem dX12_fold_36 : decode cX12_fold 36 = .ok (.aload_n 0, 1) := by decide +kernel
theorem dX12_fold_37 : decode cX12_fold 37 = .ok (.aload_n 0, 1) := by decide +kernel
theorem dX12_fold_38 : decode cX12_fold 38 = .ok (.invokevirtual 343, 3) := by decide +kernel
theorem dX12_fold_41 : decode cX12_fold 41 = .ok (.invokevirtual 256, 3) := by decide +kernel
theorem dX12_fold_44 : decode cX12_fold 44 = .ok (.ireturn, 1) := by decide +kernel
theorem dX12_unfold_0 : decode cX12_unfold 0 = .ok (.aload_n 0, 1) := by decide +kernel
theorem dX12_unfold_1 : decode cX12_unfold 1 = .ok (.aload_n 0, 1) := by decide +kernel
theorem dX12_unfold_2 : decode cX12_unfold 2 = .ok (.getfield 9, 3) := by decide +kernel
theorem dX12_unfold_5 : decode cX12_unfold 5 = .ok (.bipush 7, 2) := by decide +kernel
theorem dX12_unfold_7 : decode cX12_unfold 7 = .ok (.iaload, 1) := by decide +kernel
theorem dX12_unfold_8 : decode cX12_unfold 8 = .ok (.ifCond .ne 7, 3) := by decide +kernel
theorem dX12_unfold_11 : decode cX12_unfold 11 = .ok (.iconst 1, 1) := by decide +kernel
theorem dX12_unfold_12 : decode cX12_unfold 12 = .ok (.goto 4, 3) := by decide +kernel
theorem dX12_unfold_15 : decode cX12_unfold 15 = .ok (.iconst 0, 1) := by decide +kernel
theorem dX12_unfold_16 : decode cX12_unfold 16 = .ok (.putfield 77, 3) := by decide +kernel
theorem dX12_unfold_19 : decode cX12_unfold 19 = .ok (.aload_n 0, 1) := by decide +kernel
theorem dX12_unfold_20 : decode cX12_unfold 20 = .ok (.getfield 77, 3) := by decide +kernel
theorem dX12_unfold_23 : decode cX12_unfold 23 = .ok (.ifCond .le 5, 3) := by decide +kernel
theorem dX12_unfold_26 : decode cX12_unfold 26 = .ok (.iconst 0, 1) := by decide +kernel
theorem dX12_unfold_27 : decode cX12_unfold 27 = .ok (.ireturn, 1) := by decide +kernel
theorem dX12_unfold_28 : decode cX12_unfold 28 = .ok (.aload_n 0, 1) := by decide +kernel
theorem dX12_unfold_29 : decode cX12_unfold 29 = .ok (.invokevirtual 362, 3) := by decide +kernel
theorem dX12_unfold_32 : decode cX12_unfold 32 = .ok (.aload_n 0, 1) := by decide +kernel
theorem dX12_unfold_33 : decode cX12_unfold 33 = .ok (.getfield 9, 3) := by decide +kernel
theorem dX12_unfold_36 : decode cX12_unfold 36 = .ok (.bipush 7, 2) := by decide +kernel
theorem dX12_unfold_38 : decode cX12_unfold 38 = .ok (.dup2, 1) := by decide +kernel
theorem dX12_unfold_39 : decode cX12_unfold 39 = .ok (.iaload, 1) := by decide +kernel
theorem dX12_unfold_40 : decode cX12_unfold 40 = .ok (.iconst 1, 1) := by decide +kernel
theorem dX12_unfold_41 : decode cX12_unfold 41 = .ok (.isub, 1) := by decide +kernel
theorem dX12_unfold_42 : decode cX12_unfold 42 = .ok (.iastore, 1) := by decide +kernel
theorem dX12_unfold_43 : decode cX12_unfold 43 = .ok (.aload_n 0, 1) := by decide +kernel
theorem dX12_unfold_44 : decode cX12_unfold 44 = .ok (.aload_n 0, 1) := by decide +kernel
theorem dX12_unfold_45 : decode cX12_unfold 45 = .ok (.invokevirtual 343, 3) := by decide +kernel
theorem dX12_unfold_48 : decode cX12_unfold 48 = .ok (.invokevirtual 256, 3) := by decide +kernel
theorem dX12_unfold_51 : decode cX12_unfold 51 = .ok (.ireturn, 1) := by decide +kernel
theorem dX12_shake_0 : decode cX12_shake 0 = .ok (.aload_n 0, 1) := by decide +kernel
theorem dX12_shake_1 : decode cX12_shake 1 = .ok (.aload_n 0, 1) := by decide +kernel
theorem dX12_shake_2 : decode cX12_shake 2 = .ok (.getfield 9, 3) := by decide +kernel
theorem dX12_shake_5 : decode cX12_shake 5 = .ok (.bipush 7, 2) := by decide +kernel
theorem dX12_shake_7 : decode cX12_shake 7 = .ok (.iaload, 1) := by decide +kernel
theorem dX12_shake_8 : decode cX12_shake 8 = .ok (.ifCond .ne 7, 3) := by decide +kernel
theorem dX12_shake_11 : decode cX12_shake 11 = .ok (.iconst 1, 1) := by decide +kernel
theorem dX12_shake_12 : decode cX12_shake 12 = .ok (.goto 4, 3) := by decide +kernel
theorem dX12_shake_15 : decode cX12_shake 15 = .ok (.iconst 0, 1) := by decide +kernel
theorem dX12_shake_16 : decode cX12_shake 16 = .ok (.putfield 77, 3) := by decide +kernel
theorem dX12_shake_19 : decode cX12_shake 19 = .ok (.aload_n 0, 1) := by decide +kernel
theorem dX12_shake_20 : decode cX12_shake 20 = .ok (.getfield 77, 3) := by decide +kernel
theorem dX12_shake_23 : decode cX12_shake 23 = .ok (.ifCond .le 5, 3) := by decide +kernel
theorem dX12_shake_26 : decode cX12_shake 26 = .ok (.iconst 0, 1) := by decide +kernel
theorem dX12_shake_27 : decode cX12_shake 27 = .ok (.ireturn, 1) := by decide +kernel
theorem dX12_shake_28 : decode cX12_shake 28 = .ok (.aload_n 0, 1) := by decide +kernel
theorem dX12_shake_29 : decode cX12_shake 29 = .ok (.invokevirtual 362, 3) := by decide +kernel
theorem dX12_shake_32 : decode cX12_shake 32 = .ok (.aload_n 0, 1) := by decide +kernel
theorem dX12_shake_33 : decode cX12_shake 33 = .ok (.getfield 9, 3) := by decide +kernel
theorem dX12_shake_36 : decode cX12_shake 36 = .ok (.bipush 7, 2) := by decide +kernel
theorem dX12_shake_38 : decode cX12_shake 38 = .ok (.iaload, 1) := by decide +kernel
theorem dX12_shake_39 : decode cX12_shake 39 = .ok (.istore_n 1, 1) := by decide +kernel
theorem dX12_shake_40 : decode cX12_shake 40 = .ok (.aload_n 0, 1) := by decide +kernel
theorem dX12_shake_41 : decode cX12_shake 41 = .ok (.getfield 9, 3) := by decide +kernel
theorem dX12_shake_44 : decode cX12_shake 44 = .ok (.bipush 7, 2) := by decide +kernel
theorem dX12_shake_46 : decode cX12_shake 46 = .ok (.iconst 0, 1) := by decide +kernel
theorem dX12_shake_47 : decode cX12_shake 47 = .ok (.iastore, 1) := by decide +kernel
theorem dX12_shake_48 : decode cX12_shake 48 = .ok (.iload_n 1, 1) := by decide +kernel
theorem dX12_shake_49 : decode cX12_shake 49 = .ok (.ireturn, 1) := by decide +kernel
theorem dX12_amend_0 : decode cX12_amend 0 = .ok (.aload_n 0, 1) := by decide +kernel
theorem dX12_amend_1 : decode cX12_amend 1 = .ok (.aload_n 0, 1) := by decide +kernel
theorem dX12_amend_2 : decode cX12_amend 2 = .ok (.iload_n 1, 1) := by decide +kernel
theorem dX12_amend_3 : decode cX12_amend 3 = .ok (.i2l, 1) := by decide +kernel
theorem dX12_amend_4 : decode cX12_amend 4 = .ok (.invokevirtual 337, 3) := by decide +kernel
theorem dX12_amend_7 : decode cX12_amend 7 = .ok (.ifCond .ne 7, 3) := by decide +kernel
theorem dX12_amend_10 : decode cX12_amend 10 = .ok (.iconst 1, 1) := by decide +kernel
theorem dX12_amend_11 : decode cX12_amend 11 = .ok (.goto 30, 3) := by decide +kernel
theorem dX12_amend_14 : decode cX12_amend 14 = .ok (.iload_n 2, 1) := by decide +kernel
theorem dX12_amend_15 : decode cX12_amend 15 = .ok (.i2l, 1) := by decide +kernel
theorem dX12_amend_16 : decode cX12_amend 16 = .ok (.lconst 0, 1) := by decide +kernel
theorem dX12_amend_17 : decode cX12_amend 17 = .ok (.lconst 1, 1) := by decide +kernel
theorem dX12_amend_18 : decode cX12_amend 18 = .ok (.invokestatic 138, 3) := by decide +kernel
theorem dX12_amend_21 : decode cX12_amend 21 = .ok (.ifCond .eq 19, 3) := by decide +kernel
theorem dX12_amend_24 : decode cX12_amend 24 = .ok (.iload_n 3, 1) := by decide +kernel
theorem dX12_amend_25 : decode cX12_amend 25 = .ok (.i2l, 1) := by decide +kernel
theorem dX12_amend_26 : decode cX12_amend 26 = .ok (.lconst 0, 1) := by decide +kernel
theorem dX12_amend_27 : decode cX12_amend 27 = .ok (.ldc2_w 368, 3) := by decide +kernel
theorem dX12_amend_30 : decode cX12_amend 30 = .ok (.invokestatic 138, 3) := by decide +kernel
theorem dX12_amend_33 : decode cX12_amend 33 = .ok (.ifCond .eq 7, 3) := by decide +kernel
theorem dX12_amend_36 : decode cX12_amend 36 = .ok (.iconst 0, 1) := by decide +kernel
theorem dX12_amend_37 : decode cX12_amend 37 = .ok (.goto 4, 3) := by decide +kernel
theorem dX12_amend_40 : decode cX12_amend 40 = .ok (.iconst 2, 1) := by decide +kernel
theorem dX12_amend_41 : decode cX12_amend 41 = .ok (.putfield 77, 3) := by decide +kernel
theorem dX12_amend_44 : decode cX12_amend 44 = .ok (.aload_n 0, 1) := by decide +kernel
theorem dX12_amend_45 : decode cX12_amend 45 = .ok (.getfield 77, 3) := by decide +kernel
theorem dX12_amend_48 : decode cX12_amend 48 = .ok (.ifCond .le 5, 3) := by decide +kernel
theorem dX12_amend_51 : decode cX12_amend 51 = .ok (.iconst 0, 1) := by decide +kernel
theorem dX12_amend_52 : decode cX12_amend 52 = .ok (.ireturn, 1) := by decide +kernel
theorem dX12_amend_53 : decode cX12_amend 53 = .ok (.aload_n 0, 1) := by decide +kernel
theorem dX12_amend_54 : decode cX12_amend 54 = .ok (.invokevirtual 362, 3) := by decide +kernel
theorem dX12_amend_57 : decode cX12_amend 57 = .ok (.aload_n 0, 1) := by decide +kernel
theorem dX12_amend_58 : decode cX12_amend 58 = .ok (.getfield 9, 3) := by decide +kernel
theorem dX12_amend_61 : decode cX12_amend 61 = .ok (.bipush 13, 2) := by decide +kernel
theorem dX12_amend_63 : decode cX12_amend 63 = .ok (.bipush 6, 2) := by decide +kernel
theorem dX12_amend_65 : decode cX12_amend 65 = .ok (.iload_n 2, 1) := by decide +kernel
theorem dX12_amend_66 : decode cX12_amend 66 = .ok (.imul, 1) := by decide +kernel
theorem dX12_amend_67 : decode cX12_amend 67 = .ok (.iadd, 1) := by decide +kernel
theorem dX12_amend_68 : decode cX12_amend 68 = .ok (.iload_n 1, 1) := by decide +kernel
theorem dX12_amend_69 : decode cX12_amend 69 = .ok (.iadd, 1) := by decide +kernel
theorem dX12_amend_70 : decode cX12_amend 70 = .ok (.iaload, 1) := by decide +kernel
theorem dX12_amend_71 : decode cX12_amend 71 = .ok (.istore 4, 2) := by decide +kernel
theorem dX12_amend_73 : decode cX12_amend 73 = .ok (.aload_n 0, 1) := by decide +kernel
theorem dX12_amend_74 : decode cX12_amend 74 = .ok (.getfield 9, 3) := by decide +kernel
theorem dX12_amend_77 : decode cX12_amend 77 = .ok (.bipush 13, 2) := by decide +kernel
theorem dX12_amend_79 : decode cX12_amend 79 = .ok (.bipush 6, 2) := by decide +kernel
theorem dX12_amend_81 : decode cX12_amend 81 = .ok (.iload_n 2, 1) := by decide +kernel
theorem dX12_amend_82 : decode cX12_amend 82 = .ok (.imul, 1) := by decide +kernel
theorem dX12_amend_83 : decode cX12_amend 83 = .ok (.iadd, 1) := by decide +kernel
theorem dX12_amend_84 : decode cX12_amend 84 = .ok (.iload_n 1, 1) := by decide +kernel
theorem dX12_amend_85 : decode cX12_amend 85 = .ok (.iadd, 1) := by decide +kernel
theorem dX12_amend_86 : decode cX12_amend 86 = .ok (.iload_n 3, 1) := by decide +kernel
theorem dX12_amend_87 : decode cX12_amend 87 = .ok (.iastore, 1) := by decide +kernel
theorem dX12_amend_88 : decode cX12_amend 88 = .ok (.iload 4, 2) := by decide +kernel
theorem dX12_amend_90 : decode cX12_amend 90 = .ok (.ireturn, 1) := by decide +kernel
theorem dX12_undo_0 : decode cX12_undo 0 = .ok (.aload_n 0, 1) := by decide +kernel
theorem dX12_undo_1 : decode cX12_undo 1 = .ok (.iconst 0, 1) := by decide +kernel
theorem dX12_undo_2 : decode cX12_undo 2 = .ok (.putfield 77, 3) := by decide +kernel
theorem dX12_undo_5 : decode cX12_undo 5 = .ok (.iload_n 1, 1) := by decide +kernel
theorem dX12_undo_6 : decode cX12_undo 6 = .ok (.i2l, 1) := by decide +kernel
theorem dX12_undo_7 : decode cX12_undo 7 = .ok (.lconst 1, 1) := by decide +kernel
theorem dX12_undo_8 : decode cX12_undo 8 = .ok (.ldc2_w 370, 3) := by decide +kernel
theorem dX12_undo_11 : decode cX12_undo 11 = .ok (.invokestatic 138, 3) := by decide +kernel
theorem dX12_undo_14 : decode cX12_undo 14 = .ok (.ifCond .eq 14, 3) := by decide +kernel
theorem dX12_undo_17 : decode cX12_undo 17 = .ok (.iload_n 1, 1) := by decide +kernel
theorem dX12_undo_18 : decode cX12_undo 18 = .ok (.aload_n 0, 1) := by decide +kernel
theorem dX12_undo_19 : decode cX12_undo 19 = .ok (.getfield 9, 3) := by decide +kernel
theorem dX12_undo_22 : decode cX12_undo 22 = .ok (.bipush 6, 2) := by decide +kernel
theorem dX12_undo_24 : decode cX12_undo 24 = .ok (.iaload, 1) := by decide +kernel
theorem dX12_undo_25 : decode cX12_undo 25 = .ok (.if_icmp .le 9, 3) := by decide +kernel
theorem dX12_undo_28 : decode cX12_undo 28 = .ok (.aload_n 0, 1) := by decide +kernel
theorem dX12_undo_29 : decode cX12_undo 29 = .ok (.iconst 1, 1) := by decide +kernel
theorem dX12_undo_30 : decode cX12_undo 30 = .ok (.invokevirtual 244, 3) := by decide +kernel
theorem dX12_undo_33 : decode cX12_undo 33 = .ok (.ireturn, 1) := by decide +kernel
theorem dX12_undo_34 : decode cX12_undo 34 = .ok (.aload_n 0, 1) := by decide +kernel
theorem dX12_undo_35 : decode cX12_undo 35 = .ok (.getfield 9, 3) := by decide +kernel
theorem dX12_undo_38 : decode cX12_undo 38 = .ok (.bipush 6, 2) := by decide +kernel
theorem dX12_undo_40 : decode cX12_undo 40 = .ok (.dup2, 1) := by decide +kernel
theorem dX12_undo_41 : decode cX12_undo 41 = .ok (.iaload, 1) := by decide +kernel
theorem dX12_undo_42 : decode cX12_undo 42 = .ok (.iload_n 1, 1) := by decide +kernel
theorem dX12_undo_43 : decode cX12_undo 43 = .ok (.isub, 1) := by decide +kernel
theorem dX12_undo_44 : decode cX12_undo 44 = .ok (.iastore, 1) := by decide +kernel
theorem dX12_undo_45 : decode cX12_undo 45 = .ok (.iconst 0, 1) := by decide +kernel
theorem dX12_undo_46 : decode cX12_undo 46 = .ok (.istore_n 2, 1) := by decide +kernel
theorem dX12_undo_47 : decode cX12_undo 47 = .ok (.iload_n 2, 1) := by decide +kernel
theorem dX12_undo_48 : decode cX12_undo 48 = .ok (.bipush 18, 2) := by decide +kernel
theorem dX12_undo_50 : decode cX12_undo 50 = .ok (.if_icmp .ge 38, 3) := by decide +kernel
theorem dX12_undo_53 : decode cX12_undo 53 = .ok (.aload_n 0, 1) := by decide +kernel
theorem dX12_undo_54 : decode cX12_undo 54 = .ok (.getfield 9, 3) := by decide +kernel
theorem dX12_undo_57 : decode cX12_undo 57 = .ok (.bipush 7, 2) := by decide +kernel
theorem dX12_undo_59 : decode cX12_undo 59 = .ok (.iload_n 2, 1) := by decide +kernel
theorem dX12_undo_60 : decode cX12_undo 60 = .ok (.iadd, 1) := by decide +kernel
theorem dX12_undo_61 : decode cX12_undo 61 = .ok (.aload_n 0, 1) := by decide +kernel
theorem dX12_undo_62 : decode cX12_undo 62 = .ok (.getfield 9, 3) := by decide +kernel
theorem dX12_undo_65 : decode cX12_undo 65 = .ok (.bipush 29, 2) := by decide +kernel
theorem dX12_undo_67 : decode cX12_undo 67 = .ok (.bipush 18, 2) := by decide +kernel
theorem dX12_undo_69 : decode cX12_undo 69 = .ok (.aload_n 0, 1) := by decide +kernel
theorem dX12_undo_70 : decode cX12_undo 70 = .ok (.getfield 9, 3) := by decide +kernel
theorem dX12_undo_73 : decode cX12_undo 73 = .ok (.bipush 6, 2) := by decide +kernel
theorem dX12_undo_75 : decode cX12_undo 75 = .ok (.iaload, 1) := by decide +kernel
theorem dX12_undo_76 : decode cX12_undo 76 = .ok (.imul, 1) := by decide +kernel
theorem dX12_undo_77 : decode cX12_undo 77 = .ok (.iadd, 1) := by decide +kernel
theorem dX12_undo_78 : decode cX12_undo 78 = .ok (.iload_n 2, 1) := by decide +kernel
theorem dX12_undo_79 : decode cX12_undo 79 = .ok (.iadd, 1) := by decide +kernel
theorem dX12_undo_80 : decode cX12_undo 80 = .ok (.iaload, 1) := by decide +kernel
theorem dX12_undo_81 : decode cX12_undo 81 = .ok (.iastore, 1) := by decide +kernel
theorem dX12_undo_82 : decode cX12_undo 82 = .ok (.iinc 2 1, 3) := by decide +kernel
theorem dX12_undo_85 : decode cX12_undo 85 = .ok (.goto (-38), 3) := by decide +kernel
theorem dX12_undo_88 : decode cX12_undo 88 = .ok (.aload_n 0, 1) := by decide +kernel
theorem dX12_undo_89 : decode cX12_undo 89 = .ok (.getfield 9, 3) := by decide +kernel
theorem dX12_undo_92 : decode cX12_undo 92 = .ok (.bipush 6, 2) := by decide +kernel
theorem dX12_undo_94 : decode cX12_undo 94 = .ok (.iaload, 1) := by decide +kernel
theorem dX12_undo_95 : decode cX12_undo 95 = .ok (.ireturn, 1) := by decide +kernel
theorem dX12_trayFault_0 : decode cX12_trayFault 0 = .ok (.iload_n 1, 1) := by decide +kernel
theorem dX12_trayFault_1 : decode cX12_trayFault 1 = .ok (.invokestatic 372, 3) := by decide +kernel
theorem dX12_trayFault_4 : decode cX12_trayFault 4 = .ok (.ifCond .ne 7, 3) := by decide +kernel
theorem dX12_trayFault_7 : decode cX12_trayFault 7 = .ok (.iconst 1, 1) := by decide +kernel
theorem dX12_trayFault_8 : decode cX12_trayFault 8 = .ok (.goto 18, 3) := by decide +kernel
theorem dX12_trayFault_11 : decode cX12_trayFault 11 = .ok (.aload_n 0, 1) := by decide +kernel
theorem dX12_trayFault_12 : decode cX12_trayFault 12 = .ok (.getfield 68, 3) := by decide +kernel
theorem dX12_trayFault_15 : decode cX12_trayFault 15 = .ok (.iload_n 1, 1) := by decide +kernel
theorem dX12_trayFault_16 : decode cX12_trayFault 16 = .ok (.iaload, 1) := by decide +kernel
theorem dX12_trayFault_17 : decode cX12_trayFault 17 = .ok (.iconst (-1), 1) := by decide +kernel
theorem dX12_trayFault_18 : decode cX12_trayFault 18 = .ok (.if_icmp .ne 7, 3) := by decide +kernel
theorem dX12_trayFault_21 : decode cX12_trayFault 21 = .ok (.iconst 2, 1) := by decide +kernel
theorem dX12_trayFault_22 : decode cX12_trayFault 22 = .ok (.goto 4, 3) := by decide +kernel
theorem dX12_trayFault_25 : decode cX12_trayFault 25 = .ok (.iconst 0, 1) := by decide +kernel
theorem dX12_trayFault_26 : decode cX12_trayFault 26 = .ok (.ireturn, 1) := by decide +kernel
theorem dX12_whyTold_0 : decode cX12_whyTold 0 = .ok (.lload_n 1, 1) := by decide +kernel
theorem dX12_whyTold_1 : decode cX12_whyTold 1 = .ok (.ldc2_w 375, 3) := by decide +kernel
theorem dX12_whyTold_4 : decode cX12_whyTold 4 = .ok (.lcmp, 1) := by decide +kernel
theorem dX12_whyTold_5 : decode cX12_whyTold 5 = .ok (.ifCond .ne 5, 3) := by decide +kernel
theorem dX12_whyTold_8 : decode cX12_whyTold 8 = .ok (.iconst 0, 1) := by decide +kernel
theorem dX12_whyTold_9 : decode cX12_whyTold 9 = .ok (.ireturn, 1) := by decide +kernel
theorem dX12_whyTold_10 : decode cX12_whyTold 10 = .ok (.lload_n 1, 1) := by decide +kernel
theorem dX12_whyTold_11 : decode cX12_whyTold 11 = .ok (.lconst 0, 1) := by decide +kernel
theorem dX12_whyTold_12 : decode cX12_whyTold 12 = .ok (.ldc2_w 368, 3) := by decide +kernel
theorem dX12_whyTold_15 : decode cX12_whyTold 15 = .ok (.invokestatic 138, 3) := by decide +kernel
theorem dX12_whyTold_18 : decode cX12_whyTold 18 = .ok (.ifCond .eq 30, 3) := by decide +kernel
theorem dX12_whyTold_21 : decode cX12_whyTold 21 = .ok (.aload_n 0, 1) := by decide +kernel
theorem dX12_whyTold_22 : decode cX12_whyTold 22 = .ok (.aload_n 0, 1) := by decide +kernel
theorem dX12_whyTold_23 : decode cX12_whyTold 23 = .ok (.invokevirtual 343, 3) := by decide +kernel
theorem dX12_whyTold_26 : decode cX12_whyTold 26 = .ok (.lload_n 1, 1) := by decide +kernel
theorem dX12_whyTold_27 : decode cX12_whyTold 27 = .ok (.ldc2_w 370, 3) := by decide +kernel
theorem dX12_whyTold_30 : decode cX12_whyTold 30 = .ok (.ldiv, 1) := by decide +kernel
theorem dX12_whyTold_31 : decode cX12_whyTold 31 = .ok (.lload_n 1, 1) := by decide +kernel
theorem dX12_whyTold_32 : decode cX12_whyTold 32 = .ok (.ldc2_w 370, 3) := by decide +kernel
theorem dX12_whyTold_35 : decode cX12_whyTold 35 = .ok (.lrem, 1) := by decide +kernel
theorem dX12_whyTold_36 : decode cX12_whyTold 36 = .ok (.invokevirtual 358, 3) := by decide +kernel
theorem dX12_whyTold_39 : decode cX12_whyTold 39 = .ok (.ifCond .eq 7, 3) := by decide +kernel
theorem dX12_whyTold_42 : decode cX12_whyTold 42 = .ok (.iconst 0, 1) := by decide +kernel
theorem dX12_whyTold_43 : decode cX12_whyTold 43 = .ok (.goto 4, 3) := by decide +kernel
theorem dX12_whyTold_46 : decode cX12_whyTold 46 = .ok (.iconst 1, 1) := by decide +kernel
theorem dX12_whyTold_47 : decode cX12_whyTold 47 = .ok (.ireturn, 1) := by decide +kernel
theorem dX12_whyTold_48 : decode cX12_whyTold 48 = .ok (.lload_n 1, 1) := by decide +kernel
theorem dX12_whyTold_49 : decode cX12_whyTold 49 = .ok (.ldc2_w 377, 3) := by decide +kernel
theorem dX12_whyTold_52 : decode cX12_whyTold 52 = .ok (.lcmp, 1) := by decide +kernel
theorem dX12_whyTold_53 : decode cX12_whyTold 53 = .ok (.ifCond .eq 11, 3) := by decide +kernel
theorem dX12_whyTold_56 : decode cX12_whyTold 56 = .ok (.lload_n 1, 1) := by decide +kernel
theorem dX12_whyTold_57 : decode cX12_whyTold 57 = .ok (.ldc2_w 379, 3) := by decide +kernel
theorem dX12_whyTold_60 : decode cX12_whyTold 60 = .ok (.lcmp, 1) := by decide +kernel
theorem dX12_whyTold_61 : decode cX12_whyTold 61 = .ok (.ifCond .ne 19, 3) := by decide +kernel
theorem dX12_whyTold_64 : decode cX12_whyTold 64 = .ok (.aload_n 0, 1) := by decide +kernel
theorem dX12_whyTold_65 : decode cX12_whyTold 65 = .ok (.getfield 9, 3) := by decide +kernel
theorem dX12_whyTold_68 : decode cX12_whyTold 68 = .ok (.bipush 7, 2) := by decide +kernel
theorem dX12_whyTold_70 : decode cX12_whyTold 70 = .ok (.iaload, 1) := by decide +kernel
theorem dX12_whyTold_71 : decode cX12_whyTold 71 = .ok (.ifCond .ne 7, 3) := by decide +kernel
theorem dX12_whyTold_74 : decode cX12_whyTold 74 = .ok (.iconst 2, 1) := by decide +kernel
theorem dX12_whyTold_75 : decode cX12_whyTold 75 = .ok (.goto 4, 3) := by decide +kernel
theorem dX12_whyTold_78 : decode cX12_whyTold 78 = .ok (.iconst 0, 1) := by decide +kernel
theorem dX12_whyTold_79 : decode cX12_whyTold 79 = .ok (.ireturn, 1) := by decide +kernel
theorem dX12_whyTold_80 : decode cX12_whyTold 80 = .ok (.lload_n 1, 1) := by decide +kernel
theorem dX12_whyTold_81 : decode cX12_whyTold 81 = .ok (.ldc2_w 381, 3) := by decide +kernel
theorem dX12_whyTold_84 : decode cX12_whyTold 84 = .ok (.ldc2_w 383, 3) := by decide +kernel
theorem dX12_whyTold_87 : decode cX12_whyTold 87 = .ok (.invokestatic 138, 3) := by decide +kernel
theorem dX12_whyTold_90 : decode cX12_whyTold 90 = .ok (.ifCond .ne 16, 3) := by decide +kernel
theorem dX12_whyTold_93 : decode cX12_whyTold 93 = .ok (.lload_n 1, 1) := by decide +kernel
theorem dX12_whyTold_94 : decode cX12_whyTold 94 = .ok (.ldc2_w 385, 3) := by decide +kernel
theorem dX12_whyTold_97 : decode cX12_whyTold 97 = .ok (.ldc2_w 387, 3) := by decide +kernel
theorem dX12_whyTold_100 : decode cX12_whyTold 100 = .ok (.invokestatic 138, 3) := by decide +kernel
theorem dX12_whyTold_103 : decode cX12_whyTold 103 = .ok (.ifCond .eq 27, 3) := by decide +kernel
theorem dX12_whyTold_106 : decode cX12_whyTold 106 = .ok (.aload_n 0, 1) := by decide +kernel
theorem dX12_whyTold_107 : decode cX12_whyTold 107 = .ok (.lload_n 1, 1) := by decide +kernel
theorem dX12_whyTold_108 : decode cX12_whyTold 108 = .ok (.ldc2_w 381, 3) := by decide +kernel
theorem dX12_whyTold_111 : decode cX12_whyTold 111 = .ok (.lrem, 1) := by decide +kernel
theorem dX12_whyTold_112 : decode cX12_whyTold 112 = .ok (.ldc2_w 377, 3) := by decide +kernel
theorem dX12_whyTold_115 : decode cX12_whyTold 115 = .ok (.ldiv, 1) := by decide +kernel
theorem dX12_whyTold_116 : decode cX12_whyTold 116 = .ok (.invokevirtual 337, 3) := by decide +kernel
theorem dX12_whyTold_119 : decode cX12_whyTold 119 = .ok (.ifCond .eq 7, 3) := by decide +kernel
theorem dX12_whyTold_122 : decode cX12_whyTold 122 = .ok (.iconst 0, 1) := by decide +kernel
theorem dX12_whyTold_123 : decode cX12_whyTold 123 = .ok (.goto 8, 3) := by decide +kernel
theorem dX12_whyTold_126 : decode cX12_whyTold 126 = .ok (.iconst 1, 1) := by decide +kernel
theorem dX12_whyTold_127 : decode cX12_whyTold 127 = .ok (.goto 4, 3) := by decide +kernel
theorem dX12_whyTold_130 : decode cX12_whyTold 130 = .ok (.iconst 1, 1) := by decide +kernel
theorem dX12_whyTold_131 : decode cX12_whyTold 131 = .ok (.ireturn, 1) := by decide +kernel
theorem dX12_does_0 : decode cX12_does 0 = .ok (.iload_n 1, 1) := by decide +kernel
theorem dX12_does_1 : decode cX12_does 1 = .ok (.iconst (-1), 1) := by decide +kernel
theorem dX12_does_2 : decode cX12_does 2 = .ok (.if_icmp .ne 4, 3) := by decide +kernel
theorem dX12_does_5 : decode cX12_does 5 = .ok (.return_, 1) := by decide +kernel
theorem dX12_does_6 : decode cX12_does 6 = .ok (.iload_n 1, 1) := by decide +kernel
theorem dX12_does_7 : decode cX12_does 7 = .ok (.bipush 100, 2) := by decide +kernel
theorem dX12_does_9 : decode cX12_does 9 = .ok (.if_icmp .ge 11, 3) := by decide +kernel
theorem dX12_does_12 : decode cX12_does 12 = .ok (.aload_n 0, 1) := by decide +kernel
theorem dX12_does_13 : decode cX12_does 13 = .ok (.iload_n 1, 1) := by decide +kernel
theorem dX12_does_14 : decode cX12_does 14 = .ok (.invokevirtual 365, 3) := by decide +kernel
theorem dX12_does_17 : decode cX12_does 17 = .ok (.goto 72, 3) := by decide +kernel
theorem dX12_does_20 : decode cX12_does 20 = .ok (.iload_n 1, 1) := by decide +kernel
theorem dX12_does_21 : decode cX12_does 21 = .ok (.bipush 100, 2) := by decide +kernel
theorem dX12_does_23 : decode cX12_does 23 = .ok (.if_icmp .ne 17, 3) := by decide +kernel
theorem dX12_does_26 : decode cX12_does 26 = .ok (.aload_n 0, 1) := by decide +kernel
theorem dX12_does_27 : decode cX12_does 27 = .ok (.getfield 9, 3) := by decide +kernel
theorem dX12_does_30 : decode cX12_does 30 = .ok (.bipush 7, 2) := by decide +kernel
theorem dX12_does_32 : decode cX12_does 32 = .ok (.dup2, 1) := by decide +kernel
theorem dX12_does_33 : decode cX12_does 33 = .ok (.iaload, 1) := by decide +kernel
theorem dX12_does_34 : decode cX12_does 34 = .ok (.iconst 1, 1) := by decide +kernel
theorem dX12_does_35 : decode cX12_does 35 = .ok (.isub, 1) := by decide +kernel
theorem dX12_does_36 : decode cX12_does 36 = .ok (.iastore, 1) := by decide +kernel
theorem dX12_does_37 : decode cX12_does 37 = .ok (.goto 52, 3) := by decide +kernel
theorem dX12_does_40 : decode cX12_does 40 = .ok (.iload_n 1, 1) := by decide +kernel
theorem dX12_does_41 : decode cX12_does 41 = .ok (.sipush 200, 3) := by decide +kernel
theorem dX12_does_44 : decode cX12_does 44 = .ok (.if_icmp .ne 14, 3) := by decide +kernel
theorem dX12_does_47 : decode cX12_does 47 = .ok (.aload_n 0, 1) := by decide +kernel
theorem dX12_does_48 : decode cX12_does 48 = .ok (.getfield 9, 3) := by decide +kernel
theorem dX12_does_51 : decode cX12_does 51 = .ok (.bipush 7, 2) := by decide +kernel
theorem dX12_does_53 : decode cX12_does 53 = .ok (.iconst 0, 1) := by decide +kernel
theorem dX12_does_54 : decode cX12_does 54 = .ok (.iastore, 1) := by decide +kernel
theorem dX12_does_55 : decode cX12_does 55 = .ok (.goto 34, 3) := by decide +kernel
theorem dX12_does_58 : decode cX12_does 58 = .ok (.aload_n 0, 1) := by decide +kernel
theorem dX12_does_59 : decode cX12_does 59 = .ok (.getfield 9, 3) := by decide +kernel
theorem dX12_does_62 : decode cX12_does 62 = .ok (.bipush 13, 2) := by decide +kernel
theorem dX12_does_64 : decode cX12_does 64 = .ok (.bipush 6, 2) := by decide +kernel
theorem dX12_does_66 : decode cX12_does 66 = .ok (.iload_n 1, 1) := by decide +kernel
theorem dX12_does_67 : decode cX12_does 67 = .ok (.sipush 1000, 3) := by decide +kernel
theorem dX12_does_70 : decode cX12_does 70 = .ok (.idiv, 1) := by decide +kernel
theorem dX12_does_71 : decode cX12_does 71 = .ok (.iconst 1, 1) := by decide +kernel
theorem dX12_does_72 : decode cX12_does 72 = .ok (.isub, 1) := by decide +kernel
theorem dX12_does_73 : decode cX12_does 73 = .ok (.imul, 1) := by decide +kernel
theorem dX12_does_74 : decode cX12_does 74 = .ok (.iadd, 1) := by decide +kernel
theorem dX12_does_75 : decode cX12_does 75 = .ok (.iload_n 1, 1) := by decide +kernel
theorem dX12_does_76 : decode cX12_does 76 = .ok (.sipush 1000, 3) := by decide +kernel
theorem dX12_does_79 : decode cX12_does 79 = .ok (.irem, 1) := by decide +kernel
theorem dX12_does_80 : decode cX12_does 80 = .ok (.bipush 100, 2) := by decide +kernel
theorem dX12_does_82 : decode cX12_does 82 = .ok (.idiv, 1) := by decide +kernel
theorem dX12_does_83 : decode cX12_does 83 = .ok (.iadd, 1) := by decide +kernel
theorem dX12_does_84 : decode cX12_does 84 = .ok (.iload_n 1, 1) := by decide +kernel
theorem dX12_does_85 : decode cX12_does 85 = .ok (.bipush 100, 2) := by decide +kernel
theorem dX12_does_87 : decode cX12_does 87 = .ok (.irem, 1) := by decide +kernel
theorem dX12_does_88 : decode cX12_does 88 = .ok (.iastore, 1) := by decide +kernel
theorem dX12_does_89 : decode cX12_does 89 = .ok (.return_, 1) := by decide +kernel
theorem dX12_judge_0 : decode cX12_judge 0 = .ok (.aload_n 0, 1) := by decide +kernel
theorem dX12_judge_1 : decode cX12_judge 1 = .ok (.aload_n 0, 1) := by decide +kernel
theorem dX12_judge_2 : decode cX12_judge 2 = .ok (.iload_n 1, 1) := by decide +kernel
theorem dX12_judge_3 : decode cX12_judge 3 = .ok (.invokevirtual 389, 3) := by decide +kernel
theorem dX12_judge_6 : decode cX12_judge 6 = .ok (.putfield 77, 3) := by decide +kernel
theorem dX12_judge_9 : decode cX12_judge 9 = .ok (.aload_n 0, 1) := by decide +kernel
theorem dX12_judge_10 : decode cX12_judge 10 = .ok (.getfield 77, 3) := by decide +kernel
theorem dX12_judge_13 : decode cX12_judge 13 = .ok (.ifCond .ne 20, 3) := by decide +kernel
theorem dX12_judge_16 : decode cX12_judge 16 = .ok (.iload_n 2, 1) := by decide +kernel
theorem dX12_judge_17 : decode cX12_judge 17 = .ok (.i2l, 1) := by decide +kernel
theorem dX12_judge_18 : decode cX12_judge 18 = .ok (.lconst 0, 1) := by decide +kernel
theorem dX12_judge_19 : decode cX12_judge 19 = .ok (.ldc2_w 259, 3) := by decide +kernel
theorem dX12_judge_22 : decode cX12_judge 22 = .ok (.invokestatic 138, 3) := by decide +kernel
theorem dX12_judge_25 : decode cX12_judge 25 = .ok (.ifCond .ne 8, 3) := by decide +kernel
theorem dX12_judge_28 : decode cX12_judge 28 = .ok (.aload_n 0, 1) := by decide +kernel
theorem dX12_judge_29 : decode cX12_judge 29 = .ok (.iconst 3, 1) := by decide +kernel
theorem dX12_judge_30 : decode cX12_judge 30 = .ok (.putfield 77, 3) := by decide +kernel
theorem dX12_judge_33 : decode cX12_judge 33 = .ok (.aload_n 0, 1) := by decide +kernel
theorem dX12_judge_34 : decode cX12_judge 34 = .ok (.getfield 77, 3) := by decide +kernel
theorem dX12_judge_37 : decode cX12_judge 37 = .ok (.ifCond .le 5, 3) := by decide +kernel
theorem dX12_judge_40 : decode cX12_judge 40 = .ok (.iconst 0, 1) := by decide +kernel
theorem dX12_judge_41 : decode cX12_judge 41 = .ok (.ireturn, 1) := by decide +kernel
theorem dX12_judge_42 : decode cX12_judge 42 = .ok (.aload_n 0, 1) := by decide +kernel
theorem dX12_judge_43 : decode cX12_judge 43 = .ok (.invokevirtual 392, 3) := by decide +kernel
theorem dX12_judge_46 : decode cX12_judge 46 = .ok (.iconst (-1), 1) := by decide +kernel
theorem dX12_judge_47 : decode cX12_judge 47 = .ok (.istore_n 3, 1) := by decide +kernel
theorem dX12_judge_48 : decode cX12_judge 48 = .ok (.iconst 0, 1) := by decide +kernel
theorem dX12_judge_49 : decode cX12_judge 49 = .ok (.istore 4, 2) := by decide +kernel
theorem dX12_judge_51 : decode cX12_judge 51 = .ok (.iconst 0, 1) := by decide +kernel
theorem dX12_judge_52 : decode cX12_judge 52 = .ok (.istore 5, 2) := by decide +kernel
theorem dX12_judge_54 : decode cX12_judge 54 = .ok (.iload 5, 2) := by decide +kernel
theorem dX12_judge_56 : decode cX12_judge 56 = .ok (.aload_n 0, 1) := by decide +kernel
theorem dX12_judge_57 : decode cX12_judge 57 = .ok (.getfield 71, 3) := by decide +kernel
theorem dX12_judge_60 : decode cX12_judge 60 = .ok (.iload_n 1, 1) := by decide +kernel
theorem dX12_judge_61 : decode cX12_judge 61 = .ok (.iaload, 1) := by decide +kernel
theorem dX12_judge_62 : decode cX12_judge 62 = .ok (.if_icmp .ge 60, 3) := by decide +kernel
theorem dX12_judge_65 : decode cX12_judge 65 = .ok (.iload_n 3, 1) := by decide +kernel
theorem dX12_judge_66 : decode cX12_judge 66 = .ok (.iconst (-1), 1) := by decide +kernel
theorem dX12_judge_67 : decode cX12_judge 67 = .ok (.if_icmp .ne 55, 3) := by decide +kernel
theorem dX12_judge_70 : decode cX12_judge 70 = .ok (.aload_n 0, 1) := by decide +kernel
theorem dX12_judge_71 : decode cX12_judge 71 = .ok (.aload_n 0, 1) := by decide +kernel
theorem dX12_judge_72 : decode cX12_judge 72 = .ok (.getfield 74, 3) := by decide +kernel
theorem dX12_judge_75 : decode cX12_judge 75 = .ok (.bipush 30, 2) := by decide +kernel
theorem dX12_judge_77 : decode cX12_judge 77 = .ok (.iload_n 1, 1) := by decide +kernel
theorem dX12_judge_78 : decode cX12_judge 78 = .ok (.imul, 1) := by decide +kernel
theorem dX12_judge_79 : decode cX12_judge 79 = .ok (.iload 5, 2) := by decide +kernel
theorem dX12_judge_81 : decode cX12_judge 81 = .ok (.iadd, 1) := by decide +kernel
theorem dX12_judge_82 : decode cX12_judge 82 = .ok (.laload, 1) := by decide +kernel
theorem dX12_judge_83 : decode cX12_judge 83 = .ok (.invokevirtual 395, 3) := by decide +kernel
theorem dX12_judge_86 : decode cX12_judge 86 = .ok (.istore 4, 2) := by decide +kernel
theorem dX12_judge_88 : decode cX12_judge 88 = .ok (.iload 4, 2) := by decide +kernel
theorem dX12_judge_90 : decode cX12_judge 90 = .ok (.ifCond .ne 23, 3) := by decide +kernel
theorem dX12_judge_93 : decode cX12_judge 93 = .ok (.aload_n 0, 1) := by decide +kernel
theorem dX12_judge_94 : decode cX12_judge 94 = .ok (.aload_n 0, 1) := by decide +kernel
theorem dX12_judge_95 : decode cX12_judge 95 = .ok (.getfield 74, 3) := by decide +kernel
theorem dX12_judge_98 : decode cX12_judge 98 = .ok (.bipush 30, 2) := by decide +kernel
theorem dX12_judge_100 : decode cX12_judge 100 = .ok (.iload_n 1, 1) := by decide +kernel
theorem dX12_judge_101 : decode cX12_judge 101 = .ok (.imul, 1) := by decide +kernel
theorem dX12_judge_102 : decode cX12_judge 102 = .ok (.iload 5, 2) := by decide +kernel
theorem dX12_judge_104 : decode cX12_judge 104 = .ok (.iadd, 1) := by decide +kernel
theorem dX12_judge_105 : decode cX12_judge 105 = .ok (.laload, 1) := by decide +kernel
theorem dX12_judge_106 : decode cX12_judge 106 = .ok (.l2i, 1) := by decide +kernel
theorem dX12_judge_107 : decode cX12_judge 107 = .ok (.invokevirtual 398, 3) := by decide +kernel
theorem dX12_judge_110 : decode cX12_judge 110 = .ok (.goto 6, 3) := by decide +kernel
theorem dX12_judge_113 : decode cX12_judge 113 = .ok (.iload 5, 2) := by decide +kernel
theorem dX12_judge_115 : decode cX12_judge 115 = .ok (.istore_n 3, 1) := by decide +kernel
theorem dX12_judge_116 : decode cX12_judge 116 = .ok (.iinc 5 1, 3) := by decide +kernel
theorem dX12_judge_119 : decode cX12_judge 119 = .ok (.goto (-65), 3) := by decide +kernel
theorem dX12_judge_122 : decode cX12_judge 122 = .ok (.aload_n 0, 1) := by decide +kernel
theorem dX12_judge_123 : decode cX12_judge 123 = .ok (.aload_n 0, 1) := by decide +kernel
theorem dX12_judge_124 : decode cX12_judge 124 = .ok (.invokevirtual 343, 3) := by decide +kernel
theorem dX12_judge_127 : decode cX12_judge 127 = .ok (.invokevirtual 256, 3) := by decide +kernel
theorem dX12_judge_130 : decode cX12_judge 130 = .ok (.istore 5, 2) := by decide +kernel
theorem dX12_judge_132 : decode cX12_judge 132 = .ok (.aload_n 0, 1) := by decide +kernel
theorem dX12_judge_133 : decode cX12_judge 133 = .ok (.getfield 9, 3) := by decide +kernel
theorem dX12_judge_136 : decode cX12_judge 136 = .ok (.bipush 7, 2) := by decide +kernel
theorem dX12_judge_138 : decode cX12_judge 138 = .ok (.iaload, 1) := by decide +kernel
theorem dX12_judge_139 : decode cX12_judge 139 = .ok (.istore 6, 2) := by decide +kernel
theorem dX12_judge_141 : decode cX12_judge 141 = .ok (.aload_n 0, 1) := by decide +kernel
theorem dX12_judge_142 : decode cX12_judge 142 = .ok (.invokevirtual 401, 3) := by decide +kernel
theorem dX12_judge_145 : decode cX12_judge 145 = .ok (.iload_n 2, 1) := by decide +kernel
theorem dX12_judge_146 : decode cX12_judge 146 = .ok (.ifCond .ne 7, 3) := by decide +kernel
theorem dX12_judge_149 : decode cX12_judge 149 = .ok (.iload_n 3, 1) := by decide +kernel
theorem dX12_judge_150 : decode cX12_judge 150 = .ok (.goto 25, 3) := by decide +kernel
theorem dX12_judge_153 : decode cX12_judge 153 = .ok (.iload_n 2, 1) := by decide +kernel
theorem dX12_judge_154 : decode cX12_judge 154 = .ok (.iconst 1, 1) := by decide +kernel
theorem dX12_judge_155 : decode cX12_judge 155 = .ok (.if_icmp .ne 8, 3) := by decide +kernel
theorem dX12_judge_158 : decode cX12_judge 158 = .ok (.iload 4, 2) := by decide +kernel
theorem dX12_judge_160 : decode cX12_judge 160 = .ok (.goto 15, 3) := by decide +kernel
theorem dX12_judge_163 : decode cX12_judge 163 = .ok (.iload_n 2, 1) := by decide +kernel
theorem dX12_judge_164 : decode cX12_judge 164 = .ok (.iconst 2, 1) := by decide +kernel
theorem dX12_judge_165 : decode cX12_judge 165 = .ok (.if_icmp .ne 8, 3) := by decide +kernel
theorem dX12_judge_168 : decode cX12_judge 168 = .ok (.iload 5, 2) := by decide +kernel
theorem dX12_judge_170 : decode cX12_judge 170 = .ok (.goto 5, 3) := by decide +kernel
theorem dX12_judge_173 : decode cX12_judge 173 = .ok (.iload 6, 2) := by decide +kernel
theorem dX12_judge_175 : decode cX12_judge 175 = .ok (.ireturn, 1) := by decide +kernel
theorem dX12_perform_0 : decode cX12_perform 0 = .ok (.aload_n 0, 1) := by decide +kernel
theorem dX12_perform_1 : decode cX12_perform 1 = .ok (.aload_n 0, 1) := by decide +kernel
theorem dX12_perform_2 : decode cX12_perform 2 = .ok (.iload_n 1, 1) := by decide +kernel
theorem dX12_perform_3 : decode cX12_perform 3 = .ok (.invokevirtual 389, 3) := by decide +kernel
theorem dX12_perform_6 : decode cX12_perform 6 = .ok (.putfield 77, 3) := by decide +kernel
theorem dX12_perform_9 : decode cX12_perform 9 = .ok (.aload_n 0, 1) := by decide +kernel
theorem dX12_perform_10 : decode cX12_perform 10 = .ok (.getfield 77, 3) := by decide +kernel
theorem dX12_perform_13 : decode cX12_perform 13 = .ok (.ifCond .le 5, 3) := by decide +kernel
theorem dX12_perform_16 : decode cX12_perform 16 = .ok (.iconst 0, 1) := by decide +kernel
theorem dX12_perform_17 : decode cX12_perform 17 = .ok (.ireturn, 1) := by decide +kernel
theorem dX12_perform_18 : decode cX12_perform 18 = .ok (.iconst 0, 1) := by decide +kernel
theorem dX12_perform_19 : decode cX12_perform 19 = .ok (.istore_n 2, 1) := by decide +kernel
theorem dX12_perform_20 : decode cX12_perform 20 = .ok (.iload_n 2, 1) := by decide +kernel
theorem dX12_perform_21 : decode cX12_perform 21 = .ok (.aload_n 0, 1) := by decide +kernel
theorem dX12_perform_22 : decode cX12_perform 22 = .ok (.getfield 71, 3) := by decide +kernel
theorem dX12_perform_25 : decode cX12_perform 25 = .ok (.iload_n 1, 1) := by decide +kernel
theorem dX12_perform_26 : decode cX12_perform 26 = .ok (.iaload, 1) := by decide +kernel
theorem dX12_perform_27 : decode cX12_perform 27 = .ok (.if_icmp .ge 65, 3) := by decide +kernel
theorem dX12_perform_30 : decode cX12_perform 30 = .ok (.aload_n 0, 1) := by decide +kernel
theorem dX12_perform_31 : decode cX12_perform 31 = .ok (.aload_n 0, 1) := by decide +kernel
theorem dX12_perform_32 : decode cX12_perform 32 = .ok (.getfield 74, 3) := by decide +kernel
theorem dX12_perform_35 : decode cX12_perform 35 = .ok (.bipush 30, 2) := by decide +kernel
theorem dX12_perform_37 : decode cX12_perform 37 = .ok (.iload_n 1, 1) := by decide +kernel
theorem dX12_perform_38 : decode cX12_perform 38 = .ok (.imul, 1) := by decide +kernel
theorem dX12_perform_39 : decode cX12_perform 39 = .ok (.iload_n 2, 1) := by decide +kernel
theorem dX12_perform_40 : decode cX12_perform 40 = .ok (.iadd, 1) := by decide +kernel
theorem dX12_perform_41 : decode cX12_perform 41 = .ok (.laload, 1) := by decide +kernel
theorem dX12_perform_42 : decode cX12_perform 42 = .ok (.invokevirtual 395, 3) := by decide +kernel
theorem dX12_perform_45 : decode cX12_perform 45 = .ok (.ifCond .ne 47, 3) := by decide +kernel
theorem dX12_perform_48 : decode cX12_perform 48 = .ok (.aload_n 0, 1) := by decide +kernel
theorem dX12_perform_49 : decode cX12_perform 49 = .ok (.getfield 74, 3) := by decide +kernel
theorem dX12_perform_52 : decode cX12_perform 52 = .ok (.bipush 30, 2) := by decide +kernel
theorem dX12_perform_54 : decode cX12_perform 54 = .ok (.iload_n 1, 1) := by decide +kernel
theorem dX12_perform_55 : decode cX12_perform 55 = .ok (.imul, 1) := by decide +kernel
theorem dX12_perform_56 : decode cX12_perform 56 = .ok (.iload_n 2, 1) := by decide +kernel
theorem dX12_perform_57 : decode cX12_perform 57 = .ok (.iadd, 1) := by decide +kernel
theorem dX12_perform_58 : decode cX12_perform 58 = .ok (.laload, 1) := by decide +kernel
theorem dX12_perform_59 : decode cX12_perform 59 = .ok (.ldc2_w 375, 3) := by decide +kernel
theorem dX12_perform_62 : decode cX12_perform 62 = .ok (.lcmp, 1) := by decide +kernel
theorem dX12_perform_63 : decode cX12_perform 63 = .ok (.ifCond .eq 7, 3) := by decide +kernel
theorem dX12_perform_66 : decode cX12_perform 66 = .ok (.aload_n 0, 1) := by decide +kernel
theorem dX12_perform_67 : decode cX12_perform 67 = .ok (.invokevirtual 362, 3) := by decide +kernel
theorem dX12_perform_70 : decode cX12_perform 70 = .ok (.aload_n 0, 1) := by decide +kernel
theorem dX12_perform_71 : decode cX12_perform 71 = .ok (.aload_n 0, 1) := by decide +kernel
theorem dX12_perform_72 : decode cX12_perform 72 = .ok (.getfield 74, 3) := by decide +kernel
theorem dX12_perform_75 : decode cX12_perform 75 = .ok (.bipush 30, 2) := by decide +kernel
theorem dX12_perform_77 : decode cX12_perform 77 = .ok (.iload_n 1, 1) := by decide +kernel
theorem dX12_perform_78 : decode cX12_perform 78 = .ok (.imul, 1) := by decide +kernel
theorem dX12_perform_79 : decode cX12_perform 79 = .ok (.iload_n 2, 1) := by decide +kernel
theorem dX12_perform_80 : decode cX12_perform 80 = .ok (.iadd, 1) := by decide +kernel
theorem dX12_perform_81 : decode cX12_perform 81 = .ok (.laload, 1) := by decide +kernel
theorem dX12_perform_82 : decode cX12_perform 82 = .ok (.l2i, 1) := by decide +kernel
theorem dX12_perform_83 : decode cX12_perform 83 = .ok (.invokevirtual 398, 3) := by decide +kernel
theorem dX12_perform_86 : decode cX12_perform 86 = .ok (.iinc 2 1, 3) := by decide +kernel
theorem dX12_perform_89 : decode cX12_perform 89 = .ok (.goto (-69), 3) := by decide +kernel
theorem dX12_perform_92 : decode cX12_perform 92 = .ok (.iload_n 2, 1) := by decide +kernel
theorem dX12_perform_93 : decode cX12_perform 93 = .ok (.ireturn, 1) := by decide +kernel
theorem dX12_draw_0 : decode cX12_draw 0 = .ok (.aload_n 0, 1) := by decide +kernel
theorem dX12_draw_1 : decode cX12_draw 1 = .ok (.ldc_w 404, 3) := by decide +kernel
theorem dX12_draw_4 : decode cX12_draw 4 = .ok (.aload_n 0, 1) := by decide +kernel
theorem dX12_draw_5 : decode cX12_draw 5 = .ok (.getfield 405, 3) := by decide +kernel
theorem dX12_draw_8 : decode cX12_draw 8 = .ok (.imul, 1) := by decide +kernel
theorem dX12_draw_9 : decode cX12_draw 9 = .ok (.sipush 12345, 3) := by decide +kernel
theorem dX12_draw_12 : decode cX12_draw 12 = .ok (.iadd, 1) := by decide +kernel
theorem dX12_draw_13 : decode cX12_draw 13 = .ok (.putfield 405, 3) := by decide +kernel
theorem dX12_draw_16 : decode cX12_draw 16 = .ok (.aload_n 0, 1) := by decide +kernel
theorem dX12_draw_17 : decode cX12_draw 17 = .ok (.getfield 405, 3) := by decide +kernel
theorem dX12_draw_20 : decode cX12_draw 20 = .ok (.bipush 16, 2) := by decide +kernel
theorem dX12_draw_22 : decode cX12_draw 22 = .ok (.iushr, 1) := by decide +kernel
theorem dX12_draw_23 : decode cX12_draw 23 = .ok (.iload_n 1, 1) := by decide +kernel
theorem dX12_draw_24 : decode cX12_draw 24 = .ok (.irem, 1) := by decide +kernel
theorem dX12_draw_25 : decode cX12_draw 25 = .ok (.ireturn, 1) := by decide +kernel
theorem dX12_evening_0 : decode cX12_evening 0 = .ok (.aload_n 0, 1) := by decide +kernel
theorem dX12_evening_1 : decode cX12_evening 1 = .ok (.iconst 0, 1) := by decide +kernel
theorem dX12_evening_2 : decode cX12_evening 2 = .ok (.putfield 77, 3) := by decide +kernel
theorem dX12_evening_5 : decode cX12_evening 5 = .ok (.iload_n 2, 1) := by decide +kernel
theorem dX12_evening_6 : decode cX12_evening 6 = .ok (.i2l, 1) := by decide +kernel
theorem dX12_evening_7 : decode cX12_evening 7 = .ok (.lconst 1, 1) := by decide +kernel
theorem dX12_evening_8 : decode cX12_evening 8 = .ok (.ldc2_w 408, 3) := by decide +kernel
theorem dX12_evening_11 : decode cX12_evening 11 = .ok (.invokestatic 138, 3) := by decide +kernel
theorem dX12_evening_14 : decode cX12_evening 14 = .ok (.ifCond .ne 9, 3) := by decide +kernel
theorem dX12_evening_17 : decode cX12_evening 17 = .ok (.aload_n 0, 1) := by decide +kernel
theorem dX12_evening_18 : decode cX12_evening 18 = .ok (.iconst 1, 1) := by decide +kernel
theorem dX12_evening_19 : decode cX12_evening 19 = .ok (.invokevirtual 244, 3) := by decide +kernel
theorem dX12_evening_22 : decode cX12_evening 22 = .ok (.ireturn, 1) := by decide +kernel
theorem dX12_evening_23 : decode cX12_evening 23 = .ok (.aload_n 0, 1) := by decide +kernel
theorem dX12_evening_24 : decode cX12_evening 24 = .ok (.iload_n 1, 1) := by decide +kernel
theorem dX12_evening_25 : decode cX12_evening 25 = .ok (.putfield 405, 3) := by decide +kernel
theorem dX12_evening_28 : decode cX12_evening 28 = .ok (.iconst 0, 1) := by decide +kernel
theorem dX12_evening_29 : decode cX12_evening 29 = .ok (.istore_n 3, 1) := by decide +kernel
theorem dX12_evening_30 : decode cX12_evening 30 = .ok (.iconst 0, 1) := by decide +kernel
theorem dX12_evening_31 : decode cX12_evening 31 = .ok (.istore 4, 2) := by decide +kernel
theorem dX12_evening_33 : decode cX12_evening 33 = .ok (.iload 4, 2) := by decide +kernel
theorem dX12_evening_35 : decode cX12_evening 35 = .ok (.iload_n 2, 1) := by decide +kernel
theorem dX12_evening_36 : decode cX12_evening 36 = .ok (.if_icmp .ge 46, 3) := by decide +kernel
theorem dX12_evening_39 : decode cX12_evening 39 = .ok (.aload_n 0, 1) := by decide +kernel
theorem dX12_evening_40 : decode cX12_evening 40 = .ok (.aload_n 0, 1) := by decide +kernel
theorem dX12_evening_41 : decode cX12_evening 41 = .ok (.iconst 4, 1) := by decide +kernel
theorem dX12_evening_42 : decode cX12_evening 42 = .ok (.invokevirtual 410, 3) := by decide +kernel
theorem dX12_evening_45 : decode cX12_evening 45 = .ok (.invokevirtual 413, 3) := by decide +kernel
theorem dX12_evening_48 : decode cX12_evening 48 = .ok (.istore 5, 2) := by decide +kernel
theorem dX12_evening_50 : decode cX12_evening 50 = .ok (.aload_n 0, 1) := by decide +kernel
theorem dX12_evening_51 : decode cX12_evening 51 = .ok (.iload 5, 2) := by decide +kernel
theorem dX12_evening_53 : decode cX12_evening 53 = .ok (.i2l, 1) := by decide +kernel
theorem dX12_evening_54 : decode cX12_evening 54 = .ok (.invokevirtual 395, 3) := by decide +kernel
theorem dX12_evening_57 : decode cX12_evening 57 = .ok (.ifCond .eq 6, 3) := by decide +kernel
theorem dX12_evening_60 : decode cX12_evening 60 = .ok (.goto 16, 3) := by decide +kernel
theorem dX12_evening_63 : decode cX12_evening 63 = .ok (.aload_n 0, 1) := by decide +kernel
theorem dX12_evening_64 : decode cX12_evening 64 = .ok (.invokevirtual 362, 3) := by decide +kernel
theorem dX12_evening_67 : decode cX12_evening 67 = .ok (.aload_n 0, 1) := by decide +kernel
theorem dX12_evening_68 : decode cX12_evening 68 = .ok (.iload 5, 2) := by decide +kernel
theorem dX12_evening_70 : decode cX12_evening 70 = .ok (.invokevirtual 398, 3) := by decide +kernel
theorem dX12_evening_73 : decode cX12_evening 73 = .ok (.iinc 3 1, 3) := by decide +kernel
theorem dX12_evening_76 : decode cX12_evening 76 = .ok (.iinc 4 1, 3) := by decide +kernel
theorem dX12_evening_79 : decode cX12_evening 79 = .ok (.goto (-46), 3) := by decide +kernel
theorem dX12_evening_82 : decode cX12_evening 82 = .ok (.iload_n 3, 1) := by decide +kernel
theorem dX12_evening_83 : decode cX12_evening 83 = .ok (.ireturn, 1) := by decide +kernel
theorem dX12_drawn_0 : decode cX12_drawn 0 = .ok (.iload_n 1, 1) := by decide +kernel
theorem dX12_drawn_1 : decode cX12_drawn 1 = .ok (.iconst 2, 1) := by decide +kernel
theorem dX12_drawn_2 : decode cX12_drawn 2 = .ok (.if_icmp .ne 6, 3) := by decide +kernel
theorem dX12_drawn_5 : decode cX12_drawn 5 = .ok (.bipush 100, 2) := by decide +kernel
theorem dX12_drawn_7 : decode cX12_drawn 7 = .ok (.ireturn, 1) := by decide +kernel
theorem dX12_drawn_8 : decode cX12_drawn 8 = .ok (.aload_n 0, 1) := by decide +kernel
theorem dX12_drawn_9 : decode cX12_drawn 9 = .ok (.iload_n 1, 1) := by decide +kernel
theorem dX12_drawn_10 : decode cX12_drawn 10 = .ok (.iconst 3, 1) := by decide +kernel
theorem dX12_drawn_11 : decode cX12_drawn 11 = .ok (.if_icmp .ne 8, 3) := by decide +kernel
theorem dX12_drawn_14 : decode cX12_drawn 14 = .ok (.bipush 6, 2) := by decide +kernel
theorem dX12_drawn_16 : decode cX12_drawn 16 = .ok (.goto 4, 3) := by decide +kernel
theorem dX12_drawn_19 : decode cX12_drawn 19 = .ok (.iconst 5, 1) := by decide +kernel
theorem dX12_drawn_20 : decode cX12_drawn 20 = .ok (.invokevirtual 410, 3) := by decide +kernel
theorem dX12_drawn_23 : decode cX12_drawn 23 = .ok (.istore_n 2, 1) := by decide +kernel
theorem dX12_drawn_24 : decode cX12_drawn 24 = .ok (.iload_n 1, 1) := by decide +kernel
theorem dX12_drawn_25 : decode cX12_drawn 25 = .ok (.iconst 3, 1) := by decide +kernel
theorem dX12_drawn_26 : decode cX12_drawn 26 = .ok (.if_icmp .ne 21, 3) := by decide +kernel
theorem dX12_drawn_29 : decode cX12_drawn 29 = .ok (.sipush 1000, 3) := by decide +kernel
theorem dX12_drawn_32 : decode cX12_drawn 32 = .ok (.bipush 100, 2) := by decide +kernel
theorem dX12_drawn_34 : decode cX12_drawn 34 = .ok (.iload_n 2, 1) := by decide +kernel
theorem dX12_drawn_35 : decode cX12_drawn 35 = .ok (.imul, 1) := by decide +kernel
theorem dX12_drawn_36 : decode cX12_drawn 36 = .ok (.iadd, 1) := by decide +kernel
theorem dX12_drawn_37 : decode cX12_drawn 37 = .ok (.aload_n 0, 1) := by decide +kernel
theorem dX12_drawn_38 : decode cX12_drawn 38 = .ok (.bipush 100, 2) := by decide +kernel
theorem dX12_drawn_40 : decode cX12_drawn 40 = .ok (.invokevirtual 410, 3) := by decide +kernel
theorem dX12_drawn_43 : decode cX12_drawn 43 = .ok (.iadd, 1) := by decide +kernel
theorem dX12_drawn_44 : decode cX12_drawn 44 = .ok (.goto 15, 3) := by decide +kernel
theorem dX12_drawn_47 : decode cX12_drawn 47 = .ok (.bipush 10, 2) := by decide +kernel
theorem dX12_drawn_49 : decode cX12_drawn 49 = .ok (.iconst 1, 1) := by decide +kernel
theorem dX12_drawn_50 : decode cX12_drawn 50 = .ok (.iload_n 2, 1) := by decide +kernel
theorem dX12_drawn_51 : decode cX12_drawn 51 = .ok (.iadd, 1) := by decide +kernel
theorem dX12_drawn_52 : decode cX12_drawn 52 = .ok (.imul, 1) := by decide +kernel
theorem dX12_drawn_53 : decode cX12_drawn 53 = .ok (.aload_n 0, 1) := by decide +kernel
theorem dX12_drawn_54 : decode cX12_drawn 54 = .ok (.iconst 4, 1) := by decide +kernel
theorem dX12_drawn_55 : decode cX12_drawn 55 = .ok (.invokevirtual 410, 3) := by decide +kernel
theorem dX12_drawn_58 : decode cX12_drawn 58 = .ok (.iadd, 1) := by decide +kernel
theorem dX12_drawn_59 : decode cX12_drawn 59 = .ok (.ireturn, 1) := by decide +kernel
theorem dX12_goes_0 : decode cX12_goes 0 = .ok (.iload_n 2, 1) := by decide +kernel
theorem dX12_goes_1 : decode cX12_goes 1 = .ok (.ifCond .ne 9, 3) := by decide +kernel
theorem dX12_goes_4 : decode cX12_goes 4 = .ok (.aload_n 0, 1) := by decide +kernel
theorem dX12_goes_5 : decode cX12_goes 5 = .ok (.iload_n 1, 1) := by decide +kernel
theorem dX12_goes_6 : decode cX12_goes 6 = .ok (.invokevirtual 416, 3) := by decide +kernel
theorem dX12_goes_9 : decode cX12_goes 9 = .ok (.ireturn, 1) := by decide +kernel
theorem dX12_goes_10 : decode cX12_goes 10 = .ok (.iconst 1, 1) := by decide +kernel
theorem dX12_goes_11 : decode cX12_goes 11 = .ok (.istore_n 3, 1) := by decide +kernel
theorem dX12_goes_12 : decode cX12_goes 12 = .ok (.iload_n 3, 1) := by decide +kernel
theorem dX12_goes_13 : decode cX12_goes 13 = .ok (.aload_n 0, 1) := by decide +kernel
theorem dX12_goes_14 : decode cX12_goes 14 = .ok (.iload_n 1, 1) := by decide +kernel
theorem dX12_goes_15 : decode cX12_goes 15 = .ok (.invokevirtual 256, 3) := by decide +kernel
theorem dX12_goes_18 : decode cX12_goes 18 = .ok (.if_icmp .ge 65, 3) := by decide +kernel
theorem dX12_goes_21 : decode cX12_goes 21 = .ok (.iconst 0, 1) := by decide +kernel
theorem dX12_goes_22 : decode cX12_goes 22 = .ok (.istore 4, 2) := by decide +kernel
theorem dX12_goes_24 : decode cX12_goes 24 = .ok (.iload 4, 2) := by decide +kernel
theorem dX12_goes_26 : decode cX12_goes 26 = .ok (.iconst 4, 1) := by decide +kernel
theorem dX12_goes_27 : decode cX12_goes 27 = .ok (.if_icmp .ge 50, 3) := by decide +kernel
theorem dX12_goes_30 : decode cX12_goes 30 = .ok (.aload_n 0, 1) := by decide +kernel
theorem dX12_goes_31 : decode cX12_goes 31 = .ok (.getfield 45, 3) := by decide +kernel
theorem dX12_goes_34 : decode cX12_goes 34 = .ok (.iload_n 1, 1) := by decide +kernel
theorem dX12_goes_35 : decode cX12_goes 35 = .ok (.aload_n 0, 1) := by decide +kernel
theorem dX12_goes_36 : decode cX12_goes 36 = .ok (.getfield 419, 3) := by decide +kernel
theorem dX12_goes_39 : decode cX12_goes 39 = .ok (.isub, 1) := by decide +kernel
theorem dX12_goes_40 : decode cX12_goes 40 = .ok (.bipush 10, 2) := by decide +kernel
theorem dX12_goes_42 : decode cX12_goes 42 = .ok (.iload_n 3, 1) := by decide +kernel
theorem dX12_goes_43 : decode cX12_goes 43 = .ok (.imul, 1) := by decide +kernel
theorem dX12_goes_44 : decode cX12_goes 44 = .ok (.iload 4, 2) := by decide +kernel
theorem dX12_goes_46 : decode cX12_goes 46 = .ok (.iadd, 1) := by decide +kernel
theorem dX12_goes_47 : decode cX12_goes 47 = .ok (.iastore, 1) := by decide +kernel
theorem dX12_goes_48 : decode cX12_goes 48 = .ok (.aload_n 0, 1) := by decide +kernel
theorem dX12_goes_49 : decode cX12_goes 49 = .ok (.iload_n 1, 1) := by decide +kernel
theorem dX12_goes_50 : decode cX12_goes 50 = .ok (.iload_n 3, 1) := by decide +kernel
theorem dX12_goes_51 : decode cX12_goes 51 = .ok (.iload 4, 2) := by decide +kernel
theorem dX12_goes_53 : decode cX12_goes 53 = .ok (.invokevirtual 280, 3) := by decide +kernel
theorem dX12_goes_56 : decode cX12_goes 56 = .ok (.aload_n 0, 1) := by decide +kernel
theorem dX12_goes_57 : decode cX12_goes 57 = .ok (.iload_n 1, 1) := by decide +kernel
theorem dX12_goes_58 : decode cX12_goes 58 = .ok (.iconst 1, 1) := by decide +kernel
theorem dX12_goes_59 : decode cX12_goes 59 = .ok (.iadd, 1) := by decide +kernel
theorem dX12_goes_60 : decode cX12_goes 60 = .ok (.iload_n 2, 1) := by decide +kernel
theorem dX12_goes_61 : decode cX12_goes 61 = .ok (.iconst 1, 1) := by decide +kernel
theorem dX12_goes_62 : decode cX12_goes 62 = .ok (.isub, 1) := by decide +kernel
theorem dX12_goes_63 : decode cX12_goes 63 = .ok (.invokevirtual 422, 3) := by decide +kernel
theorem dX12_goes_66 : decode cX12_goes 66 = .ok (.ifCond .eq 5, 3) := by decide +kernel
theorem dX12_goes_69 : decode cX12_goes 69 = .ok (.iconst 1, 1) := by decide +kernel
theorem dX12_goes_70 : decode cX12_goes 70 = .ok (.ireturn, 1) := by decide +kernel
theorem dX12_goes_71 : decode cX12_goes 71 = .ok (.iinc 4 1, 3) := by decide +kernel
theorem dX12_goes_74 : decode cX12_goes 74 = .ok (.goto (-50), 3) := by decide +kernel
theorem dX12_goes_77 : decode cX12_goes 77 = .ok (.iinc 3 1, 3) := by decide +kernel
theorem dX12_goes_80 : decode cX12_goes 80 = .ok (.goto (-68), 3) := by decide +kernel
theorem dX12_goes_83 : decode cX12_goes 83 = .ok (.iconst 0, 1) := by decide +kernel
theorem dX12_goes_84 : decode cX12_goes 84 = .ok (.ireturn, 1) := by decide +kernel
theorem dX12_keepsRow_0 : decode cX12_keepsRow 0 = .ok (.aload_n 0, 1) := by decide +kernel
theorem dX12_keepsRow_1 : decode cX12_keepsRow 1 = .ok (.iload_n 2, 1) := by decide +kernel
theorem dX12_keepsRow_2 : decode cX12_keepsRow 2 = .ok (.putfield 425, 3) := by decide +kernel
theorem dX12_keepsRow_5 : decode cX12_keepsRow 5 = .ok (.aload_n 0, 1) := by decide +kernel
theorem dX12_keepsRow_6 : decode cX12_keepsRow 6 = .ok (.iload_n 1, 1) := by decide +kernel
theorem dX12_keepsRow_7 : decode cX12_keepsRow 7 = .ok (.aload_n 0, 1) := by decide +kernel
theorem dX12_keepsRow_8 : decode cX12_keepsRow 8 = .ok (.getfield 419, 3) := by decide +kernel
theorem dX12_keepsRow_11 : decode cX12_keepsRow 11 = .ok (.isub, 1) := by decide +kernel
theorem dX12_keepsRow_12 : decode cX12_keepsRow 12 = .ok (.putfield 428, 3) := by decide +kernel
theorem dX12_keepsRow_15 : decode cX12_keepsRow 15 = .ok (.iconst 0, 1) := by decide +kernel
theorem dX12_keepsRow_16 : decode cX12_keepsRow 16 = .ok (.istore_n 3, 1) := by decide +kernel
theorem dX12_keepsRow_17 : decode cX12_keepsRow 17 = .ok (.iload_n 3, 1) := by decide +kernel
theorem dX12_keepsRow_18 : decode cX12_keepsRow 18 = .ok (.aload_n 0, 1) := by decide +kernel
theorem dX12_keepsRow_19 : decode cX12_keepsRow 19 = .ok (.getfield 428, 3) := by decide +kernel
theorem dX12_keepsRow_22 : decode cX12_keepsRow 22 = .ok (.if_icmp .ge 21, 3) := by decide +kernel
theorem dX12_keepsRow_25 : decode cX12_keepsRow 25 = .ok (.aload_n 0, 1) := by decide +kernel
theorem dX12_keepsRow_26 : decode cX12_keepsRow 26 = .ok (.getfield 48, 3) := by decide +kernel
theorem dX12_keepsRow_29 : decode cX12_keepsRow 29 = .ok (.iload_n 3, 1) := by decide +kernel
theorem dX12_keepsRow_30 : decode cX12_keepsRow 30 = .ok (.aload_n 0, 1) := by decide +kernel
theorem dX12_keepsRow_31 : decode cX12_keepsRow 31 = .ok (.getfield 45, 3) := by decide +kernel
theorem dX12_keepsRow_34 : decode cX12_keepsRow 34 = .ok (.iload_n 3, 1) := by decide +kernel
theorem dX12_keepsRow_35 : decode cX12_keepsRow 35 = .ok (.iaload, 1) := by decide +kernel
theorem dX12_keepsRow_36 : decode cX12_keepsRow 36 = .ok (.iastore, 1) := by decide +kernel
theorem dX12_keepsRow_37 : decode cX12_keepsRow 37 = .ok (.iinc 3 1, 3) := by decide +kernel
theorem dX12_keepsRow_40 : decode cX12_keepsRow 40 = .ok (.goto (-23), 3) := by decide +kernel
theorem dX12_keepsRow_43 : decode cX12_keepsRow 43 = .ok (.return_, 1) := by decide +kernel
theorem dX12_leastLiked_0 : decode cX12_leastLiked 0 = .ok (.aload_n 0, 1) := by decide +kernel
theorem dX12_leastLiked_1 : decode cX12_leastLiked 1 = .ok (.getfield 9, 3) := by decide +kernel
theorem dX12_leastLiked_4 : decode cX12_leastLiked 4 = .ok (.iconst 2, 1) := by decide +kernel
theorem dX12_leastLiked_5 : decode cX12_leastLiked 5 = .ok (.iaload, 1) := by decide +kernel
theorem dX12_leastLiked_6 : decode cX12_leastLiked 6 = .ok (.ifCond .ne 7, 3) := by decide +kernel
theorem dX12_leastLiked_9 : decode cX12_leastLiked 9 = .ok (.iconst 0, 1) := by decide +kernel
theorem dX12_leastLiked_10 : decode cX12_leastLiked 10 = .ok (.goto 6, 3) := by decide +kernel
theorem dX12_leastLiked_13 : decode cX12_leastLiked 13 = .ok (.ldc_w 431, 3) := by decide +kernel
theorem dX12_leastLiked_16 : decode cX12_leastLiked 16 = .ok (.istore_n 2, 1) := by decide +kernel
theorem dX12_leastLiked_17 : decode cX12_leastLiked 17 = .ok (.iconst 0, 1) := by decide +kernel
theorem dX12_leastLiked_18 : decode cX12_leastLiked 18 = .ok (.istore_n 3, 1) := by decide +kernel
theorem dX12_leastLiked_19 : decode cX12_leastLiked 19 = .ok (.iload_n 3, 1) := by decide +kernel
theorem dX12_leastLiked_20 : decode cX12_leastLiked 20 = .ok (.aload_n 0, 1) := by decide +kernel
theorem dX12_leastLiked_21 : decode cX12_leastLiked 21 = .ok (.getfield 9, 3) := by decide +kernel
theorem dX12_leastLiked_24 : decode cX12_leastLiked 24 = .ok (.iconst 2, 1) := by decide +kernel
theorem dX12_leastLiked_25 : decode cX12_leastLiked 25 = .ok (.iaload, 1) := by decide +kernel
theorem dX12_leastLiked_26 : decode cX12_leastLiked 26 = .ok (.if_icmp .ge 20, 3) := by decide +kernel
theorem dX12_leastLiked_29 : decode cX12_leastLiked 29 = .ok (.iload_n 2, 1) := by decide +kernel
theorem dX12_leastLiked_30 : decode cX12_leastLiked 30 = .ok (.aload_n 0, 1) := by decide +kernel
theorem dX12_leastLiked_31 : decode cX12_leastLiked 31 = .ok (.iload_n 1, 1) := by decide +kernel
theorem dX12_leastLiked_32 : decode cX12_leastLiked 32 = .ok (.iload_n 3, 1) := by decide +kernel
theorem dX12_leastLiked_33 : decode cX12_leastLiked 33 = .ok (.invokevirtual 355, 3) := by decide +kernel
theorem dX12_leastLiked_36 : decode cX12_leastLiked 36 = .ok (.invokestatic 299, 3) := by decide +kernel
theorem dX12_leastLiked_39 : decode cX12_leastLiked 39 = .ok (.istore_n 2, 1) := by decide +kernel
theorem dX12_leastLiked_40 : decode cX12_leastLiked 40 = .ok (.iinc 3 1, 3) := by decide +kernel
theorem dX12_leastLiked_43 : decode cX12_leastLiked 43 = .ok (.goto (-24), 3) := by decide +kernel
theorem dX12_leastLiked_46 : decode cX12_leastLiked 46 = .ok (.iload_n 2, 1) := by decide +kernel
theorem dX12_leastLiked_47 : decode cX12_leastLiked 47 = .ok (.ireturn, 1) := by decide +kernel
theorem dX12_isBetter_0 : decode cX12_isBetter 0 = .ok (.iconst 0, 1) := by decide +kernel
theorem dX12_isBetter_1 : decode cX12_isBetter 1 = .ok (.istore_n 2, 1) := by decide +kernel
theorem dX12_isBetter_2 : decode cX12_isBetter 2 = .ok (.iconst 0, 1) := by decide +kernel
theorem dX12_isBetter_3 : decode cX12_isBetter 3 = .ok (.istore_n 3, 1) := by decide +kernel
theorem dX12_isBetter_4 : decode cX12_isBetter 4 = .ok (.iload_n 3, 1) := by decide +kernel
theorem dX12_isBetter_5 : decode cX12_isBetter 5 = .ok (.aload_n 0, 1) := by decide +kernel
theorem dX12_isBetter_6 : decode cX12_isBetter 6 = .ok (.getfield 9, 3) := by decide +kernel
theorem dX12_isBetter_9 : decode cX12_isBetter 9 = .ok (.iconst 2, 1) := by decide +kernel
theorem dX12_isBetter_10 : decode cX12_isBetter 10 = .ok (.iaload, 1) := by decide +kernel
theorem dX12_isBetter_11 : decode cX12_isBetter 11 = .ok (.if_icmp .ge 51, 3) := by decide +kernel
theorem dX12_isBetter_14 : decode cX12_isBetter 14 = .ok (.aload_n 0, 1) := by decide +kernel
theorem dX12_isBetter_15 : decode cX12_isBetter 15 = .ok (.iload_n 1, 1) := by decide +kernel
theorem dX12_isBetter_16 : decode cX12_isBetter 16 = .ok (.iload_n 3, 1) := by decide +kernel
theorem dX12_isBetter_17 : decode cX12_isBetter 17 = .ok (.invokevirtual 355, 3) := by decide +kernel
theorem dX12_isBetter_20 : decode cX12_isBetter 20 = .ok (.istore 4, 2) := by decide +kernel
theorem dX12_isBetter_22 : decode cX12_isBetter 22 = .ok (.iload 4, 2) := by decide +kernel
theorem dX12_isBetter_24 : decode cX12_isBetter 24 = .ok (.aload_n 0, 1) := by decide +kernel
theorem dX12_isBetter_25 : decode cX12_isBetter 25 = .ok (.getfield 51, 3) := by decide +kernel
theorem dX12_isBetter_28 : decode cX12_isBetter 28 = .ok (.iload_n 3, 1) := by decide +kernel
theorem dX12_isBetter_29 : decode cX12_isBetter 29 = .ok (.iaload, 1) := by decide +kernel
theorem dX12_isBetter_30 : decode cX12_isBetter 30 = .ok (.if_icmp .ge 5, 3) := by decide +kernel
theorem dX12_isBetter_33 : decode cX12_isBetter 33 = .ok (.iconst 0, 1) := by decide +kernel
theorem dX12_isBetter_34 : decode cX12_isBetter 34 = .ok (.ireturn, 1) := by decide +kernel
theorem dX12_isBetter_35 : decode cX12_isBetter 35 = .ok (.iload_n 2, 1) := by decide +kernel
theorem dX12_isBetter_36 : decode cX12_isBetter 36 = .ok (.ifCond .ne 14, 3) := by decide +kernel
theorem dX12_isBetter_39 : decode cX12_isBetter 39 = .ok (.iload 4, 2) := by decide +kernel
theorem dX12_isBetter_41 : decode cX12_isBetter 41 = .ok (.aload_n 0, 1) := by decide +kernel
theorem dX12_isBetter_42 : decode cX12_isBetter 42 = .ok (.getfield 51, 3) := by decide +kernel
theorem dX12_isBetter_45 : decode cX12_isBetter 45 = .ok (.iload_n 3, 1) := by decide +kernel
theorem dX12_isBetter_46 : decode cX12_isBetter 46 = .ok (.iaload, 1) := by decide +kernel
theorem dX12_isBetter_47 : decode cX12_isBetter 47 = .ok (.if_icmp .le 7, 3) := by decide +kernel
theorem dX12_isBetter_50 : decode cX12_isBetter 50 = .ok (.iconst 1, 1) := by decide +kernel
theorem dX12_isBetter_51 : decode cX12_isBetter 51 = .ok (.goto 4, 3) := by decide +kernel
theorem dX12_isBetter_54 : decode cX12_isBetter 54 = .ok (.iconst 0, 1) := by decide +kernel
theorem dX12_isBetter_55 : decode cX12_isBetter 55 = .ok (.istore_n 2, 1) := by decide +kernel
theorem dX12_isBetter_56 : decode cX12_isBetter 56 = .ok (.iinc 3 1, 3) := by decide +kernel
theorem dX12_isBetter_59 : decode cX12_isBetter 59 = .ok (.goto (-55), 3) := by decide +kernel
theorem dX12_isBetter_62 : decode cX12_isBetter 62 = .ok (.iload_n 2, 1) := by decide +kernel
theorem dX12_isBetter_63 : decode cX12_isBetter 63 = .ok (.ireturn, 1) := by decide +kernel
theorem dX12_looksSo_0 : decode cX12_looksSo 0 = .ok (.aload_n 0, 1) := by decide +kernel
theorem dX12_looksSo_1 : decode cX12_looksSo 1 = .ok (.iload_n 1, 1) := by decide +kernel
theorem dX12_looksSo_2 : decode cX12_looksSo 2 = .ok (.invokevirtual 256, 3) := by decide +kernel
theorem dX12_looksSo_5 : decode cX12_looksSo 5 = .ok (.aload_n 0, 1) := by decide +kernel
theorem dX12_looksSo_6 : decode cX12_looksSo 6 = .ok (.getfield 71, 3) := by decide +kernel
theorem dX12_looksSo_9 : decode cX12_looksSo 9 = .ok (.iload_n 2, 1) := by decide +kernel
theorem dX12_looksSo_10 : decode cX12_looksSo 10 = .ok (.iaload, 1) := by decide +kernel
theorem dX12_looksSo_11 : decode cX12_looksSo 11 = .ok (.if_icmp .eq 5, 3) := by decide +kernel
theorem dX12_looksSo_14 : decode cX12_looksSo 14 = .ok (.iconst 0, 1) := by decide +kernel
theorem dX12_looksSo_15 : decode cX12_looksSo 15 = .ok (.ireturn, 1) := by decide +kernel
theorem dX12_looksSo_16 : decode cX12_looksSo 16 = .ok (.iconst 0, 1) := by decide +kernel
theorem dX12_looksSo_17 : decode cX12_looksSo 17 = .ok (.istore_n 3, 1) := by decide +kernel
theorem dX12_looksSo_18 : decode cX12_looksSo 18 = .ok (.iload_n 3, 1) := by decide +kernel
theorem dX12_looksSo_19 : decode cX12_looksSo 19 = .ok (.aload_n 0, 1) := by decide +kernel
theorem dX12_looksSo_20 : decode cX12_looksSo 20 = .ok (.getfield 71, 3) := by decide +kernel
theorem dX12_looksSo_23 : decode cX12_looksSo 23 = .ok (.iload_n 2, 1) := by decide +kernel
theorem dX12_looksSo_24 : decode cX12_looksSo 24 = .ok (.iaload, 1) := by decide +kernel
theorem dX12_looksSo_25 : decode cX12_looksSo 25 = .ok (.if_icmp .ge 51, 3) := by decide +kernel
theorem dX12_looksSo_28 : decode cX12_looksSo 28 = .ok (.aload_n 0, 1) := by decide +kernel
theorem dX12_looksSo_29 : decode cX12_looksSo 29 = .ok (.getfield 74, 3) := by decide +kernel
theorem dX12_looksSo_32 : decode cX12_looksSo 32 = .ok (.bipush 30, 2) := by decide +kernel
theorem dX12_looksSo_34 : decode cX12_looksSo 34 = .ok (.iload_n 2, 1) := by decide +kernel
theorem dX12_looksSo_35 : decode cX12_looksSo 35 = .ok (.imul, 1) := by decide +kernel
theorem dX12_looksSo_36 : decode cX12_looksSo 36 = .ok (.iload_n 3, 1) := by decide +kernel
theorem dX12_looksSo_37 : decode cX12_looksSo 37 = .ok (.iadd, 1) := by decide +kernel
theorem dX12_looksSo_38 : decode cX12_looksSo 38 = .ok (.laload, 1) := by decide +kernel
theorem dX12_looksSo_39 : decode cX12_looksSo 39 = .ok (.ldc2_w 375, 3) := by decide +kernel
theorem dX12_looksSo_42 : decode cX12_looksSo 42 = .ok (.lcmp, 1) := by decide +kernel
theorem dX12_looksSo_43 : decode cX12_looksSo 43 = .ok (.ifCond .eq 27, 3) := by decide +kernel
theorem dX12_looksSo_46 : decode cX12_looksSo 46 = .ok (.aload_n 0, 1) := by decide +kernel
theorem dX12_looksSo_47 : decode cX12_looksSo 47 = .ok (.getfield 74, 3) := by decide +kernel
theorem dX12_looksSo_50 : decode cX12_looksSo 50 = .ok (.bipush 30, 2) := by decide +kernel
theorem dX12_looksSo_52 : decode cX12_looksSo 52 = .ok (.iload_n 2, 1) := by decide +kernel
theorem dX12_looksSo_53 : decode cX12_looksSo 53 = .ok (.imul, 1) := by decide +kernel
theorem dX12_looksSo_54 : decode cX12_looksSo 54 = .ok (.iload_n 3, 1) := by decide +kernel
theorem dX12_looksSo_55 : decode cX12_looksSo 55 = .ok (.iadd, 1) := by decide +kernel
theorem dX12_looksSo_56 : decode cX12_looksSo 56 = .ok (.laload, 1) := by decide +kernel
theorem dX12_looksSo_57 : decode cX12_looksSo 57 = .ok (.aload_n 0, 1) := by decide +kernel
theorem dX12_looksSo_58 : decode cX12_looksSo 58 = .ok (.iload_n 1, 1) := by decide +kernel
theorem dX12_looksSo_59 : decode cX12_looksSo 59 = .ok (.iload_n 3, 1) := by decide +kernel
theorem dX12_looksSo_60 : decode cX12_looksSo 60 = .ok (.invokevirtual 287, 3) := by decide +kernel
theorem dX12_looksSo_63 : decode cX12_looksSo 63 = .ok (.i2l, 1) := by decide +kernel
theorem dX12_looksSo_64 : decode cX12_looksSo 64 = .ok (.lcmp, 1) := by decide +kernel
theorem dX12_looksSo_65 : decode cX12_looksSo 65 = .ok (.ifCond .eq 5, 3) := by decide +kernel
theorem dX12_looksSo_68 : decode cX12_looksSo 68 = .ok (.iconst 0, 1) := by decide +kernel
theorem dX12_looksSo_69 : decode cX12_looksSo 69 = .ok (.ireturn, 1) := by decide +kernel
theorem dX12_looksSo_70 : decode cX12_looksSo 70 = .ok (.iinc 3 1, 3) := by decide +kernel
theorem dX12_looksSo_73 : decode cX12_looksSo 73 = .ok (.goto (-55), 3) := by decide +kernel
theorem dX12_looksSo_76 : decode cX12_looksSo 76 = .ok (.iconst 1, 1) := by decide +kernel
theorem dX12_looksSo_77 : decode cX12_looksSo 77 = .ok (.ireturn, 1) := by decide +kernel
theorem dX12_isStack_0 : decode cX12_isStack 0 = .ok (.aload_n 0, 1) := by decide +kernel
theorem dX12_isStack_1 : decode cX12_isStack 1 = .ok (.iload_n 1, 1) := by decide +kernel
theorem dX12_isStack_2 : decode cX12_isStack 2 = .ok (.invokevirtual 256, 3) := by decide +kernel
theorem dX12_isStack_5 : decode cX12_isStack 5 = .ok (.iconst 1, 1) := by decide +kernel
theorem dX12_isStack_6 : decode cX12_isStack 6 = .ok (.if_icmp .le 5, 3) := by decide +kernel
theorem dX12_isStack_9 : decode cX12_isStack 9 = .ok (.iconst 0, 1) := by decide +kernel
theorem dX12_isStack_10 : decode cX12_isStack 10 = .ok (.ireturn, 1) := by decide +kernel
theorem dX12_isStack_11 : decode cX12_isStack 11 = .ok (.iconst 0, 1) := by decide +kernel
theorem dX12_isStack_12 : decode cX12_isStack 12 = .ok (.istore_n 3, 1) := by decide +kernel
theorem dX12_isStack_13 : decode cX12_isStack 13 = .ok (.iload_n 3, 1) := by decide +kernel
theorem dX12_isStack_14 : decode cX12_isStack 14 = .ok (.aload_n 0, 1) := by decide +kernel
theorem dX12_isStack_15 : decode cX12_isStack 15 = .ok (.invokevirtual 253, 3) := by decide +kernel
theorem dX12_isStack_18 : decode cX12_isStack 18 = .ok (.if_icmp .ge 36, 3) := by decide +kernel
theorem dX12_isStack_21 : decode cX12_isStack 21 = .ok (.aload_n 0, 1) := by decide +kernel
theorem dX12_isStack_22 : decode cX12_isStack 22 = .ok (.iload_n 1, 1) := by decide +kernel
theorem dX12_isStack_23 : decode cX12_isStack 23 = .ok (.iconst 0, 1) := by decide +kernel
theorem dX12_isStack_24 : decode cX12_isStack 24 = .ok (.iload_n 3, 1) := by decide +kernel
theorem dX12_isStack_25 : decode cX12_isStack 25 = .ok (.invokevirtual 264, 3) := by decide +kernel
theorem dX12_isStack_28 : decode cX12_isStack 28 = .ok (.iconst 2, 1) := by decide +kernel
theorem dX12_isStack_29 : decode cX12_isStack 29 = .ok (.idiv, 1) := by decide +kernel
theorem dX12_isStack_30 : decode cX12_isStack 30 = .ok (.i2l, 1) := by decide +kernel
theorem dX12_isStack_31 : decode cX12_isStack 31 = .ok (.aload_n 0, 1) := by decide +kernel
theorem dX12_isStack_32 : decode cX12_isStack 32 = .ok (.getfield 74, 3) := by decide +kernel
theorem dX12_isStack_35 : decode cX12_isStack 35 = .ok (.bipush 30, 2) := by decide +kernel
theorem dX12_isStack_37 : decode cX12_isStack 37 = .ok (.iload_n 2, 1) := by decide +kernel
theorem dX12_isStack_38 : decode cX12_isStack 38 = .ok (.imul, 1) := by decide +kernel
theorem dX12_isStack_39 : decode cX12_isStack 39 = .ok (.iload_n 3, 1) := by decide +kernel
theorem dX12_isStack_40 : decode cX12_isStack 40 = .ok (.iadd, 1) := by decide +kernel
theorem dX12_isStack_41 : decode cX12_isStack 41 = .ok (.laload, 1) := by decide +kernel
theorem dX12_isStack_42 : decode cX12_isStack 42 = .ok (.lcmp, 1) := by decide +kernel
theorem dX12_isStack_43 : decode cX12_isStack 43 = .ok (.ifCond .eq 5, 3) := by decide +kernel
theorem dX12_isStack_46 : decode cX12_isStack 46 = .ok (.iconst 0, 1) := by decide +kernel
theorem dX12_isStack_47 : decode cX12_isStack 47 = .ok (.ireturn, 1) := by decide +kernel
theorem dX12_isStack_48 : decode cX12_isStack 48 = .ok (.iinc 3 1, 3) := by decide +kernel
theorem dX12_isStack_51 : decode cX12_isStack 51 = .ok (.goto (-38), 3) := by decide +kernel
theorem dX12_isStack_54 : decode cX12_isStack 54 = .ok (.iconst 1, 1) := by decide +kernel
theorem dX12_isStack_55 : decode cX12_isStack 55 = .ok (.ireturn, 1) := by decide +kernel
theorem dX12_hasCreases_0 : decode cX12_hasCreases 0 = .ok (.aload_n 0, 1) := by decide +kernel
theorem dX12_hasCreases_1 : decode cX12_hasCreases 1 = .ok (.iload_n 1, 1) := by decide +kernel
theorem dX12_hasCreases_2 : decode cX12_hasCreases 2 = .ok (.invokevirtual 302, 3) := by decide +kernel
theorem dX12_hasCreases_5 : decode cX12_hasCreases 5 = .ok (.iconst 0, 1) := by decide +kernel
theorem dX12_hasCreases_6 : decode cX12_hasCreases 6 = .ok (.istore_n 3, 1) := by decide +kernel
theorem dX12_hasCreases_7 : decode cX12_hasCreases 7 = .ok (.iload_n 3, 1) := by decide +kernel
theorem dX12_hasCreases_8 : decode cX12_hasCreases 8 = .ok (.aload_n 0, 1) := by decide +kernel
theorem dX12_hasCreases_9 : decode cX12_hasCreases 9 = .ok (.getfield 71, 3) := by decide +kernel
theorem dX12_hasCreases_12 : decode cX12_hasCreases 12 = .ok (.iload_n 2, 1) := by decide +kernel
theorem dX12_hasCreases_13 : decode cX12_hasCreases 13 = .ok (.iaload, 1) := by decide +kernel
theorem dX12_hasCreases_14 : decode cX12_hasCreases 14 = .ok (.if_icmp .ge 32, 3) := by decide +kernel
theorem dX12_hasCreases_17 : decode cX12_hasCreases 17 = .ok (.aload_n 0, 1) := by decide +kernel
theorem dX12_hasCreases_18 : decode cX12_hasCreases 18 = .ok (.getfield 74, 3) := by decide +kernel
theorem dX12_hasCreases_21 : decode cX12_hasCreases 21 = .ok (.bipush 30, 2) := by decide +kernel
theorem dX12_hasCreases_23 : decode cX12_hasCreases 23 = .ok (.iload_n 2, 1) := by decide +kernel
theorem dX12_hasCreases_24 : decode cX12_hasCreases 24 = .ok (.imul, 1) := by decide +kernel
theorem dX12_hasCreases_25 : decode cX12_hasCreases 25 = .ok (.iload_n 3, 1) := by decide +kernel
theorem dX12_hasCreases_26 : decode cX12_hasCreases 26 = .ok (.iadd, 1) := by decide +kernel
theorem dX12_hasCreases_27 : decode cX12_hasCreases 27 = .ok (.laload, 1) := by decide +kernel
theorem dX12_hasCreases_28 : decode cX12_hasCreases 28 = .ok (.aload_n 0, 1) := by decide +kernel
theorem dX12_hasCreases_29 : decode cX12_hasCreases 29 = .ok (.iload_n 3, 1) := by decide +kernel
theorem dX12_hasCreases_30 : decode cX12_hasCreases 30 = .ok (.invokevirtual 305, 3) := by decide +kernel
theorem dX12_hasCreases_33 : decode cX12_hasCreases 33 = .ok (.i2l, 1) := by decide +kernel
theorem dX12_hasCreases_34 : decode cX12_hasCreases 34 = .ok (.lcmp, 1) := by decide +kernel
theorem dX12_hasCreases_35 : decode cX12_hasCreases 35 = .ok (.ifCond .eq 5, 3) := by decide +kernel
theorem dX12_hasCreases_38 : decode cX12_hasCreases 38 = .ok (.iconst 0, 1) := by decide +kernel
theorem dX12_hasCreases_39 : decode cX12_hasCreases 39 = .ok (.ireturn, 1) := by decide +kernel
theorem dX12_hasCreases_40 : decode cX12_hasCreases 40 = .ok (.iinc 3 1, 3) := by decide +kernel
theorem dX12_hasCreases_43 : decode cX12_hasCreases 43 = .ok (.goto (-36), 3) := by decide +kernel
theorem dX12_hasCreases_46 : decode cX12_hasCreases 46 = .ok (.iconst 1, 1) := by decide +kernel
theorem dX12_hasCreases_47 : decode cX12_hasCreases 47 = .ok (.ireturn, 1) := by decide +kernel
theorem dX12_isNew_0 : decode cX12_isNew 0 = .ok (.lload_n 1, 1) := by decide +kernel
theorem dX12_isNew_1 : decode cX12_isNew 1 = .ok (.ldc2_w 432, 3) := by decide +kernel
theorem dX12_isNew_4 : decode cX12_isNew 4 = .ok (.lmul, 1) := by decide +kernel
theorem dX12_isNew_5 : decode cX12_isNew 5 = .ok (.bipush 16, 2) := by decide +kernel
theorem dX12_isNew_7 : decode cX12_isNew 7 = .ok (.lushr, 1) := by decide +kernel
theorem dX12_isNew_8 : decode cX12_isNew 8 = .ok (.ldc2_w 434, 3) := by decide +kernel
theorem dX12_isNew_11 : decode cX12_isNew 11 = .ok (.lrem, 1) := by decide +kernel
theorem dX12_isNew_12 : decode cX12_isNew 12 = .ok (.l2i, 1) := by decide +kernel
