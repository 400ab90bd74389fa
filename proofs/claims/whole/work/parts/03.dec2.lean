theorem dX11_looksSo_28 : decode cX11_looksSo 28 = .ok (.lstore 4, 2) := by decide +kernel
theorem dX11_looksSo_30 : decode cX11_looksSo 30 = .ok (.lload 4, 2) := by decide +kernel
theorem dX11_looksSo_32 : decode cX11_looksSo 32 = .ok (.ldc2_w 304, 3) := by decide +kernel
theorem dX11_looksSo_35 : decode cX11_looksSo 35 = .ok (.lcmp, 1) := by decide +kernel
theorem dX11_looksSo_36 : decode cX11_looksSo 36 = .ok (.ifCond .eq 27, 3) := by decide +kernel
theorem dX11_looksSo_39 : decode cX11_looksSo 39 = .ok (.lload 4, 2) := by decide +kernel
theorem dX11_looksSo_41 : decode cX11_looksSo 41 = .ok (.aload_n 1, 1) := by decide +kernel
theorem dX11_looksSo_42 : decode cX11_looksSo 42 = .ok (.iload_n 3, 1) := by decide +kernel
theorem dX11_looksSo_43 : decode cX11_looksSo 43 = .ok (.aload_n 0, 1) := by decide +kernel
theorem dX11_looksSo_44 : decode cX11_looksSo 44 = .ok (.getfield 33, 3) := by decide +kernel
theorem dX11_looksSo_47 : decode cX11_looksSo 47 = .ok (.getfield 138, 3) := by decide +kernel
theorem dX11_looksSo_50 : decode cX11_looksSo 50 = .ok (.getfield 171, 3) := by decide +kernel
theorem dX11_looksSo_53 : decode cX11_looksSo 53 = .ok (.invokevirtual 174, 3) := by decide +kernel
theorem dX11_looksSo_56 : decode cX11_looksSo 56 = .ok (.i2l, 1) := by decide +kernel
theorem dX11_looksSo_57 : decode cX11_looksSo 57 = .ok (.lcmp, 1) := by decide +kernel
theorem dX11_looksSo_58 : decode cX11_looksSo 58 = .ok (.ifCond .eq 5, 3) := by decide +kernel
theorem dX11_looksSo_61 : decode cX11_looksSo 61 = .ok (.iconst 0, 1) := by decide +kernel
theorem dX11_looksSo_62 : decode cX11_looksSo 62 = .ok (.ireturn, 1) := by decide +kernel
theorem dX11_looksSo_63 : decode cX11_looksSo 63 = .ok (.iinc 3 1, 3) := by decide +kernel
theorem dX11_looksSo_66 : decode cX11_looksSo 66 = .ok (.goto (-51), 3) := by decide +kernel
theorem dX11_looksSo_69 : decode cX11_looksSo 69 = .ok (.iconst 1, 1) := by decide +kernel
theorem dX11_looksSo_70 : decode cX11_looksSo 70 = .ok (.ireturn, 1) := by decide +kernel
theorem dX11_stands_0 : decode cX11_stands 0 = .ok (.aload_n 0, 1) := by decide +kernel
theorem dX11_stands_1 : decode cX11_stands 1 = .ok (.iload_n 1, 1) := by decide +kernel
theorem dX11_stands_2 : decode cX11_stands 2 = .ok (.invokevirtual 426, 3) := by decide +kernel
theorem dX11_stands_5 : decode cX11_stands 5 = .ok (.astore_n 2, 1) := by decide +kernel
theorem dX11_stands_6 : decode cX11_stands 6 = .ok (.iconst 0, 1) := by decide +kernel
theorem dX11_stands_7 : decode cX11_stands 7 = .ok (.istore_n 3, 1) := by decide +kernel
theorem dX11_stands_8 : decode cX11_stands 8 = .ok (.iload_n 3, 1) := by decide +kernel
theorem dX11_stands_9 : decode cX11_stands 9 = .ok (.aload_n 2, 1) := by decide +kernel
theorem dX11_stands_10 : decode cX11_stands 10 = .ok (.getfield 289, 3) := by decide +kernel
theorem dX11_stands_13 : decode cX11_stands 13 = .ok (.if_icmp .ge 40, 3) := by decide +kernel
theorem dX11_stands_16 : decode cX11_stands 16 = .ok (.aload_n 2, 1) := by decide +kernel
theorem dX11_stands_17 : decode cX11_stands 17 = .ok (.iload_n 3, 1) := by decide +kernel
theorem dX11_stands_18 : decode cX11_stands 18 = .ok (.invokevirtual 292, 3) := by decide +kernel
theorem dX11_stands_21 : decode cX11_stands 21 = .ok (.l2i, 1) := by decide +kernel
theorem dX11_stands_22 : decode cX11_stands 22 = .ok (.istore 4, 2) := by decide +kernel
theorem dX11_stands_24 : decode cX11_stands 24 = .ok (.iload 4, 2) := by decide +kernel
theorem dX11_stands_26 : decode cX11_stands 26 = .ok (.ifCond .lt 21, 3) := by decide +kernel
theorem dX11_stands_29 : decode cX11_stands 29 = .ok (.iload 4, 2) := by decide +kernel
theorem dX11_stands_31 : decode cX11_stands 31 = .ok (.aload_n 0, 1) := by decide +kernel
theorem dX11_stands_32 : decode cX11_stands 32 = .ok (.getfield 81, 3) := by decide +kernel
theorem dX11_stands_35 : decode cX11_stands 35 = .ok (.arraylength, 1) := by decide +kernel
theorem dX11_stands_36 : decode cX11_stands 36 = .ok (.if_icmp .ge 11, 3) := by decide +kernel
theorem dX11_stands_39 : decode cX11_stands 39 = .ok (.aload_n 0, 1) := by decide +kernel
theorem dX11_stands_40 : decode cX11_stands 40 = .ok (.getfield 81, 3) := by decide +kernel
theorem dX11_stands_43 : decode cX11_stands 43 = .ok (.iload 4, 2) := by decide +kernel
theorem dX11_stands_45 : decode cX11_stands 45 = .ok (.iload_n 3, 1) := by decide +kernel
theorem dX11_stands_46 : decode cX11_stands 46 = .ok (.iastore, 1) := by decide +kernel
theorem dX11_stands_47 : decode cX11_stands 47 = .ok (.iinc 3 1, 3) := by decide +kernel
theorem dX11_stands_50 : decode cX11_stands 50 = .ok (.goto (-42), 3) := by decide +kernel
theorem dX11_stands_53 : decode cX11_stands 53 = .ok (.iconst 0, 1) := by decide +kernel
theorem dX11_stands_54 : decode cX11_stands 54 = .ok (.istore_n 3, 1) := by decide +kernel
theorem dX11_stands_55 : decode cX11_stands 55 = .ok (.iload_n 3, 1) := by decide +kernel
theorem dX11_stands_56 : decode cX11_stands 56 = .ok (.aload_n 2, 1) := by decide +kernel
theorem dX11_stands_57 : decode cX11_stands 57 = .ok (.getfield 289, 3) := by decide +kernel
theorem dX11_stands_60 : decode cX11_stands 60 = .ok (.if_icmp .ge 22, 3) := by decide +kernel
theorem dX11_stands_63 : decode cX11_stands 63 = .ok (.aload_n 0, 1) := by decide +kernel
theorem dX11_stands_64 : decode cX11_stands 64 = .ok (.getfield 81, 3) := by decide +kernel
theorem dX11_stands_67 : decode cX11_stands 67 = .ok (.iload_n 3, 1) := by decide +kernel
theorem dX11_stands_68 : decode cX11_stands 68 = .ok (.invokestatic 429, 3) := by decide +kernel
theorem dX11_stands_71 : decode cX11_stands 71 = .ok (.ifCond .ne 5, 3) := by decide +kernel
theorem dX11_stands_74 : decode cX11_stands 74 = .ok (.iconst 0, 1) := by decide +kernel
theorem dX11_stands_75 : decode cX11_stands 75 = .ok (.ireturn, 1) := by decide +kernel
theorem dX11_stands_76 : decode cX11_stands 76 = .ok (.iinc 3 1, 3) := by decide +kernel
theorem dX11_stands_79 : decode cX11_stands 79 = .ok (.goto (-24), 3) := by decide +kernel
theorem dX11_stands_82 : decode cX11_stands 82 = .ok (.iconst 1, 1) := by decide +kernel
theorem dX11_stands_83 : decode cX11_stands 83 = .ok (.ireturn, 1) := by decide +kernel
theorem dX11_stacks_0 : decode cX11_stacks 0 = .ok (.aload_n 0, 1) := by decide +kernel
theorem dX11_stacks_1 : decode cX11_stacks 1 = .ok (.getfield 81, 3) := by decide +kernel
theorem dX11_stacks_4 : decode cX11_stacks 4 = .ok (.iconst 0, 1) := by decide +kernel
theorem dX11_stacks_5 : decode cX11_stacks 5 = .ok (.aload_n 0, 1) := by decide +kernel
theorem dX11_stacks_6 : decode cX11_stacks 6 = .ok (.getfield 33, 3) := by decide +kernel
theorem dX11_stacks_9 : decode cX11_stacks 9 = .ok (.getfield 181, 3) := by decide +kernel
theorem dX11_stacks_12 : decode cX11_stacks 12 = .ok (.getfield 185, 3) := by decide +kernel
theorem dX11_stacks_15 : decode cX11_stacks 15 = .ok (.invokestatic 433, 3) := by decide +kernel
theorem dX11_stacks_18 : decode cX11_stacks 18 = .ok (.ireturn, 1) := by decide +kernel
theorem dX11_stack_0 : decode cX11_stack 0 = .ok (.aload_n 0, 1) := by decide +kernel
theorem dX11_stack_1 : decode cX11_stack 1 = .ok (.iload_n 1, 1) := by decide +kernel
theorem dX11_stack_2 : decode cX11_stack 2 = .ok (.invokevirtual 426, 3) := by decide +kernel
theorem dX11_stack_5 : decode cX11_stack 5 = .ok (.astore_n 2, 1) := by decide +kernel
theorem dX11_stack_6 : decode cX11_stack 6 = .ok (.aload_n 0, 1) := by decide +kernel
theorem dX11_stack_7 : decode cX11_stack 7 = .ok (.invokevirtual 437, 3) := by decide +kernel
theorem dX11_stack_10 : decode cX11_stack 10 = .ok (.astore_n 3, 1) := by decide +kernel
theorem dX11_stack_11 : decode cX11_stack 11 = .ok (.iconst 0, 1) := by decide +kernel
theorem dX11_stack_12 : decode cX11_stack 12 = .ok (.istore 4, 2) := by decide +kernel
theorem dX11_stack_14 : decode cX11_stack 14 = .ok (.iload 4, 2) := by decide +kernel
theorem dX11_stack_16 : decode cX11_stack 16 = .ok (.aload_n 3, 1) := by decide +kernel
theorem dX11_stack_17 : decode cX11_stack 17 = .ok (.getfield 358, 3) := by decide +kernel
theorem dX11_stack_20 : decode cX11_stack 20 = .ok (.if_icmp .ge 39, 3) := by decide +kernel
theorem dX11_stack_23 : decode cX11_stack 23 = .ok (.aload_n 3, 1) := by decide +kernel
theorem dX11_stack_24 : decode cX11_stack 24 = .ok (.iload 4, 2) := by decide +kernel
theorem dX11_stack_26 : decode cX11_stack 26 = .ok (.invokevirtual 361, 3) := by decide +kernel
theorem dX11_stack_29 : decode cX11_stack 29 = .ok (.iconst 5, 1) := by decide +kernel
theorem dX11_stack_30 : decode cX11_stack 30 = .ok (.if_icmp .gt 29, 3) := by decide +kernel
theorem dX11_stack_33 : decode cX11_stack 33 = .ok (.aload_n 3, 1) := by decide +kernel
theorem dX11_stack_34 : decode cX11_stack 34 = .ok (.iload 4, 2) := by decide +kernel
theorem dX11_stack_36 : decode cX11_stack 36 = .ok (.invokevirtual 408, 3) := by decide +kernel
theorem dX11_stack_39 : decode cX11_stack 39 = .ok (.aload_n 2, 1) := by decide +kernel
theorem dX11_stack_40 : decode cX11_stack 40 = .ok (.invokestatic 440, 3) := by decide +kernel
theorem dX11_stack_43 : decode cX11_stack 43 = .ok (.ifCond .eq 10, 3) := by decide +kernel
theorem dX11_stack_46 : decode cX11_stack 46 = .ok (.aload_n 3, 1) := by decide +kernel
theorem dX11_stack_47 : decode cX11_stack 47 = .ok (.iload 4, 2) := by decide +kernel
theorem dX11_stack_49 : decode cX11_stack 49 = .ok (.invokevirtual 361, 3) := by decide +kernel
theorem dX11_stack_52 : decode cX11_stack 52 = .ok (.ireturn, 1) := by decide +kernel
theorem dX11_stack_53 : decode cX11_stack 53 = .ok (.iinc 4 1, 3) := by decide +kernel
theorem dX11_stack_56 : decode cX11_stack 56 = .ok (.goto (-42), 3) := by decide +kernel
theorem dX11_stack_59 : decode cX11_stack 59 = .ok (.iconst (-1), 1) := by decide +kernel
theorem dX11_stack_60 : decode cX11_stack 60 = .ok (.ireturn, 1) := by decide +kernel
theorem dX11_simple_0 : decode cX11_simple 0 = .ok (.aload_n 0, 1) := by decide +kernel
theorem dX11_simple_1 : decode cX11_simple 1 = .ok (.invokevirtual 437, 3) := by decide +kernel
theorem dX11_simple_4 : decode cX11_simple 4 = .ok (.astore_n 1, 1) := by decide +kernel
theorem dX11_simple_5 : decode cX11_simple 5 = .ok (.aload_n 0, 1) := by decide +kernel
theorem dX11_simple_6 : decode cX11_simple 6 = .ok (.getfield 91, 3) := by decide +kernel
theorem dX11_simple_9 : decode cX11_simple 9 = .ok (.iconst 0, 1) := by decide +kernel
theorem dX11_simple_10 : decode cX11_simple 10 = .ok (.invokestatic 443, 3) := by decide +kernel
theorem dX11_simple_13 : decode cX11_simple 13 = .ok (.iconst 0, 1) := by decide +kernel
theorem dX11_simple_14 : decode cX11_simple 14 = .ok (.istore_n 2, 1) := by decide +kernel
theorem dX11_simple_15 : decode cX11_simple 15 = .ok (.iconst 0, 1) := by decide +kernel
theorem dX11_simple_16 : decode cX11_simple 16 = .ok (.istore_n 3, 1) := by decide +kernel
theorem dX11_simple_17 : decode cX11_simple 17 = .ok (.iload_n 3, 1) := by decide +kernel
theorem dX11_simple_18 : decode cX11_simple 18 = .ok (.aload_n 1, 1) := by decide +kernel
theorem dX11_simple_19 : decode cX11_simple 19 = .ok (.getfield 358, 3) := by decide +kernel
theorem dX11_simple_22 : decode cX11_simple 22 = .ok (.if_icmp .ge 49, 3) := by decide +kernel
theorem dX11_simple_25 : decode cX11_simple 25 = .ok (.aload_n 1, 1) := by decide +kernel
theorem dX11_simple_26 : decode cX11_simple 26 = .ok (.iload_n 3, 1) := by decide +kernel
theorem dX11_simple_27 : decode cX11_simple 27 = .ok (.invokevirtual 361, 3) := by decide +kernel
theorem dX11_simple_30 : decode cX11_simple 30 = .ok (.iconst 5, 1) := by decide +kernel
theorem dX11_simple_31 : decode cX11_simple 31 = .ok (.if_icmp .gt 40, 3) := by decide +kernel
theorem dX11_simple_34 : decode cX11_simple 34 = .ok (.aload_n 1, 1) := by decide +kernel
theorem dX11_simple_35 : decode cX11_simple 35 = .ok (.iload_n 3, 1) := by decide +kernel
theorem dX11_simple_36 : decode cX11_simple 36 = .ok (.invokevirtual 408, 3) := by decide +kernel
theorem dX11_simple_39 : decode cX11_simple 39 = .ok (.astore 4, 2) := by decide +kernel
theorem dX11_simple_41 : decode cX11_simple 41 = .ok (.aload 4, 2) := by decide +kernel
theorem dX11_simple_43 : decode cX11_simple 43 = .ok (.getfield 217, 3) := by decide +kernel
theorem dX11_simple_46 : decode cX11_simple 46 = .ok (.iconst 1, 1) := by decide +kernel
theorem dX11_simple_47 : decode cX11_simple 47 = .ok (.if_icmp .gt 18, 3) := by decide +kernel
theorem dX11_simple_50 : decode cX11_simple 50 = .ok (.aload_n 0, 1) := by decide +kernel
theorem dX11_simple_51 : decode cX11_simple 51 = .ok (.aload 4, 2) := by decide +kernel
theorem dX11_simple_53 : decode cX11_simple 53 = .ok (.invokevirtual 449, 3) := by decide +kernel
theorem dX11_simple_56 : decode cX11_simple 56 = .ok (.invokevirtual 452, 3) := by decide +kernel
theorem dX11_simple_59 : decode cX11_simple 59 = .ok (.ifCond .eq 6, 3) := by decide +kernel
theorem dX11_simple_62 : decode cX11_simple 62 = .ok (.iinc 2 1, 3) := by decide +kernel
theorem dX11_simple_65 : decode cX11_simple 65 = .ok (.iinc 3 1, 3) := by decide +kernel
theorem dX11_simple_68 : decode cX11_simple 68 = .ok (.goto (-51), 3) := by decide +kernel
theorem dX11_simple_71 : decode cX11_simple 71 = .ok (.iload_n 2, 1) := by decide +kernel
theorem dX11_simple_72 : decode cX11_simple 72 = .ok (.ireturn, 1) := by decide +kernel
theorem dX11_made_0 : decode cX11_made 0 = .ok (.aload_n 0, 1) := by decide +kernel
theorem dX11_made_1 : decode cX11_made 1 = .ok (.iload_n 1, 1) := by decide +kernel
theorem dX11_made_2 : decode cX11_made 2 = .ok (.invokevirtual 453, 3) := by decide +kernel
theorem dX11_made_5 : decode cX11_made 5 = .ok (.astore_n 2, 1) := by decide +kernel
theorem dX11_made_6 : decode cX11_made 6 = .ok (.aload_n 0, 1) := by decide +kernel
theorem dX11_made_7 : decode cX11_made 7 = .ok (.invokevirtual 437, 3) := by decide +kernel
theorem dX11_made_10 : decode cX11_made 10 = .ok (.astore_n 3, 1) := by decide +kernel
theorem dX11_made_11 : decode cX11_made 11 = .ok (.iconst 0, 1) := by decide +kernel
theorem dX11_made_12 : decode cX11_made 12 = .ok (.istore 4, 2) := by decide +kernel
theorem dX11_made_14 : decode cX11_made 14 = .ok (.iconst 0, 1) := by decide +kernel
theorem dX11_made_15 : decode cX11_made 15 = .ok (.istore 5, 2) := by decide +kernel
theorem dX11_made_17 : decode cX11_made 17 = .ok (.iload 5, 2) := by decide +kernel
theorem dX11_made_19 : decode cX11_made 19 = .ok (.aload_n 3, 1) := by decide +kernel
theorem dX11_made_20 : decode cX11_made 20 = .ok (.getfield 358, 3) := by decide +kernel
theorem dX11_made_23 : decode cX11_made 23 = .ok (.if_icmp .ge 43, 3) := by decide +kernel
theorem dX11_made_26 : decode cX11_made 26 = .ok (.aload_n 3, 1) := by decide +kernel
theorem dX11_made_27 : decode cX11_made 27 = .ok (.iload 5, 2) := by decide +kernel
theorem dX11_made_29 : decode cX11_made 29 = .ok (.invokevirtual 361, 3) := by decide +kernel
theorem dX11_made_32 : decode cX11_made 32 = .ok (.iconst 5, 1) := by decide +kernel
theorem dX11_made_33 : decode cX11_made 33 = .ok (.if_icmp .gt 33, 3) := by decide +kernel
theorem dX11_made_36 : decode cX11_made 36 = .ok (.aload_n 3, 1) := by decide +kernel
theorem dX11_made_37 : decode cX11_made 37 = .ok (.iload 5, 2) := by decide +kernel
theorem dX11_made_39 : decode cX11_made 39 = .ok (.invokevirtual 408, 3) := by decide +kernel
theorem dX11_made_42 : decode cX11_made 42 = .ok (.aload_n 2, 1) := by decide +kernel
theorem dX11_made_43 : decode cX11_made 43 = .ok (.invokestatic 456, 3) := by decide +kernel
theorem dX11_made_46 : decode cX11_made 46 = .ok (.ifCond .eq 14, 3) := by decide +kernel
theorem dX11_made_49 : decode cX11_made 49 = .ok (.iload 4, 2) := by decide +kernel
theorem dX11_made_51 : decode cX11_made 51 = .ok (.aload_n 3, 1) := by decide +kernel
theorem dX11_made_52 : decode cX11_made 52 = .ok (.iload 5, 2) := by decide +kernel
theorem dX11_made_54 : decode cX11_made 54 = .ok (.invokevirtual 364, 3) := by decide +kernel
theorem dX11_made_57 : decode cX11_made 57 = .ok (.iadd, 1) := by decide +kernel
theorem dX11_made_58 : decode cX11_made 58 = .ok (.istore 4, 2) := by decide +kernel
theorem dX11_made_60 : decode cX11_made 60 = .ok (.iinc 5 1, 3) := by decide +kernel
theorem dX11_made_63 : decode cX11_made 63 = .ok (.goto (-46), 3) := by decide +kernel
theorem dX11_made_66 : decode cX11_made 66 = .ok (.iload 4, 2) := by decide +kernel
theorem dX11_made_68 : decode cX11_made 68 = .ok (.ireturn, 1) := by decide +kernel
theorem dX11_madeBy_0 : decode cX11_madeBy 0 = .ok (.aload_n 0, 1) := by decide +kernel
theorem dX11_madeBy_1 : decode cX11_madeBy 1 = .ok (.iload_n 1, 1) := by decide +kernel
theorem dX11_madeBy_2 : decode cX11_madeBy 2 = .ok (.invokevirtual 453, 3) := by decide +kernel
theorem dX11_madeBy_5 : decode cX11_madeBy 5 = .ok (.astore_n 3, 1) := by decide +kernel
theorem dX11_madeBy_6 : decode cX11_madeBy 6 = .ok (.iload_n 2, 1) := by decide +kernel
theorem dX11_madeBy_7 : decode cX11_madeBy 7 = .ok (.ifCond .ge 13, 3) := by decide +kernel
theorem dX11_madeBy_10 : decode cX11_madeBy 10 = .ok (.new 99, 3) := by decide +kernel
theorem dX11_madeBy_13 : decode cX11_madeBy 13 = .ok (.dup, 1) := by decide +kernel
theorem dX11_madeBy_14 : decode cX11_madeBy 14 = .ok (.ldc 193, 2) := by decide +kernel
theorem dX11_madeBy_16 : decode cX11_madeBy 16 = .ok (.invokespecial 103, 3) := by decide +kernel
theorem dX11_madeBy_19 : decode cX11_madeBy 19 = .ok (.athrow, 1) := by decide +kernel
theorem dX11_madeBy_20 : decode cX11_madeBy 20 = .ok (.aload_n 0, 1) := by decide +kernel
theorem dX11_madeBy_21 : decode cX11_madeBy 21 = .ok (.invokevirtual 437, 3) := by decide +kernel
theorem dX11_madeBy_24 : decode cX11_madeBy 24 = .ok (.astore 4, 2) := by decide +kernel
theorem dX11_madeBy_26 : decode cX11_madeBy 26 = .ok (.iconst 0, 1) := by decide +kernel
theorem dX11_madeBy_27 : decode cX11_madeBy 27 = .ok (.istore 5, 2) := by decide +kernel
theorem dX11_madeBy_29 : decode cX11_madeBy 29 = .ok (.iload 5, 2) := by decide +kernel
theorem dX11_madeBy_31 : decode cX11_madeBy 31 = .ok (.aload 4, 2) := by decide +kernel
theorem dX11_madeBy_33 : decode cX11_madeBy 33 = .ok (.getfield 358, 3) := by decide +kernel
theorem dX11_madeBy_36 : decode cX11_madeBy 36 = .ok (.if_icmp .ge 43, 3) := by decide +kernel
theorem dX11_madeBy_39 : decode cX11_madeBy 39 = .ok (.aload 4, 2) := by decide +kernel
theorem dX11_madeBy_41 : decode cX11_madeBy 41 = .ok (.iload 5, 2) := by decide +kernel
theorem dX11_madeBy_43 : decode cX11_madeBy 43 = .ok (.invokevirtual 361, 3) := by decide +kernel
theorem dX11_madeBy_46 : decode cX11_madeBy 46 = .ok (.iconst 5, 1) := by decide +kernel
theorem dX11_madeBy_47 : decode cX11_madeBy 47 = .ok (.if_icmp .gt 32, 3) := by decide +kernel
theorem dX11_madeBy_50 : decode cX11_madeBy 50 = .ok (.aload 4, 2) := by decide +kernel
theorem dX11_madeBy_52 : decode cX11_madeBy 52 = .ok (.iload 5, 2) := by decide +kernel
theorem dX11_madeBy_54 : decode cX11_madeBy 54 = .ok (.invokevirtual 408, 3) := by decide +kernel
theorem dX11_madeBy_57 : decode cX11_madeBy 57 = .ok (.aload_n 3, 1) := by decide +kernel
theorem dX11_madeBy_58 : decode cX11_madeBy 58 = .ok (.invokestatic 456, 3) := by decide +kernel
theorem dX11_madeBy_61 : decode cX11_madeBy 61 = .ok (.ifCond .eq 12, 3) := by decide +kernel
theorem dX11_madeBy_64 : decode cX11_madeBy 64 = .ok (.aload 4, 2) := by decide +kernel
theorem dX11_madeBy_66 : decode cX11_madeBy 66 = .ok (.iload 5, 2) := by decide +kernel
theorem dX11_madeBy_68 : decode cX11_madeBy 68 = .ok (.iload_n 2, 1) := by decide +kernel
theorem dX11_madeBy_69 : decode cX11_madeBy 69 = .ok (.invokevirtual 415, 3) := by decide +kernel
theorem dX11_madeBy_72 : decode cX11_madeBy 72 = .ok (.ireturn, 1) := by decide +kernel
theorem dX11_madeBy_73 : decode cX11_madeBy 73 = .ok (.iinc 5 1, 3) := by decide +kernel
theorem dX11_madeBy_76 : decode cX11_madeBy 76 = .ok (.goto (-47), 3) := by decide +kernel
theorem dX11_madeBy_79 : decode cX11_madeBy 79 = .ok (.iconst (-1), 1) := by decide +kernel
theorem dX11_madeBy_80 : decode cX11_madeBy 80 = .ok (.ireturn, 1) := by decide +kernel
theorem dX11_patterns_0 : decode cX11_patterns 0 = .ok (.aload_n 0, 1) := by decide +kernel
theorem dX11_patterns_1 : decode cX11_patterns 1 = .ok (.invokevirtual 437, 3) := by decide +kernel
theorem dX11_patterns_4 : decode cX11_patterns 4 = .ok (.astore_n 1, 1) := by decide +kernel
theorem dX11_patterns_5 : decode cX11_patterns 5 = .ok (.aload_n 0, 1) := by decide +kernel
theorem dX11_patterns_6 : decode cX11_patterns 6 = .ok (.getfield 91, 3) := by decide +kernel
theorem dX11_patterns_9 : decode cX11_patterns 9 = .ok (.iconst 0, 1) := by decide +kernel
theorem dX11_patterns_10 : decode cX11_patterns 10 = .ok (.invokestatic 443, 3) := by decide +kernel
theorem dX11_patterns_13 : decode cX11_patterns 13 = .ok (.iconst 0, 1) := by decide +kernel
theorem dX11_patterns_14 : decode cX11_patterns 14 = .ok (.istore_n 2, 1) := by decide +kernel
theorem dX11_patterns_15 : decode cX11_patterns 15 = .ok (.iconst 0, 1) := by decide +kernel
theorem dX11_patterns_16 : decode cX11_patterns 16 = .ok (.istore_n 3, 1) := by decide +kernel
theorem dX11_patterns_17 : decode cX11_patterns 17 = .ok (.iload_n 3, 1) := by decide +kernel
theorem dX11_patterns_18 : decode cX11_patterns 18 = .ok (.aload_n 1, 1) := by decide +kernel
theorem dX11_patterns_19 : decode cX11_patterns 19 = .ok (.getfield 358, 3) := by decide +kernel
theorem dX11_patterns_22 : decode cX11_patterns 22 = .ok (.if_icmp .ge 48, 3) := by decide +kernel
theorem dX11_patterns_25 : decode cX11_patterns 25 = .ok (.aload_n 1, 1) := by decide +kernel
theorem dX11_patterns_26 : decode cX11_patterns 26 = .ok (.iload_n 3, 1) := by decide +kernel
theorem dX11_patterns_27 : decode cX11_patterns 27 = .ok (.invokevirtual 361, 3) := by decide +kernel
theorem dX11_patterns_30 : decode cX11_patterns 30 = .ok (.iconst 5, 1) := by decide +kernel
theorem dX11_patterns_31 : decode cX11_patterns 31 = .ok (.if_icmp .gt 39, 3) := by decide +kernel
theorem dX11_patterns_34 : decode cX11_patterns 34 = .ok (.aload_n 1, 1) := by decide +kernel
theorem dX11_patterns_35 : decode cX11_patterns 35 = .ok (.iload_n 3, 1) := by decide +kernel
theorem dX11_patterns_36 : decode cX11_patterns 36 = .ok (.invokevirtual 408, 3) := by decide +kernel
theorem dX11_patterns_39 : decode cX11_patterns 39 = .ok (.invokevirtual 459, 3) := by decide +kernel
theorem dX11_patterns_42 : decode cX11_patterns 42 = .ok (.istore 4, 2) := by decide +kernel
theorem dX11_patterns_44 : decode cX11_patterns 44 = .ok (.iload 4, 2) := by decide +kernel
theorem dX11_patterns_46 : decode cX11_patterns 46 = .ok (.sipush 243, 3) := by decide +kernel
theorem dX11_patterns_49 : decode cX11_patterns 49 = .ok (.if_icmp .ge 15, 3) := by decide +kernel
theorem dX11_patterns_52 : decode cX11_patterns 52 = .ok (.aload_n 0, 1) := by decide +kernel
theorem dX11_patterns_53 : decode cX11_patterns 53 = .ok (.iload 4, 2) := by decide +kernel
theorem dX11_patterns_55 : decode cX11_patterns 55 = .ok (.invokevirtual 452, 3) := by decide +kernel
theorem dX11_patterns_58 : decode cX11_patterns 58 = .ok (.ifCond .eq 6, 3) := by decide +kernel
theorem dX11_patterns_61 : decode cX11_patterns 61 = .ok (.iinc 2 1, 3) := by decide +kernel
theorem dX11_patterns_64 : decode cX11_patterns 64 = .ok (.iinc 3 1, 3) := by decide +kernel
theorem dX11_patterns_67 : decode cX11_patterns 67 = .ok (.goto (-50), 3) := by decide +kernel
theorem dX11_patterns_70 : decode cX11_patterns 70 = .ok (.iload_n 2, 1) := by decide +kernel
theorem dX11_patterns_71 : decode cX11_patterns 71 = .ok (.ireturn, 1) := by decide +kernel
theorem dX11_meet_0 : decode cX11_meet 0 = .ok (.iload_n 1, 1) := by decide +kernel
theorem dX11_meet_1 : decode cX11_meet 1 = .ok (.ifCond .lt 21, 3) := by decide +kernel
theorem dX11_meet_4 : decode cX11_meet 4 = .ok (.iload_n 1, 1) := by decide +kernel
theorem dX11_meet_5 : decode cX11_meet 5 = .ok (.aload_n 0, 1) := by decide +kernel
theorem dX11_meet_6 : decode cX11_meet 6 = .ok (.getfield 91, 3) := by decide +kernel
theorem dX11_meet_9 : decode cX11_meet 9 = .ok (.arraylength, 1) := by decide +kernel
theorem dX11_meet_10 : decode cX11_meet 10 = .ok (.if_icmp .ge 12, 3) := by decide +kernel
theorem dX11_meet_13 : decode cX11_meet 13 = .ok (.aload_n 0, 1) := by decide +kernel
theorem dX11_meet_14 : decode cX11_meet 14 = .ok (.getfield 91, 3) := by decide +kernel
theorem dX11_meet_17 : decode cX11_meet 17 = .ok (.iload_n 1, 1) := by decide +kernel
theorem dX11_meet_18 : decode cX11_meet 18 = .ok (.iaload, 1) := by decide +kernel
theorem dX11_meet_19 : decode cX11_meet 19 = .ok (.ifCond .eq 5, 3) := by decide +kernel
theorem dX11_meet_22 : decode cX11_meet 22 = .ok (.iconst 0, 1) := by decide +kernel
theorem dX11_meet_23 : decode cX11_meet 23 = .ok (.ireturn, 1) := by decide +kernel
theorem dX11_meet_24 : decode cX11_meet 24 = .ok (.aload_n 0, 1) := by decide +kernel
theorem dX11_meet_25 : decode cX11_meet 25 = .ok (.getfield 91, 3) := by decide +kernel
theorem dX11_meet_28 : decode cX11_meet 28 = .ok (.iload_n 1, 1) := by decide +kernel
theorem dX11_meet_29 : decode cX11_meet 29 = .ok (.iconst 1, 1) := by decide +kernel
theorem dX11_meet_30 : decode cX11_meet 30 = .ok (.iastore, 1) := by decide +kernel
theorem dX11_meet_31 : decode cX11_meet 31 = .ok (.iconst 1, 1) := by decide +kernel
theorem dX11_meet_32 : decode cX11_meet 32 = .ok (.ireturn, 1) := by decide +kernel
theorem dX11_stackIn_0 : decode cX11_stackIn 0 = .ok (.aload_n 0, 1) := by decide +kernel
theorem dX11_stackIn_1 : decode cX11_stackIn 1 = .ok (.iload_n 1, 1) := by decide +kernel
theorem dX11_stackIn_2 : decode cX11_stackIn 2 = .ok (.invokevirtual 280, 3) := by decide +kernel
theorem dX11_stackIn_5 : decode cX11_stackIn 5 = .ok (.astore_n 2, 1) := by decide +kernel
theorem dX11_stackIn_6 : decode cX11_stackIn 6 = .ok (.aload_n 2, 1) := by decide +kernel
theorem dX11_stackIn_7 : decode cX11_stackIn 7 = .ok (.aload_n 0, 1) := by decide +kernel
theorem dX11_stackIn_8 : decode cX11_stackIn 8 = .ok (.getfield 33, 3) := by decide +kernel
theorem dX11_stackIn_11 : decode cX11_stackIn 11 = .ok (.getfield 181, 3) := by decide +kernel
theorem dX11_stackIn_14 : decode cX11_stackIn 14 = .ok (.getfield 185, 3) := by decide +kernel
theorem dX11_stackIn_17 : decode cX11_stackIn 17 = .ok (.invokevirtual 462, 3) := by decide +kernel
theorem dX11_stackIn_20 : decode cX11_stackIn 20 = .ok (.ifCond .ne 14, 3) := by decide +kernel
theorem dX11_stackIn_23 : decode cX11_stackIn 23 = .ok (.new 99, 3) := by decide +kernel
theorem dX11_stackIn_26 : decode cX11_stackIn 26 = .ok (.dup, 1) := by decide +kernel
theorem dX11_stackIn_27 : decode cX11_stackIn 27 = .ok (.ldc_w 465, 3) := by decide +kernel
theorem dX11_stackIn_30 : decode cX11_stackIn 30 = .ok (.invokespecial 103, 3) := by decide +kernel
theorem dX11_stackIn_33 : decode cX11_stackIn 33 = .ok (.athrow, 1) := by decide +kernel
theorem dX11_stackIn_34 : decode cX11_stackIn 34 = .ok (.aload_n 2, 1) := by decide +kernel
theorem dX11_stackIn_35 : decode cX11_stackIn 35 = .ok (.areturn, 1) := by decide +kernel
theorem dX11_creasesIn_0 : decode cX11_creasesIn 0 = .ok (.aload_n 0, 1) := by decide +kernel
theorem dX11_creasesIn_1 : decode cX11_creasesIn 1 = .ok (.iload_n 1, 1) := by decide +kernel
theorem dX11_creasesIn_2 : decode cX11_creasesIn 2 = .ok (.invokevirtual 280, 3) := by decide +kernel
theorem dX11_creasesIn_5 : decode cX11_creasesIn 5 = .ok (.astore_n 2, 1) := by decide +kernel
theorem dX11_creasesIn_6 : decode cX11_creasesIn 6 = .ok (.aload_n 2, 1) := by decide +kernel
theorem dX11_creasesIn_7 : decode cX11_creasesIn 7 = .ok (.getfield 289, 3) := by decide +kernel
theorem dX11_creasesIn_10 : decode cX11_creasesIn 10 = .ok (.iconst 0, 1) := by decide +kernel
theorem dX11_creasesIn_11 : decode cX11_creasesIn 11 = .ok (.aload_n 0, 1) := by decide +kernel
theorem dX11_creasesIn_12 : decode cX11_creasesIn 12 = .ok (.getfield 33, 3) := by decide +kernel
theorem dX11_creasesIn_15 : decode cX11_creasesIn 15 = .ok (.getfield 181, 3) := by decide +kernel
theorem dX11_creasesIn_18 : decode cX11_creasesIn 18 = .ok (.getfield 185, 3) := by decide +kernel
theorem dX11_creasesIn_21 : decode cX11_creasesIn 21 = .ok (.iconst 1, 1) := by decide +kernel
theorem dX11_creasesIn_22 : decode cX11_creasesIn 22 = .ok (.isub, 1) := by decide +kernel
theorem dX11_creasesIn_23 : decode cX11_creasesIn 23 = .ok (.invokestatic 346, 3) := by decide +kernel
theorem dX11_creasesIn_26 : decode cX11_creasesIn 26 = .ok (.if_icmp .ne 14, 3) := by decide +kernel
theorem dX11_creasesIn_29 : decode cX11_creasesIn 29 = .ok (.aload_n 2, 1) := by decide +kernel
theorem dX11_creasesIn_30 : decode cX11_creasesIn 30 = .ok (.lconst 0, 1) := by decide +kernel
theorem dX11_creasesIn_31 : decode cX11_creasesIn 31 = .ok (.ldc2_w 467, 3) := by decide +kernel
theorem dX11_creasesIn_34 : decode cX11_creasesIn 34 = .ok (.invokevirtual 469, 3) := by decide +kernel
theorem dX11_creasesIn_37 : decode cX11_creasesIn 37 = .ok (.ifCond .ne 14, 3) := by decide +kernel
theorem dX11_creasesIn_40 : decode cX11_creasesIn 40 = .ok (.new 99, 3) := by decide +kernel
theorem dX11_creasesIn_43 : decode cX11_creasesIn 43 = .ok (.dup, 1) := by decide +kernel
theorem dX11_creasesIn_44 : decode cX11_creasesIn 44 = .ok (.ldc_w 473, 3) := by decide +kernel
theorem dX11_creasesIn_47 : decode cX11_creasesIn 47 = .ok (.invokespecial 103, 3) := by decide +kernel
theorem dX11_creasesIn_50 : decode cX11_creasesIn 50 = .ok (.athrow, 1) := by decide +kernel
theorem dX11_creasesIn_51 : decode cX11_creasesIn 51 = .ok (.aload_n 2, 1) := by decide +kernel
theorem dX11_creasesIn_52 : decode cX11_creasesIn 52 = .ok (.areturn, 1) := by decide +kernel
theorem dX11_liesInOrder_0 : decode cX11_liesInOrder 0 = .ok (.aload_n 0, 1) := by decide +kernel
theorem dX11_liesInOrder_1 : decode cX11_liesInOrder 1 = .ok (.getfield 217, 3) := by decide +kernel
theorem dX11_liesInOrder_4 : decode cX11_liesInOrder 4 = .ok (.iconst 1, 1) := by decide +kernel
theorem dX11_liesInOrder_5 : decode cX11_liesInOrder 5 = .ok (.if_icmp .le 5, 3) := by decide +kernel
theorem dX11_liesInOrder_8 : decode cX11_liesInOrder 8 = .ok (.iconst 0, 1) := by decide +kernel
theorem dX11_liesInOrder_9 : decode cX11_liesInOrder 9 = .ok (.ireturn, 1) := by decide +kernel
theorem dX11_liesInOrder_10 : decode cX11_liesInOrder 10 = .ok (.iconst 0, 1) := by decide +kernel
theorem dX11_liesInOrder_11 : decode cX11_liesInOrder 11 = .ok (.istore_n 2, 1) := by decide +kernel
theorem dX11_liesInOrder_12 : decode cX11_liesInOrder 12 = .ok (.iload_n 2, 1) := by decide +kernel
theorem dX11_liesInOrder_13 : decode cX11_liesInOrder 13 = .ok (.aload_n 1, 1) := by decide +kernel
theorem dX11_liesInOrder_14 : decode cX11_liesInOrder 14 = .ok (.getfield 289, 3) := by decide +kernel
theorem dX11_liesInOrder_17 : decode cX11_liesInOrder 17 = .ok (.if_icmp .ge 26, 3) := by decide +kernel
theorem dX11_liesInOrder_20 : decode cX11_liesInOrder 20 = .ok (.aload_n 0, 1) := by decide +kernel
theorem dX11_liesInOrder_21 : decode cX11_liesInOrder 21 = .ok (.iload_n 2, 1) := by decide +kernel
theorem dX11_liesInOrder_22 : decode cX11_liesInOrder 22 = .ok (.invokevirtual 168, 3) := by decide +kernel
theorem dX11_liesInOrder_25 : decode cX11_liesInOrder 25 = .ok (.i2l, 1) := by decide +kernel
theorem dX11_liesInOrder_26 : decode cX11_liesInOrder 26 = .ok (.aload_n 1, 1) := by decide +kernel
theorem dX11_liesInOrder_27 : decode cX11_liesInOrder 27 = .ok (.iload_n 2, 1) := by decide +kernel
theorem dX11_liesInOrder_28 : decode cX11_liesInOrder 28 = .ok (.invokevirtual 292, 3) := by decide +kernel
theorem dX11_liesInOrder_31 : decode cX11_liesInOrder 31 = .ok (.lcmp, 1) := by decide +kernel
theorem dX11_liesInOrder_32 : decode cX11_liesInOrder 32 = .ok (.ifCond .eq 5, 3) := by decide +kernel
theorem dX11_liesInOrder_35 : decode cX11_liesInOrder 35 = .ok (.iconst 0, 1) := by decide +kernel
theorem dX11_liesInOrder_36 : decode cX11_liesInOrder 36 = .ok (.ireturn, 1) := by decide +kernel
theorem dX11_liesInOrder_37 : decode cX11_liesInOrder 37 = .ok (.iinc 2 1, 3) := by decide +kernel
theorem dX11_liesInOrder_40 : decode cX11_liesInOrder 40 = .ok (.goto (-28), 3) := by decide +kernel
theorem dX11_liesInOrder_43 : decode cX11_liesInOrder 43 = .ok (.iconst 1, 1) := by decide +kernel
theorem dX11_liesInOrder_44 : decode cX11_liesInOrder 44 = .ok (.ireturn, 1) := by decide +kernel
theorem dX11_isCreasedSo_0 : decode cX11_isCreasedSo 0 = .ok (.iconst 0, 1) := by decide +kernel
theorem dX11_isCreasedSo_1 : decode cX11_isCreasedSo 1 = .ok (.istore_n 2, 1) := by decide +kernel
theorem dX11_isCreasedSo_2 : decode cX11_isCreasedSo 2 = .ok (.iload_n 2, 1) := by decide +kernel
theorem dX11_isCreasedSo_3 : decode cX11_isCreasedSo 3 = .ok (.aload_n 1, 1) := by decide +kernel
theorem dX11_isCreasedSo_4 : decode cX11_isCreasedSo 4 = .ok (.getfield 289, 3) := by decide +kernel
theorem dX11_isCreasedSo_7 : decode cX11_isCreasedSo 7 = .ok (.if_icmp .ge 26, 3) := by decide +kernel
theorem dX11_isCreasedSo_10 : decode cX11_isCreasedSo 10 = .ok (.aload_n 0, 1) := by decide +kernel
theorem dX11_isCreasedSo_11 : decode cX11_isCreasedSo 11 = .ok (.iload_n 2, 1) := by decide +kernel
theorem dX11_isCreasedSo_12 : decode cX11_isCreasedSo 12 = .ok (.invokevirtual 190, 3) := by decide +kernel
theorem dX11_isCreasedSo_15 : decode cX11_isCreasedSo 15 = .ok (.i2l, 1) := by decide +kernel
theorem dX11_isCreasedSo_16 : decode cX11_isCreasedSo 16 = .ok (.aload_n 1, 1) := by decide +kernel
theorem dX11_isCreasedSo_17 : decode cX11_isCreasedSo 17 = .ok (.iload_n 2, 1) := by decide +kernel
theorem dX11_isCreasedSo_18 : decode cX11_isCreasedSo 18 = .ok (.invokevirtual 292, 3) := by decide +kernel
theorem dX11_isCreasedSo_21 : decode cX11_isCreasedSo 21 = .ok (.lcmp, 1) := by decide +kernel
theorem dX11_isCreasedSo_22 : decode cX11_isCreasedSo 22 = .ok (.ifCond .eq 5, 3) := by decide +kernel
theorem dX11_isCreasedSo_25 : decode cX11_isCreasedSo 25 = .ok (.iconst 0, 1) := by decide +kernel
theorem dX11_isCreasedSo_26 : decode cX11_isCreasedSo 26 = .ok (.ireturn, 1) := by decide +kernel
theorem dX11_isCreasedSo_27 : decode cX11_isCreasedSo 27 = .ok (.iinc 2 1, 3) := by decide +kernel
theorem dX11_isCreasedSo_30 : decode cX11_isCreasedSo 30 = .ok (.goto (-28), 3) := by decide +kernel
theorem dX11_isCreasedSo_33 : decode cX11_isCreasedSo 33 = .ok (.iconst 1, 1) := by decide +kernel
theorem dX11_isCreasedSo_34 : decode cX11_isCreasedSo 34 = .ok (.ireturn, 1) := by decide +kernel
theorem dX11_standing_0 : decode cX11_standing 0 = .ok (.iload_n 1, 1) := by decide +kernel
theorem dX11_standing_1 : decode cX11_standing 1 = .ok (.iload_n 2, 1) := by decide +kernel
theorem dX11_standing_2 : decode cX11_standing 2 = .ok (.if_icmp .ge 9, 3) := by decide +kernel
theorem dX11_standing_5 : decode cX11_standing 5 = .ok (.iload_n 1, 1) := by decide +kernel
theorem dX11_standing_6 : decode cX11_standing 6 = .ok (.aload_n 0, 1) := by decide +kernel
theorem dX11_standing_7 : decode cX11_standing 7 = .ok (.arraylength, 1) := by decide +kernel
theorem dX11_standing_8 : decode cX11_standing 8 = .ok (.if_icmp .lt 5, 3) := by decide +kernel
theorem dX11_standing_11 : decode cX11_standing 11 = .ok (.iconst 1, 1) := by decide +kernel
theorem dX11_standing_12 : decode cX11_standing 12 = .ok (.ireturn, 1) := by decide +kernel
theorem dX11_standing_13 : decode cX11_standing 13 = .ok (.iconst 0, 1) := by decide +kernel
theorem dX11_standing_14 : decode cX11_standing 14 = .ok (.istore_n 3, 1) := by decide +kernel
theorem dX11_standing_15 : decode cX11_standing 15 = .ok (.iconst 0, 1) := by decide +kernel
theorem dX11_standing_16 : decode cX11_standing 16 = .ok (.istore 4, 2) := by decide +kernel
theorem dX11_standing_18 : decode cX11_standing 18 = .ok (.iload 4, 2) := by decide +kernel
theorem dX11_standing_20 : decode cX11_standing 20 = .ok (.iload_n 2, 1) := by decide +kernel
theorem dX11_standing_21 : decode cX11_standing 21 = .ok (.if_icmp .ge 43, 3) := by decide +kernel
theorem dX11_standing_24 : decode cX11_standing 24 = .ok (.aload_n 0, 1) := by decide +kernel
theorem dX11_standing_25 : decode cX11_standing 25 = .ok (.iload_n 1, 1) := by decide +kernel
theorem dX11_standing_26 : decode cX11_standing 26 = .ok (.iload 4, 2) := by decide +kernel
theorem dX11_standing_28 : decode cX11_standing 28 = .ok (.invokestatic 475, 3) := by decide +kernel
theorem dX11_standing_31 : decode cX11_standing 31 = .ok (.ifCond .eq 27, 3) := by decide +kernel
theorem dX11_standing_34 : decode cX11_standing 34 = .ok (.aload_n 0, 1) := by decide +kernel
theorem dX11_standing_35 : decode cX11_standing 35 = .ok (.iload_n 1, 1) := by decide +kernel
theorem dX11_standing_36 : decode cX11_standing 36 = .ok (.iload 4, 2) := by decide +kernel
theorem dX11_standing_38 : decode cX11_standing 38 = .ok (.iastore, 1) := by decide +kernel
theorem dX11_standing_39 : decode cX11_standing 39 = .ok (.aload_n 0, 1) := by decide +kernel
theorem dX11_standing_40 : decode cX11_standing 40 = .ok (.iload_n 1, 1) := by decide +kernel
theorem dX11_standing_41 : decode cX11_standing 41 = .ok (.invokestatic 429, 3) := by decide +kernel
theorem dX11_standing_44 : decode cX11_standing 44 = .ok (.ifCond .eq 14, 3) := by decide +kernel
theorem dX11_standing_47 : decode cX11_standing 47 = .ok (.iload_n 3, 1) := by decide +kernel
theorem dX11_standing_48 : decode cX11_standing 48 = .ok (.aload_n 0, 1) := by decide +kernel
theorem dX11_standing_49 : decode cX11_standing 49 = .ok (.iload_n 1, 1) := by decide +kernel
theorem dX11_standing_50 : decode cX11_standing 50 = .ok (.iconst 1, 1) := by decide +kernel
theorem dX11_standing_51 : decode cX11_standing 51 = .ok (.iadd, 1) := by decide +kernel
theorem dX11_standing_52 : decode cX11_standing 52 = .ok (.iload_n 2, 1) := by decide +kernel
theorem dX11_standing_53 : decode cX11_standing 53 = .ok (.invokestatic 433, 3) := by decide +kernel
theorem dX11_standing_56 : decode cX11_standing 56 = .ok (.iadd, 1) := by decide +kernel
theorem dX11_standing_57 : decode cX11_standing 57 = .ok (.istore_n 3, 1) := by decide +kernel
theorem dX11_standing_58 : decode cX11_standing 58 = .ok (.iinc 4 1, 3) := by decide +kernel
theorem dX11_standing_61 : decode cX11_standing 61 = .ok (.goto (-43), 3) := by decide +kernel
theorem dX11_standing_64 : decode cX11_standing 64 = .ok (.iload_n 3, 1) := by decide +kernel
theorem dX11_standing_65 : decode cX11_standing 65 = .ok (.ireturn, 1) := by decide +kernel
theorem dX11_isFree_0 : decode cX11_isFree 0 = .ok (.iconst 0, 1) := by decide +kernel
theorem dX11_isFree_1 : decode cX11_isFree 1 = .ok (.istore_n 3, 1) := by decide +kernel
theorem dX11_isFree_2 : decode cX11_isFree 2 = .ok (.iload_n 3, 1) := by decide +kernel
theorem dX11_isFree_3 : decode cX11_isFree 3 = .ok (.iload_n 1, 1) := by decide +kernel
theorem dX11_isFree_4 : decode cX11_isFree 4 = .ok (.if_icmp .ge 24, 3) := by decide +kernel
theorem dX11_isFree_7 : decode cX11_isFree 7 = .ok (.iload_n 3, 1) := by decide +kernel
theorem dX11_isFree_8 : decode cX11_isFree 8 = .ok (.aload_n 0, 1) := by decide +kernel
theorem dX11_isFree_9 : decode cX11_isFree 9 = .ok (.arraylength, 1) := by decide +kernel
theorem dX11_isFree_10 : decode cX11_isFree 10 = .ok (.if_icmp .ge 18, 3) := by decide +kernel
theorem dX11_isFree_13 : decode cX11_isFree 13 = .ok (.aload_n 0, 1) := by decide +kernel
theorem dX11_isFree_14 : decode cX11_isFree 14 = .ok (.iload_n 3, 1) := by decide +kernel
theorem dX11_isFree_15 : decode cX11_isFree 15 = .ok (.iaload, 1) := by decide +kernel
theorem dX11_isFree_16 : decode cX11_isFree 16 = .ok (.iload_n 2, 1) := by decide +kernel
theorem dX11_isFree_17 : decode cX11_isFree 17 = .ok (.if_icmp .ne 5, 3) := by decide +kernel
theorem dX11_isFree_20 : decode cX11_isFree 20 = .ok (.iconst 0, 1) := by decide +kernel
theorem dX11_isFree_21 : decode cX11_isFree 21 = .ok (.ireturn, 1) := by decide +kernel
theorem dX11_isFree_22 : decode cX11_isFree 22 = .ok (.iinc 3 1, 3) := by decide +kernel
theorem dX11_isFree_25 : decode cX11_isFree 25 = .ok (.goto (-23), 3) := by decide +kernel
theorem dX11_isFree_28 : decode cX11_isFree 28 = .ok (.iconst 1, 1) := by decide +kernel
theorem dX11_isFree_29 : decode cX11_isFree 29 = .ok (.ireturn, 1) := by decide +kernel
theorem dX11_creaseFits_0 : decode cX11_creaseFits 0 = .ok (.iload_n 1, 1) := by decide +kernel
theorem dX11_creaseFits_1 : decode cX11_creaseFits 1 = .ok (.iconst 1, 1) := by decide +kernel
theorem dX11_creaseFits_2 : decode cX11_creaseFits 2 = .ok (.if_icmp .lt 9, 3) := by decide +kernel
theorem dX11_creaseFits_5 : decode cX11_creaseFits 5 = .ok (.iload_n 1, 1) := by decide +kernel
theorem dX11_creaseFits_6 : decode cX11_creaseFits 6 = .ok (.aload_n 0, 1) := by decide +kernel
theorem dX11_creaseFits_7 : decode cX11_creaseFits 7 = .ok (.arraylength, 1) := by decide +kernel
theorem dX11_creaseFits_8 : decode cX11_creaseFits 8 = .ok (.if_icmp .lt 5, 3) := by decide +kernel
theorem dX11_creaseFits_11 : decode cX11_creaseFits 11 = .ok (.iconst 1, 1) := by decide +kernel
theorem dX11_creaseFits_12 : decode cX11_creaseFits 12 = .ok (.ireturn, 1) := by decide +kernel
theorem dX11_creaseFits_13 : decode cX11_creaseFits 13 = .ok (.aload_n 0, 1) := by decide +kernel
theorem dX11_creaseFits_14 : decode cX11_creaseFits 14 = .ok (.iload_n 1, 1) := by decide +kernel
theorem dX11_creaseFits_15 : decode cX11_creaseFits 15 = .ok (.iconst 1, 1) := by decide +kernel
theorem dX11_creaseFits_16 : decode cX11_creaseFits 16 = .ok (.isub, 1) := by decide +kernel
theorem dX11_creaseFits_17 : decode cX11_creaseFits 17 = .ok (.iaload, 1) := by decide +kernel
theorem dX11_creaseFits_18 : decode cX11_creaseFits 18 = .ok (.aload_n 0, 1) := by decide +kernel
theorem dX11_creaseFits_19 : decode cX11_creaseFits 19 = .ok (.iload_n 1, 1) := by decide +kernel
theorem dX11_creaseFits_20 : decode cX11_creaseFits 20 = .ok (.iaload, 1) := by decide +kernel
theorem dX11_creaseFits_21 : decode cX11_creaseFits 21 = .ok (.invokestatic 479, 3) := by decide +kernel
theorem dX11_creaseFits_24 : decode cX11_creaseFits 24 = .ok (.istore_n 2, 1) := by decide +kernel
theorem dX11_creaseFits_25 : decode cX11_creaseFits 25 = .ok (.aload_n 0, 1) := by decide +kernel
theorem dX11_creaseFits_26 : decode cX11_creaseFits 26 = .ok (.iload_n 1, 1) := by decide +kernel
theorem dX11_creaseFits_27 : decode cX11_creaseFits 27 = .ok (.iconst 1, 1) := by decide +kernel
theorem dX11_creaseFits_28 : decode cX11_creaseFits 28 = .ok (.isub, 1) := by decide +kernel
theorem dX11_creaseFits_29 : decode cX11_creaseFits 29 = .ok (.iaload, 1) := by decide +kernel
theorem dX11_creaseFits_30 : decode cX11_creaseFits 30 = .ok (.aload_n 0, 1) := by decide +kernel
theorem dX11_creaseFits_31 : decode cX11_creaseFits 31 = .ok (.iload_n 1, 1) := by decide +kernel
theorem dX11_creaseFits_32 : decode cX11_creaseFits 32 = .ok (.iaload, 1) := by decide +kernel
theorem dX11_creaseFits_33 : decode cX11_creaseFits 33 = .ok (.invokestatic 346, 3) := by decide +kernel
theorem dX11_creaseFits_36 : decode cX11_creaseFits 36 = .ok (.istore_n 3, 1) := by decide +kernel
theorem dX11_creaseFits_37 : decode cX11_creaseFits 37 = .ok (.iload_n 1, 1) := by decide +kernel
theorem dX11_creaseFits_38 : decode cX11_creaseFits 38 = .ok (.iconst 2, 1) := by decide +kernel
theorem dX11_creaseFits_39 : decode cX11_creaseFits 39 = .ok (.isub, 1) := by decide +kernel
theorem dX11_creaseFits_40 : decode cX11_creaseFits 40 = .ok (.istore 4, 2) := by decide +kernel
theorem dX11_creaseFits_42 : decode cX11_creaseFits 42 = .ok (.iload 4, 2) := by decide +kernel
theorem dX11_creaseFits_44 : decode cX11_creaseFits 44 = .ok (.iconst 1, 1) := by decide +kernel
theorem dX11_creaseFits_45 : decode cX11_creaseFits 45 = .ok (.if_icmp .lt 34, 3) := by decide +kernel
theorem dX11_creaseFits_48 : decode cX11_creaseFits 48 = .ok (.iload_n 2, 1) := by decide +kernel
theorem dX11_creaseFits_49 : decode cX11_creaseFits 49 = .ok (.aload_n 0, 1) := by decide +kernel
theorem dX11_creaseFits_50 : decode cX11_creaseFits 50 = .ok (.iload 4, 2) := by decide +kernel
theorem dX11_creaseFits_52 : decode cX11_creaseFits 52 = .ok (.iconst 1, 1) := by decide +kernel
theorem dX11_creaseFits_53 : decode cX11_creaseFits 53 = .ok (.isub, 1) := by decide +kernel
theorem dX11_creaseFits_54 : decode cX11_creaseFits 54 = .ok (.iaload, 1) := by decide +kernel
theorem dX11_creaseFits_55 : decode cX11_creaseFits 55 = .ok (.iload_n 3, 1) := by decide +kernel
theorem dX11_creaseFits_56 : decode cX11_creaseFits 56 = .ok (.invokestatic 482, 3) := by decide +kernel
theorem dX11_creaseFits_59 : decode cX11_creaseFits 59 = .ok (.iload_n 2, 1) := by decide +kernel
theorem dX11_creaseFits_60 : decode cX11_creaseFits 60 = .ok (.aload_n 0, 1) := by decide +kernel
theorem dX11_creaseFits_61 : decode cX11_creaseFits 61 = .ok (.iload 4, 2) := by decide +kernel
theorem dX11_creaseFits_63 : decode cX11_creaseFits 63 = .ok (.iaload, 1) := by decide +kernel
theorem dX11_creaseFits_64 : decode cX11_creaseFits 64 = .ok (.iload_n 3, 1) := by decide +kernel
theorem dX11_creaseFits_65 : decode cX11_creaseFits 65 = .ok (.invokestatic 482, 3) := by decide +kernel
theorem dX11_creaseFits_68 : decode cX11_creaseFits 68 = .ok (.if_icmp .eq 5, 3) := by decide +kernel
theorem dX11_creaseFits_71 : decode cX11_creaseFits 71 = .ok (.iconst 0, 1) := by decide +kernel
theorem dX11_creaseFits_72 : decode cX11_creaseFits 72 = .ok (.ireturn, 1) := by decide +kernel
theorem dX11_creaseFits_73 : decode cX11_creaseFits 73 = .ok (.iinc 4 (-2), 3) := by decide +kernel
theorem dX11_creaseFits_76 : decode cX11_creaseFits 76 = .ok (.goto (-34), 3) := by decide +kernel
theorem dX11_creaseFits_79 : decode cX11_creaseFits 79 = .ok (.iconst 1, 1) := by decide +kernel
theorem dX11_creaseFits_80 : decode cX11_creaseFits 80 = .ok (.ireturn, 1) := by decide +kernel
theorem dX11_isBetween_0 : decode cX11_isBetween 0 = .ok (.iload_n 0, 1) := by decide +kernel
theorem dX11_isBetween_1 : decode cX11_isBetween 1 = .ok (.iload_n 1, 1) := by decide +kernel
theorem dX11_isBetween_2 : decode cX11_isBetween 2 = .ok (.if_icmp .ge 12, 3) := by decide +kernel
theorem dX11_isBetween_5 : decode cX11_isBetween 5 = .ok (.iload_n 1, 1) := by decide +kernel
theorem dX11_isBetween_6 : decode cX11_isBetween 6 = .ok (.iload_n 2, 1) := by decide +kernel
theorem dX11_isBetween_7 : decode cX11_isBetween 7 = .ok (.if_icmp .ge 7, 3) := by decide +kernel
theorem dX11_isBetween_10 : decode cX11_isBetween 10 = .ok (.iconst 1, 1) := by decide +kernel
theorem dX11_isBetween_11 : decode cX11_isBetween 11 = .ok (.goto 4, 3) := by decide +kernel
theorem dX11_isBetween_14 : decode cX11_isBetween 14 = .ok (.iconst 0, 1) := by decide +kernel
theorem dX11_isBetween_15 : decode cX11_isBetween 15 = .ok (.ireturn, 1) := by decide +kernel
theorem dX11_refuse_0 : decode cX11_refuse 0 = .ok (.aload_n 0, 1) := by decide +kernel
theorem dX11_refuse_1 : decode cX11_refuse 1 = .ok (.invokevirtual 198, 3) := by decide +kernel
theorem dX11_refuse_4 : decode cX11_refuse 4 = .ok (.aload_n 0, 1) := by decide +kernel
theorem dX11_refuse_5 : decode cX11_refuse 5 = .ok (.invokevirtual 486, 3) := by decide +kernel
theorem dX11_refuse_8 : decode cX11_refuse 8 = .ok (.aload_n 0, 1) := by decide +kernel
theorem dX11_refuse_9 : decode cX11_refuse 9 = .ok (.invokevirtual 489, 3) := by decide +kernel
theorem dX11_refuse_12 : decode cX11_refuse 12 = .ok (.iconst 0, 1) := by decide +kernel
theorem dX11_refuse_13 : decode cX11_refuse 13 = .ok (.istore_n 1, 1) := by decide +kernel
theorem dX11_refuse_14 : decode cX11_refuse 14 = .ok (.iconst 0, 1) := by decide +kernel
theorem dX11_refuse_15 : decode cX11_refuse 15 = .ok (.istore_n 2, 1) := by decide +kernel
theorem dX11_refuse_16 : decode cX11_refuse 16 = .ok (.iload_n 2, 1) := by decide +kernel
theorem dX11_refuse_17 : decode cX11_refuse 17 = .ok (.aload_n 0, 1) := by decide +kernel
theorem dX11_refuse_18 : decode cX11_refuse 18 = .ok (.getfield 33, 3) := by decide +kernel
theorem dX11_refuse_21 : decode cX11_refuse 21 = .ok (.getfield 181, 3) := by decide +kernel
theorem dX11_refuse_24 : decode cX11_refuse 24 = .ok (.getfield 209, 3) := by decide +kernel
theorem dX11_refuse_27 : decode cX11_refuse 27 = .ok (.if_icmp .ge 38, 3) := by decide +kernel
theorem dX11_refuse_30 : decode cX11_refuse 30 = .ok (.iload_n 2, 1) := by decide +kernel
theorem dX11_refuse_31 : decode cX11_refuse 31 = .ok (.aload_n 0, 1) := by decide +kernel
theorem dX11_refuse_32 : decode cX11_refuse 32 = .ok (.getfield 85, 3) := by decide +kernel
theorem dX11_refuse_35 : decode cX11_refuse 35 = .ok (.arraylength, 1) := by decide +kernel
theorem dX11_refuse_36 : decode cX11_refuse 36 = .ok (.if_icmp .ge 29, 3) := by decide +kernel
theorem dX11_refuse_39 : decode cX11_refuse 39 = .ok (.aload_n 0, 1) := by decide +kernel
theorem dX11_refuse_40 : decode cX11_refuse 40 = .ok (.getfield 85, 3) := by decide +kernel
theorem dX11_refuse_43 : decode cX11_refuse 43 = .ok (.iload_n 2, 1) := by decide +kernel
theorem dX11_refuse_44 : decode cX11_refuse 44 = .ok (.iaload, 1) := by decide +kernel
theorem dX11_refuse_45 : decode cX11_refuse 45 = .ok (.aload_n 0, 1) := by decide +kernel
theorem dX11_refuse_46 : decode cX11_refuse 46 = .ok (.iload_n 2, 1) := by decide +kernel
theorem dX11_refuse_47 : decode cX11_refuse 47 = .ok (.invokevirtual 214, 3) := by decide +kernel
theorem dX11_refuse_50 : decode cX11_refuse 50 = .ok (.if_icmp .ge 9, 3) := by decide +kernel
theorem dX11_refuse_53 : decode cX11_refuse 53 = .ok (.iload_n 1, 1) := by decide +kernel
theorem dX11_refuse_54 : decode cX11_refuse 54 = .ok (.iconst 1, 1) := by decide +kernel
theorem dX11_refuse_55 : decode cX11_refuse 55 = .ok (.iload_n 2, 1) := by decide +kernel
theorem dX11_refuse_56 : decode cX11_refuse 56 = .ok (.ishl, 1) := by decide +kernel
theorem dX11_refuse_57 : decode cX11_refuse 57 = .ok (.ior, 1) := by decide +kernel
theorem dX11_refuse_58 : decode cX11_refuse 58 = .ok (.istore_n 1, 1) := by decide +kernel
theorem dX11_refuse_59 : decode cX11_refuse 59 = .ok (.iinc 2 1, 3) := by decide +kernel
theorem dX11_refuse_62 : decode cX11_refuse 62 = .ok (.goto (-46), 3) := by decide +kernel
theorem dX11_refuse_65 : decode cX11_refuse 65 = .ok (.iload_n 1, 1) := by decide +kernel
theorem dX11_refuse_66 : decode cX11_refuse 66 = .ok (.ireturn, 1) := by decide +kernel
theorem dX11_fairest_0 : decode cX11_fairest 0 = .ok (.iload_n 1, 1) := by decide +kernel
theorem dX11_fairest_1 : decode cX11_fairest 1 = .ok (.invokestatic 386, 3) := by decide +kernel
theorem dX11_fairest_4 : decode cX11_fairest 4 = .ok (.ifCond .eq 10, 3) := by decide +kernel
theorem dX11_fairest_7 : decode cX11_fairest 7 = .ok (.iload_n 2, 1) := by decide +kernel
theorem dX11_fairest_8 : decode cX11_fairest 8 = .ok (.invokestatic 389, 3) := by decide +kernel
theorem dX11_fairest_11 : decode cX11_fairest 11 = .ok (.ifCond .ne 14, 3) := by decide +kernel
theorem dX11_fairest_14 : decode cX11_fairest 14 = .ok (.new 99, 3) := by decide +kernel
theorem dX11_fairest_17 : decode cX11_fairest 17 = .ok (.dup, 1) := by decide +kernel
theorem dX11_fairest_18 : decode cX11_fairest 18 = .ok (.ldc_w 392, 3) := by decide +kernel
theorem dX11_fairest_21 : decode cX11_fairest 21 = .ok (.invokespecial 103, 3) := by decide +kernel
theorem dX11_fairest_24 : decode cX11_fairest 24 = .ok (.athrow, 1) := by decide +kernel
theorem dX11_fairest_25 : decode cX11_fairest 25 = .ok (.aload_n 0, 1) := by decide +kernel
theorem dX11_fairest_26 : decode cX11_fairest 26 = .ok (.invokevirtual 354, 3) := by decide +kernel
theorem dX11_fairest_29 : decode cX11_fairest 29 = .ok (.astore_n 3, 1) := by decide +kernel
theorem dX11_fairest_30 : decode cX11_fairest 30 = .ok (.aload_n 0, 1) := by decide +kernel
theorem dX11_fairest_31 : decode cX11_fairest 31 = .ok (.aload_n 3, 1) := by decide +kernel
theorem dX11_fairest_32 : decode cX11_fairest 32 = .ok (.iload_n 1, 1) := by decide +kernel
theorem dX11_fairest_33 : decode cX11_fairest 33 = .ok (.bipush (-2), 2) := by decide +kernel
theorem dX11_fairest_35 : decode cX11_fairest 35 = .ok (.invokevirtual 394, 3) := by decide +kernel
theorem dX11_fairest_38 : decode cX11_fairest 38 = .ok (.istore 4, 2) := by decide +kernel
theorem dX11_fairest_40 : decode cX11_fairest 40 = .ok (.iload_n 2, 1) := by decide +kernel
theorem dX11_fairest_41 : decode cX11_fairest 41 = .ok (.ifCond .ne 15, 3) := by decide +kernel
theorem dX11_fairest_44 : decode cX11_fairest 44 = .ok (.aload_n 0, 1) := by decide +kernel
theorem dX11_fairest_45 : decode cX11_fairest 45 = .ok (.aload_n 3, 1) := by decide +kernel
theorem dX11_fairest_46 : decode cX11_fairest 46 = .ok (.iload 4, 2) := by decide +kernel
theorem dX11_fairest_48 : decode cX11_fairest 48 = .ok (.bipush (-2), 2) := by decide +kernel
theorem dX11_fairest_50 : decode cX11_fairest 50 = .ok (.invokevirtual 397, 3) := by decide +kernel
theorem dX11_fairest_53 : decode cX11_fairest 53 = .ok (.goto 10, 3) := by decide +kernel
theorem dX11_fairest_56 : decode cX11_fairest 56 = .ok (.aload_n 3, 1) := by decide +kernel
theorem dX11_fairest_57 : decode cX11_fairest 57 = .ok (.iload 4, 2) := by decide +kernel
theorem dX11_fairest_59 : decode cX11_fairest 59 = .ok (.iload_n 2, 1) := by decide +kernel
theorem dX11_fairest_60 : decode cX11_fairest 60 = .ok (.invokestatic 400, 3) := by decide +kernel
theorem dX11_fairest_63 : decode cX11_fairest 63 = .ok (.ireturn, 1) := by decide +kernel
theorem dX11_better_0 : decode cX11_better 0 = .ok (.iload_n 1, 1) := by decide +kernel
theorem dX11_better_1 : decode cX11_better 1 = .ok (.invokestatic 351, 3) := by decide +kernel
theorem dX11_better_4 : decode cX11_better 4 = .ok (.aload_n 0, 1) := by decide +kernel
theorem dX11_better_5 : decode cX11_better 5 = .ok (.invokevirtual 354, 3) := by decide +kernel
theorem dX11_better_8 : decode cX11_better 8 = .ok (.astore_n 2, 1) := by decide +kernel
theorem dX11_better_9 : decode cX11_better 9 = .ok (.aload_n 0, 1) := by decide +kernel
theorem dX11_better_10 : decode cX11_better 10 = .ok (.invokevirtual 198, 3) := by decide +kernel
theorem dX11_better_13 : decode cX11_better 13 = .ok (.aload_n 0, 1) := by decide +kernel
theorem dX11_better_14 : decode cX11_better 14 = .ok (.invokevirtual 486, 3) := by decide +kernel
theorem dX11_better_17 : decode cX11_better 17 = .ok (.aload_n 2, 1) := by decide +kernel
theorem dX11_better_18 : decode cX11_better 18 = .ok (.invokevirtual 367, 3) := by decide +kernel
theorem dX11_better_21 : decode cX11_better 21 = .ok (.iconst 0, 1) := by decide +kernel
theorem dX11_better_22 : decode cX11_better 22 = .ok (.istore_n 3, 1) := by decide +kernel
theorem dX11_better_23 : decode cX11_better 23 = .ok (.iconst 0, 1) := by decide +kernel
theorem dX11_better_24 : decode cX11_better 24 = .ok (.istore 4, 2) := by decide +kernel
theorem dX11_better_26 : decode cX11_better 26 = .ok (.iload 4, 2) := by decide +kernel
theorem dX11_better_28 : decode cX11_better 28 = .ok (.aload_n 2, 1) := by decide +kernel
theorem dX11_better_29 : decode cX11_better 29 = .ok (.getfield 358, 3) := by decide +kernel
theorem dX11_better_32 : decode cX11_better 32 = .ok (.if_icmp .ge 45, 3) := by decide +kernel
theorem dX11_better_35 : decode cX11_better 35 = .ok (.aload_n 2, 1) := by decide +kernel
theorem dX11_better_36 : decode cX11_better 36 = .ok (.iload 4, 2) := by decide +kernel
theorem dX11_better_38 : decode cX11_better 38 = .ok (.invokevirtual 361, 3) := by decide +kernel
theorem dX11_better_41 : decode cX11_better 41 = .ok (.iload_n 1, 1) := by decide +kernel
theorem dX11_better_42 : decode cX11_better 42 = .ok (.if_icmp .gt 35, 3) := by decide +kernel
theorem dX11_better_45 : decode cX11_better 45 = .ok (.aload_n 0, 1) := by decide +kernel
theorem dX11_better_46 : decode cX11_better 46 = .ok (.aload_n 2, 1) := by decide +kernel
theorem dX11_better_47 : decode cX11_better 47 = .ok (.iload 4, 2) := by decide +kernel
theorem dX11_better_49 : decode cX11_better 49 = .ok (.invokevirtual 378, 3) := by decide +kernel
theorem dX11_better_52 : decode cX11_better 52 = .ok (.aload_n 0, 1) := by decide +kernel
theorem dX11_better_53 : decode cX11_better 53 = .ok (.invokevirtual 492, 3) := by decide +kernel
theorem dX11_better_56 : decode cX11_better 56 = .ok (.ifCond .eq 15, 3) := by decide +kernel
theorem dX11_better_59 : decode cX11_better 59 = .ok (.aload_n 2, 1) := by decide +kernel
theorem dX11_better_60 : decode cX11_better 60 = .ok (.iload 4, 2) := by decide +kernel
theorem dX11_better_62 : decode cX11_better 62 = .ok (.invokevirtual 370, 3) := by decide +kernel
theorem dX11_better_65 : decode cX11_better 65 = .ok (.ifCond .eq 6, 3) := by decide +kernel
theorem dX11_better_68 : decode cX11_better 68 = .ok (.iinc 3 1, 3) := by decide +kernel
theorem dX11_better_71 : decode cX11_better 71 = .ok (.iinc 4 1, 3) := by decide +kernel
theorem dX11_better_74 : decode cX11_better 74 = .ok (.goto (-48), 3) := by decide +kernel
theorem dX11_better_77 : decode cX11_better 77 = .ok (.iload_n 3, 1) := by decide +kernel
theorem dX11_better_78 : decode cX11_better 78 = .ok (.ireturn, 1) := by decide +kernel
theorem dX11_keenest_0 : decode cX11_keenest 0 = .ok (.iload_n 1, 1) := by decide +kernel
theorem dX11_keenest_1 : decode cX11_keenest 1 = .ok (.invokestatic 351, 3) := by decide +kernel
theorem dX11_keenest_4 : decode cX11_keenest 4 = .ok (.aload_n 0, 1) := by decide +kernel
theorem dX11_keenest_5 : decode cX11_keenest 5 = .ok (.invokevirtual 354, 3) := by decide +kernel
theorem dX11_keenest_8 : decode cX11_keenest 8 = .ok (.astore_n 2, 1) := by decide +kernel
theorem dX11_keenest_9 : decode cX11_keenest 9 = .ok (.iconst (-1), 1) := by decide +kernel
theorem dX11_keenest_10 : decode cX11_keenest 10 = .ok (.istore_n 3, 1) := by decide +kernel
theorem dX11_keenest_11 : decode cX11_keenest 11 = .ok (.iconst 0, 1) := by decide +kernel
theorem dX11_keenest_12 : decode cX11_keenest 12 = .ok (.istore 4, 2) := by decide +kernel
theorem dX11_keenest_14 : decode cX11_keenest 14 = .ok (.iconst 0, 1) := by decide +kernel
theorem dX11_keenest_15 : decode cX11_keenest 15 = .ok (.istore 5, 2) := by decide +kernel
theorem dX11_keenest_17 : decode cX11_keenest 17 = .ok (.iload 5, 2) := by decide +kernel
theorem dX11_keenest_19 : decode cX11_keenest 19 = .ok (.aload_n 0, 1) := by decide +kernel
theorem dX11_keenest_20 : decode cX11_keenest 20 = .ok (.getfield 33, 3) := by decide +kernel
theorem dX11_keenest_23 : decode cX11_keenest 23 = .ok (.getfield 181, 3) := by decide +kernel
theorem dX11_keenest_26 : decode cX11_keenest 26 = .ok (.getfield 209, 3) := by decide +kernel
theorem dX11_keenest_29 : decode cX11_keenest 29 = .ok (.if_icmp .ge 58, 3) := by decide +kernel
theorem dX11_keenest_32 : decode cX11_keenest 32 = .ok (.aload_n 0, 1) := by decide +kernel
theorem dX11_keenest_33 : decode cX11_keenest 33 = .ok (.aload_n 2, 1) := by decide +kernel
theorem dX11_keenest_34 : decode cX11_keenest 34 = .ok (.aload_n 0, 1) := by decide +kernel
theorem dX11_keenest_35 : decode cX11_keenest 35 = .ok (.aload_n 2, 1) := by decide +kernel
theorem dX11_keenest_36 : decode cX11_keenest 36 = .ok (.iload_n 1, 1) := by decide +kernel
theorem dX11_keenest_37 : decode cX11_keenest 37 = .ok (.iload 5, 2) := by decide +kernel
theorem dX11_keenest_39 : decode cX11_keenest 39 = .ok (.invokevirtual 394, 3) := by decide +kernel
theorem dX11_keenest_42 : decode cX11_keenest 42 = .ok (.iload 5, 2) := by decide +kernel
theorem dX11_keenest_44 : decode cX11_keenest 44 = .ok (.invokevirtual 397, 3) := by decide +kernel
theorem dX11_keenest_47 : decode cX11_keenest 47 = .ok (.istore 6, 2) := by decide +kernel
theorem dX11_keenest_49 : decode cX11_keenest 49 = .ok (.iload 6, 2) := by decide +kernel
theorem dX11_keenest_51 : decode cX11_keenest 51 = .ok (.aload_n 0, 1) := by decide +kernel
theorem dX11_keenest_52 : decode cX11_keenest 52 = .ok (.aload_n 2, 1) := by decide +kernel
theorem dX11_keenest_53 : decode cX11_keenest 53 = .ok (.iconst 0, 1) := by decide +kernel
theorem dX11_keenest_54 : decode cX11_keenest 54 = .ok (.iload 5, 2) := by decide +kernel
theorem dX11_keenest_56 : decode cX11_keenest 56 = .ok (.invokevirtual 397, 3) := by decide +kernel
theorem dX11_keenest_59 : decode cX11_keenest 59 = .ok (.isub, 1) := by decide +kernel
theorem dX11_keenest_60 : decode cX11_keenest 60 = .ok (.istore 7, 2) := by decide +kernel
theorem dX11_keenest_62 : decode cX11_keenest 62 = .ok (.iload_n 3, 1) := by decide +kernel
theorem dX11_keenest_63 : decode cX11_keenest 63 = .ok (.iconst (-1), 1) := by decide +kernel
theorem dX11_keenest_64 : decode cX11_keenest 64 = .ok (.if_icmp .eq 10, 3) := by decide +kernel
theorem dX11_keenest_67 : decode cX11_keenest 67 = .ok (.iload 7, 2) := by decide +kernel
theorem dX11_keenest_69 : decode cX11_keenest 69 = .ok (.iload 4, 2) := by decide +kernel
theorem dX11_keenest_71 : decode cX11_keenest 71 = .ok (.if_icmp .le 10, 3) := by decide +kernel
theorem dX11_keenest_74 : decode cX11_keenest 74 = .ok (.iload 5, 2) := by decide +kernel
theorem dX11_keenest_76 : decode cX11_keenest 76 = .ok (.istore_n 3, 1) := by decide +kernel
theorem dX11_keenest_77 : decode cX11_keenest 77 = .ok (.iload 7, 2) := by decide +kernel
theorem dX11_keenest_79 : decode cX11_keenest 79 = .ok (.istore 4, 2) := by decide +kernel
theorem dX11_keenest_81 : decode cX11_keenest 81 = .ok (.iinc 5 1, 3) := by decide +kernel
theorem dX11_keenest_84 : decode cX11_keenest 84 = .ok (.goto (-67), 3) := by decide +kernel
theorem dX11_keenest_87 : decode cX11_keenest 87 = .ok (.iload_n 3, 1) := by decide +kernel
theorem dX11_keenest_88 : decode cX11_keenest 88 = .ok (.ireturn, 1) := by decide +kernel
theorem dX11_keepLikes_0 : decode cX11_keepLikes 0 = .ok (.iconst 0, 1) := by decide +kernel
theorem dX11_keepLikes_1 : decode cX11_keepLikes 1 = .ok (.istore_n 1, 1) := by decide +kernel
theorem dX11_keepLikes_2 : decode cX11_keepLikes 2 = .ok (.iload_n 1, 1) := by decide +kernel
theorem dX11_keepLikes_3 : decode cX11_keepLikes 3 = .ok (.aload_n 0, 1) := by decide +kernel
theorem dX11_keepLikes_4 : decode cX11_keepLikes 4 = .ok (.getfield 33, 3) := by decide +kernel
theorem dX11_keepLikes_7 : decode cX11_keepLikes 7 = .ok (.getfield 181, 3) := by decide +kernel
theorem dX11_keepLikes_10 : decode cX11_keepLikes 10 = .ok (.getfield 209, 3) := by decide +kernel
theorem dX11_keepLikes_13 : decode cX11_keepLikes 13 = .ok (.if_icmp .ge 29, 3) := by decide +kernel
theorem dX11_keepLikes_16 : decode cX11_keepLikes 16 = .ok (.iload_n 1, 1) := by decide +kernel
theorem dX11_keepLikes_17 : decode cX11_keepLikes 17 = .ok (.aload_n 0, 1) := by decide +kernel
theorem dX11_keepLikes_18 : decode cX11_keepLikes 18 = .ok (.getfield 85, 3) := by decide +kernel
theorem dX11_keepLikes_21 : decode cX11_keepLikes 21 = .ok (.arraylength, 1) := by decide +kernel
theorem dX11_keepLikes_22 : decode cX11_keepLikes 22 = .ok (.if_icmp .ge 20, 3) := by decide +kernel
theorem dX11_keepLikes_25 : decode cX11_keepLikes 25 = .ok (.aload_n 0, 1) := by decide +kernel
theorem dX11_keepLikes_26 : decode cX11_keepLikes 26 = .ok (.getfield 85, 3) := by decide +kernel
theorem dX11_keepLikes_29 : decode cX11_keepLikes 29 = .ok (.iload_n 1, 1) := by decide +kernel
theorem dX11_keepLikes_30 : decode cX11_keepLikes 30 = .ok (.aload_n 0, 1) := by decide +kernel
theorem dX11_keepLikes_31 : decode cX11_keepLikes 31 = .ok (.iload_n 1, 1) := by decide +kernel
theorem dX11_keepLikes_32 : decode cX11_keepLikes 32 = .ok (.invokevirtual 214, 3) := by decide +kernel
theorem dX11_keepLikes_35 : decode cX11_keepLikes 35 = .ok (.iastore, 1) := by decide +kernel
theorem dX11_keepLikes_36 : decode cX11_keepLikes 36 = .ok (.iinc 1 1, 3) := by decide +kernel
theorem dX11_keepLikes_39 : decode cX11_keepLikes 39 = .ok (.goto (-37), 3) := by decide +kernel
theorem dX11_keepLikes_42 : decode cX11_keepLikes 42 = .ok (.return_, 1) := by decide +kernel
theorem dX11_pleasesInView_0 : decode cX11_pleasesInView 0 = .ok (.iconst 0, 1) := by decide +kernel
theorem dX11_pleasesInView_1 : decode cX11_pleasesInView 1 = .ok (.istore_n 1, 1) := by decide +kernel
theorem dX11_pleasesInView_2 : decode cX11_pleasesInView 2 = .ok (.iconst 0, 1) := by decide +kernel
theorem dX11_pleasesInView_3 : decode cX11_pleasesInView 3 = .ok (.istore_n 2, 1) := by decide +kernel
theorem dX11_pleasesInView_4 : decode cX11_pleasesInView 4 = .ok (.iload_n 2, 1) := by decide +kernel
theorem dX11_pleasesInView_5 : decode cX11_pleasesInView 5 = .ok (.aload_n 0, 1) := by decide +kernel
theorem dX11_pleasesInView_6 : decode cX11_pleasesInView 6 = .ok (.getfield 33, 3) := by decide +kernel
theorem dX11_pleasesInView_9 : decode cX11_pleasesInView 9 = .ok (.getfield 181, 3) := by decide +kernel
theorem dX11_pleasesInView_12 : decode cX11_pleasesInView 12 = .ok (.getfield 209, 3) := by decide +kernel
theorem dX11_pleasesInView_15 : decode cX11_pleasesInView 15 = .ok (.if_icmp .ge 56, 3) := by decide +kernel
theorem dX11_pleasesInView_18 : decode cX11_pleasesInView 18 = .ok (.iload_n 2, 1) := by decide +kernel
theorem dX11_pleasesInView_19 : decode cX11_pleasesInView 19 = .ok (.aload_n 0, 1) := by decide +kernel
theorem dX11_pleasesInView_20 : decode cX11_pleasesInView 20 = .ok (.getfield 85, 3) := by decide +kernel
theorem dX11_pleasesInView_23 : decode cX11_pleasesInView 23 = .ok (.arraylength, 1) := by decide +kernel
theorem dX11_pleasesInView_24 : decode cX11_pleasesInView 24 = .ok (.if_icmp .ge 47, 3) := by decide +kernel
theorem dX11_pleasesInView_27 : decode cX11_pleasesInView 27 = .ok (.aload_n 0, 1) := by decide +kernel
theorem dX11_pleasesInView_28 : decode cX11_pleasesInView 28 = .ok (.iload_n 2, 1) := by decide +kernel
theorem dX11_pleasesInView_29 : decode cX11_pleasesInView 29 = .ok (.invokevirtual 214, 3) := by decide +kernel
theorem dX11_pleasesInView_32 : decode cX11_pleasesInView 32 = .ok (.istore_n 3, 1) := by decide +kernel
theorem dX11_pleasesInView_33 : decode cX11_pleasesInView 33 = .ok (.iload_n 3, 1) := by decide +kernel
theorem dX11_pleasesInView_34 : decode cX11_pleasesInView 34 = .ok (.aload_n 0, 1) := by decide +kernel
theorem dX11_pleasesInView_35 : decode cX11_pleasesInView 35 = .ok (.getfield 85, 3) := by decide +kernel
theorem dX11_pleasesInView_38 : decode cX11_pleasesInView 38 = .ok (.iload_n 2, 1) := by decide +kernel
theorem dX11_pleasesInView_39 : decode cX11_pleasesInView 39 = .ok (.iaload, 1) := by decide +kernel
theorem dX11_pleasesInView_40 : decode cX11_pleasesInView 40 = .ok (.if_icmp .ge 5, 3) := by decide +kernel
theorem dX11_pleasesInView_43 : decode cX11_pleasesInView 43 = .ok (.iconst 0, 1) := by decide +kernel
theorem dX11_pleasesInView_44 : decode cX11_pleasesInView 44 = .ok (.ireturn, 1) := by decide +kernel
theorem dX11_pleasesInView_45 : decode cX11_pleasesInView 45 = .ok (.iload_n 1, 1) := by decide +kernel
theorem dX11_pleasesInView_46 : decode cX11_pleasesInView 46 = .ok (.ifCond .ne 13, 3) := by decide +kernel
theorem dX11_pleasesInView_49 : decode cX11_pleasesInView 49 = .ok (.iload_n 3, 1) := by decide +kernel
theorem dX11_pleasesInView_50 : decode cX11_pleasesInView 50 = .ok (.aload_n 0, 1) := by decide +kernel
theorem dX11_pleasesInView_51 : decode cX11_pleasesInView 51 = .ok (.getfield 85, 3) := by decide +kernel
theorem dX11_pleasesInView_54 : decode cX11_pleasesInView 54 = .ok (.iload_n 2, 1) := by decide +kernel
theorem dX11_pleasesInView_55 : decode cX11_pleasesInView 55 = .ok (.iaload, 1) := by decide +kernel
theorem dX11_pleasesInView_56 : decode cX11_pleasesInView 56 = .ok (.if_icmp .le 7, 3) := by decide +kernel
theorem dX11_pleasesInView_59 : decode cX11_pleasesInView 59 = .ok (.iconst 1, 1) := by decide +kernel
theorem dX11_pleasesInView_60 : decode cX11_pleasesInView 60 = .ok (.goto 4, 3) := by decide +kernel
theorem dX11_pleasesInView_63 : decode cX11_pleasesInView 63 = .ok (.iconst 0, 1) := by decide +kernel
theorem dX11_pleasesInView_64 : decode cX11_pleasesInView 64 = .ok (.istore_n 1, 1) := by decide +kernel
theorem dX11_pleasesInView_65 : decode cX11_pleasesInView 65 = .ok (.iinc 2 1, 3) := by decide +kernel
theorem dX11_pleasesInView_68 : decode cX11_pleasesInView 68 = .ok (.goto (-64), 3) := by decide +kernel
theorem dX11_pleasesInView_71 : decode cX11_pleasesInView 71 = .ok (.iload_n 1, 1) := by decide +kernel
theorem dX11_pleasesInView_72 : decode cX11_pleasesInView 72 = .ok (.ireturn, 1) := by decide +kernel
theorem dX11_seen_0 : decode cX11_seen 0 = .ok (.aload_n 0, 1) := by decide +kernel
theorem dX11_seen_1 : decode cX11_seen 1 = .ok (.iload_n 1, 1) := by decide +kernel
theorem dX11_seen_2 : decode cX11_seen 2 = .ok (.iload_n 2, 1) := by decide +kernel
theorem dX11_seen_3 : decode cX11_seen 3 = .ok (.invokevirtual 495, 3) := by decide +kernel
theorem dX11_seen_6 : decode cX11_seen 6 = .ok (.astore_n 3, 1) := by decide +kernel
theorem dX11_seen_7 : decode cX11_seen 7 = .ok (.aload_n 0, 1) := by decide +kernel
theorem dX11_seen_8 : decode cX11_seen 8 = .ok (.invokevirtual 437, 3) := by decide +kernel
theorem dX11_seen_11 : decode cX11_seen 11 = .ok (.astore 4, 2) := by decide +kernel
theorem dX11_seen_13 : decode cX11_seen 13 = .ok (.iconst 0, 1) := by decide +kernel
theorem dX11_seen_14 : decode cX11_seen 14 = .ok (.istore 5, 2) := by decide +kernel
theorem dX11_seen_16 : decode cX11_seen 16 = .ok (.iconst 0, 1) := by decide +kernel
theorem dX11_seen_17 : decode cX11_seen 17 = .ok (.istore 6, 2) := by decide +kernel
theorem dX11_seen_19 : decode cX11_seen 19 = .ok (.iload 6, 2) := by decide +kernel
theorem dX11_seen_21 : decode cX11_seen 21 = .ok (.aload 4, 2) := by decide +kernel
theorem dX11_seen_23 : decode cX11_seen 23 = .ok (.getfield 358, 3) := by decide +kernel
theorem dX11_seen_26 : decode cX11_seen 26 = .ok (.if_icmp .ge 47, 3) := by decide +kernel
theorem dX11_seen_29 : decode cX11_seen 29 = .ok (.aload 4, 2) := by decide +kernel
theorem dX11_seen_31 : decode cX11_seen 31 = .ok (.iload 6, 2) := by decide +kernel
theorem dX11_seen_33 : decode cX11_seen 33 = .ok (.invokevirtual 361, 3) := by decide +kernel
theorem dX11_seen_36 : decode cX11_seen 36 = .ok (.iload_n 2, 1) := by decide +kernel
theorem dX11_seen_37 : decode cX11_seen 37 = .ok (.if_icmp .gt 36, 3) := by decide +kernel
theorem dX11_seen_40 : decode cX11_seen 40 = .ok (.aload_n 0, 1) := by decide +kernel
theorem dX11_seen_41 : decode cX11_seen 41 = .ok (.aload 4, 2) := by decide +kernel
theorem dX11_seen_43 : decode cX11_seen 43 = .ok (.iload 6, 2) := by decide +kernel
theorem dX11_seen_45 : decode cX11_seen 45 = .ok (.invokevirtual 408, 3) := by decide +kernel
theorem dX11_seen_48 : decode cX11_seen 48 = .ok (.aload_n 3, 1) := by decide +kernel
theorem dX11_seen_49 : decode cX11_seen 49 = .ok (.invokevirtual 411, 3) := by decide +kernel
theorem dX11_seen_52 : decode cX11_seen 52 = .ok (.ifCond .eq 15, 3) := by decide +kernel
theorem dX11_seen_55 : decode cX11_seen 55 = .ok (.iload 5, 2) := by decide +kernel
theorem dX11_seen_57 : decode cX11_seen 57 = .ok (.aload 4, 2) := by decide +kernel
theorem dX11_seen_59 : decode cX11_seen 59 = .ok (.iload 6, 2) := by decide +kernel
theorem dX11_seen_61 : decode cX11_seen 61 = .ok (.invokevirtual 364, 3) := by decide +kernel
theorem dX11_seen_64 : decode cX11_seen 64 = .ok (.iadd, 1) := by decide +kernel
theorem dX11_seen_65 : decode cX11_seen 65 = .ok (.istore 5, 2) := by decide +kernel
theorem dX11_seen_67 : decode cX11_seen 67 = .ok (.iinc 6 1, 3) := by decide +kernel
theorem dX11_seen_70 : decode cX11_seen 70 = .ok (.goto (-51), 3) := by decide +kernel
theorem dX11_seen_73 : decode cX11_seen 73 = .ok (.iload 5, 2) := by decide +kernel
theorem dX11_seen_75 : decode cX11_seen 75 = .ok (.ireturn, 1) := by decide +kernel
theorem dX11_sure_0 : decode cX11_sure 0 = .ok (.aload_n 0, 1) := by decide +kernel
theorem dX11_sure_1 : decode cX11_sure 1 = .ok (.iload_n 1, 1) := by decide +kernel
theorem dX11_sure_2 : decode cX11_sure 2 = .ok (.iload_n 2, 1) := by decide +kernel
theorem dX11_sure_3 : decode cX11_sure 3 = .ok (.invokevirtual 495, 3) := by decide +kernel
theorem dX11_sure_6 : decode cX11_sure 6 = .ok (.astore_n 3, 1) := by decide +kernel
theorem dX11_sure_7 : decode cX11_sure 7 = .ok (.aload_n 0, 1) := by decide +kernel
theorem dX11_sure_8 : decode cX11_sure 8 = .ok (.invokevirtual 437, 3) := by decide +kernel
theorem dX11_sure_11 : decode cX11_sure 11 = .ok (.astore 4, 2) := by decide +kernel
theorem dX11_sure_13 : decode cX11_sure 13 = .ok (.iconst 0, 1) := by decide +kernel
theorem dX11_sure_14 : decode cX11_sure 14 = .ok (.istore 5, 2) := by decide +kernel
theorem dX11_sure_16 : decode cX11_sure 16 = .ok (.iconst 0, 1) := by decide +kernel
theorem dX11_sure_17 : decode cX11_sure 17 = .ok (.istore 6, 2) := by decide +kernel
theorem dX11_sure_19 : decode cX11_sure 19 = .ok (.iconst 0, 1) := by decide +kernel
theorem dX11_sure_20 : decode cX11_sure 20 = .ok (.istore 7, 2) := by decide +kernel
theorem dX11_sure_22 : decode cX11_sure 22 = .ok (.iload 7, 2) := by decide +kernel
theorem dX11_sure_24 : decode cX11_sure 24 = .ok (.aload 4, 2) := by decide +kernel
theorem dX11_sure_26 : decode cX11_sure 26 = .ok (.getfield 358, 3) := by decide +kernel
theorem dX11_sure_29 : decode cX11_sure 29 = .ok (.if_icmp .ge 65, 3) := by decide +kernel
theorem dX11_sure_32 : decode cX11_sure 32 = .ok (.aload 4, 2) := by decide +kernel
theorem dX11_sure_34 : decode cX11_sure 34 = .ok (.iload 7, 2) := by decide +kernel
theorem dX11_sure_36 : decode cX11_sure 36 = .ok (.invokevirtual 361, 3) := by decide +kernel
theorem dX11_sure_39 : decode cX11_sure 39 = .ok (.iload_n 2, 1) := by decide +kernel
theorem dX11_sure_40 : decode cX11_sure 40 = .ok (.if_icmp .gt 54, 3) := by decide +kernel
theorem dX11_sure_43 : decode cX11_sure 43 = .ok (.aload 4, 2) := by decide +kernel
theorem dX11_sure_45 : decode cX11_sure 45 = .ok (.iload 7, 2) := by decide +kernel
theorem dX11_sure_47 : decode cX11_sure 47 = .ok (.invokevirtual 408, 3) := by decide +kernel
theorem dX11_sure_50 : decode cX11_sure 50 = .ok (.astore 8, 2) := by decide +kernel
theorem dX11_sure_52 : decode cX11_sure 52 = .ok (.aload_n 0, 1) := by decide +kernel
theorem dX11_sure_53 : decode cX11_sure 53 = .ok (.aload 8, 2) := by decide +kernel
theorem dX11_sure_55 : decode cX11_sure 55 = .ok (.aload_n 3, 1) := by decide +kernel
theorem dX11_sure_56 : decode cX11_sure 56 = .ok (.invokevirtual 411, 3) := by decide +kernel
theorem dX11_sure_59 : decode cX11_sure 59 = .ok (.ifCond .eq 29, 3) := by decide +kernel
theorem dX11_sure_62 : decode cX11_sure 62 = .ok (.iload 6, 2) := by decide +kernel
theorem dX11_sure_64 : decode cX11_sure 64 = .ok (.ifCond .eq 14, 3) := by decide +kernel
theorem dX11_sure_67 : decode cX11_sure 67 = .ok (.iload 5, 2) := by decide +kernel
theorem dX11_sure_69 : decode cX11_sure 69 = .ok (.aload 8, 2) := by decide +kernel
theorem dX11_sure_71 : decode cX11_sure 71 = .ok (.invokevirtual 499, 3) := by decide +kernel
theorem dX11_sure_74 : decode cX11_sure 74 = .ok (.iand, 1) := by decide +kernel
theorem dX11_sure_75 : decode cX11_sure 75 = .ok (.goto 8, 3) := by decide +kernel
theorem dX11_sure_78 : decode cX11_sure 78 = .ok (.aload 8, 2) := by decide +kernel
theorem dX11_sure_80 : decode cX11_sure 80 = .ok (.invokevirtual 499, 3) := by decide +kernel
theorem dX11_sure_83 : decode cX11_sure 83 = .ok (.istore 5, 2) := by decide +kernel
theorem dX11_sure_85 : decode cX11_sure 85 = .ok (.iconst 1, 1) := by decide +kernel
theorem dX11_sure_86 : decode cX11_sure 86 = .ok (.istore 6, 2) := by decide +kernel
theorem dX11_sure_88 : decode cX11_sure 88 = .ok (.iinc 7 1, 3) := by decide +kernel
theorem dX11_sure_91 : decode cX11_sure 91 = .ok (.goto (-69), 3) := by decide +kernel
theorem dX11_sure_94 : decode cX11_sure 94 = .ok (.iload 5, 2) := by decide +kernel
theorem dX11_sure_96 : decode cX11_sure 96 = .ok (.ireturn, 1) := by decide +kernel
theorem dX11_look_0 : decode cX11_look 0 = .ok (.aload_n 0, 1) := by decide +kernel
theorem dX11_look_1 : decode cX11_look 1 = .ok (.iload_n 1, 1) := by decide +kernel
theorem dX11_look_2 : decode cX11_look 2 = .ok (.iload_n 2, 1) := by decide +kernel
theorem dX11_look_3 : decode cX11_look 3 = .ok (.invokevirtual 495, 3) := by decide +kernel
theorem dX11_look_6 : decode cX11_look 6 = .ok (.astore_n 3, 1) := by decide +kernel
theorem dX11_look_7 : decode cX11_look 7 = .ok (.aload_n 0, 1) := by decide +kernel
theorem dX11_look_8 : decode cX11_look 8 = .ok (.invokevirtual 437, 3) := by decide +kernel
theorem dX11_look_11 : decode cX11_look 11 = .ok (.astore 4, 2) := by decide +kernel
theorem dX11_look_13 : decode cX11_look 13 = .ok (.iconst (-1), 1) := by decide +kernel
theorem dX11_look_14 : decode cX11_look 14 = .ok (.istore 5, 2) := by decide +kernel
theorem dX11_look_16 : decode cX11_look 16 = .ok (.iconst 0, 1) := by decide +kernel
theorem dX11_look_17 : decode cX11_look 17 = .ok (.istore 6, 2) := by decide +kernel
theorem dX11_look_19 : decode cX11_look 19 = .ok (.iconst 0, 1) := by decide +kernel
theorem dX11_look_20 : decode cX11_look 20 = .ok (.istore 7, 2) := by decide +kernel
theorem dX11_look_22 : decode cX11_look 22 = .ok (.iload 7, 2) := by decide +kernel
theorem dX11_look_24 : decode cX11_look 24 = .ok (.aload_n 3, 1) := by decide +kernel
theorem dX11_look_25 : decode cX11_look 25 = .ok (.getfield 289, 3) := by decide +kernel
theorem dX11_look_28 : decode cX11_look 28 = .ok (.if_icmp .ge 47, 3) := by decide +kernel
theorem dX11_look_31 : decode cX11_look 31 = .ok (.aload_n 0, 1) := by decide +kernel
theorem dX11_look_32 : decode cX11_look 32 = .ok (.aload 4, 2) := by decide +kernel
theorem dX11_look_34 : decode cX11_look 34 = .ok (.aload_n 3, 1) := by decide +kernel
theorem dX11_look_35 : decode cX11_look 35 = .ok (.iload_n 2, 1) := by decide +kernel
theorem dX11_look_36 : decode cX11_look 36 = .ok (.iload 7, 2) := by decide +kernel
theorem dX11_look_38 : decode cX11_look 38 = .ok (.invokevirtual 502, 3) := by decide +kernel
theorem dX11_look_41 : decode cX11_look 41 = .ok (.istore 8, 2) := by decide +kernel
theorem dX11_look_43 : decode cX11_look 43 = .ok (.iload 8, 2) := by decide +kernel
theorem dX11_look_45 : decode cX11_look 45 = .ok (.ifCond .le 24, 3) := by decide +kernel
theorem dX11_look_48 : decode cX11_look 48 = .ok (.iload 5, 2) := by decide +kernel
theorem dX11_look_50 : decode cX11_look 50 = .ok (.iconst (-1), 1) := by decide +kernel
theorem dX11_look_51 : decode cX11_look 51 = .ok (.if_icmp .eq 10, 3) := by decide +kernel
theorem dX11_look_54 : decode cX11_look 54 = .ok (.iload 8, 2) := by decide +kernel
theorem dX11_look_56 : decode cX11_look 56 = .ok (.iload 6, 2) := by decide +kernel
theorem dX11_look_58 : decode cX11_look 58 = .ok (.if_icmp .ge 11, 3) := by decide +kernel
theorem dX11_look_61 : decode cX11_look 61 = .ok (.iload 7, 2) := by decide +kernel
theorem dX11_look_63 : decode cX11_look 63 = .ok (.istore 5, 2) := by decide +kernel
theorem dX11_look_65 : decode cX11_look 65 = .ok (.iload 8, 2) := by decide +kernel
theorem dX11_look_67 : decode cX11_look 67 = .ok (.istore 6, 2) := by decide +kernel
theorem dX11_look_69 : decode cX11_look 69 = .ok (.iinc 7 1, 3) := by decide +kernel
theorem dX11_look_72 : decode cX11_look 72 = .ok (.goto (-50), 3) := by decide +kernel
theorem dX11_look_75 : decode cX11_look 75 = .ok (.iload 5, 2) := by decide +kernel
theorem dX11_look_77 : decode cX11_look 77 = .ok (.ireturn, 1) := by decide +kernel
theorem dX11_sightIn_0 : decode cX11_sightIn 0 = .ok (.aload_n 0, 1) := by decide +kernel
theorem dX11_sightIn_1 : decode cX11_sightIn 1 = .ok (.iload_n 1, 1) := by decide +kernel
theorem dX11_sightIn_2 : decode cX11_sightIn 2 = .ok (.invokevirtual 280, 3) := by decide +kernel
theorem dX11_sightIn_5 : decode cX11_sightIn 5 = .ok (.astore_n 3, 1) := by decide +kernel
theorem dX11_sightIn_6 : decode cX11_sightIn 6 = .ok (.aload_n 3, 1) := by decide +kernel
theorem dX11_sightIn_7 : decode cX11_sightIn 7 = .ok (.invokevirtual 403, 3) := by decide +kernel
theorem dX11_sightIn_10 : decode cX11_sightIn 10 = .ok (.ifCond .eq 12, 3) := by decide +kernel
theorem dX11_sightIn_13 : decode cX11_sightIn 13 = .ok (.iload_n 2, 1) := by decide +kernel
theorem dX11_sightIn_14 : decode cX11_sightIn 14 = .ok (.ifCond .lt 8, 3) := by decide +kernel
theorem dX11_sightIn_17 : decode cX11_sightIn 17 = .ok (.iload_n 2, 1) := by decide +kernel
theorem dX11_sightIn_18 : decode cX11_sightIn 18 = .ok (.iconst 4, 1) := by decide +kernel
theorem dX11_sightIn_19 : decode cX11_sightIn 19 = .ok (.if_icmp .le 14, 3) := by decide +kernel
theorem dX11_sightIn_22 : decode cX11_sightIn 22 = .ok (.new 99, 3) := by decide +kernel
theorem dX11_sightIn_25 : decode cX11_sightIn 25 = .ok (.dup, 1) := by decide +kernel
theorem dX11_sightIn_26 : decode cX11_sightIn 26 = .ok (.ldc_w 506, 3) := by decide +kernel
theorem dX11_sightIn_29 : decode cX11_sightIn 29 = .ok (.invokespecial 103, 3) := by decide +kernel
theorem dX11_sightIn_32 : decode cX11_sightIn 32 = .ok (.athrow, 1) := by decide +kernel
theorem dX11_sightIn_33 : decode cX11_sightIn 33 = .ok (.aload_n 3, 1) := by decide +kernel
theorem dX11_sightIn_34 : decode cX11_sightIn 34 = .ok (.areturn, 1) := by decide +kernel
theorem dX11_greatestGroup_0 : decode cX11_greatestGroup 0 = .ok (.aload_n 0, 1) := by decide +kernel
theorem dX11_greatestGroup_1 : decode cX11_greatestGroup 1 = .ok (.getfield 88, 3) := by decide +kernel
theorem dX11_greatestGroup_4 : decode cX11_greatestGroup 4 = .ok (.iconst 0, 1) := by decide +kernel
theorem dX11_greatestGroup_5 : decode cX11_greatestGroup 5 = .ok (.invokestatic 443, 3) := by decide +kernel
theorem dX11_greatestGroup_8 : decode cX11_greatestGroup 8 = .ok (.iconst 0, 1) := by decide +kernel
theorem dX11_greatestGroup_9 : decode cX11_greatestGroup 9 = .ok (.istore 5, 2) := by decide +kernel
theorem dX11_greatestGroup_11 : decode cX11_greatestGroup 11 = .ok (.iconst 0, 1) := by decide +kernel
theorem dX11_greatestGroup_12 : decode cX11_greatestGroup 12 = .ok (.istore 6, 2) := by decide +kernel
theorem dX11_greatestGroup_14 : decode cX11_greatestGroup 14 = .ok (.iload 6, 2) := by decide +kernel
theorem dX11_greatestGroup_16 : decode cX11_greatestGroup 16 = .ok (.aload_n 1, 1) := by decide +kernel
theorem dX11_greatestGroup_17 : decode cX11_greatestGroup 17 = .ok (.getfield 358, 3) := by decide +kernel
theorem dX11_greatestGroup_20 : decode cX11_greatestGroup 20 = .ok (.if_icmp .ge 101, 3) := by decide +kernel
theorem dX11_greatestGroup_23 : decode cX11_greatestGroup 23 = .ok (.aload_n 1, 1) := by decide +kernel
theorem dX11_greatestGroup_24 : decode cX11_greatestGroup 24 = .ok (.iload 6, 2) := by decide +kernel
theorem dX11_greatestGroup_26 : decode cX11_greatestGroup 26 = .ok (.invokevirtual 361, 3) := by decide +kernel
theorem dX11_greatestGroup_29 : decode cX11_greatestGroup 29 = .ok (.iload_n 3, 1) := by decide +kernel
theorem dX11_greatestGroup_30 : decode cX11_greatestGroup 30 = .ok (.if_icmp .gt 91, 3) := by decide +kernel
theorem dX11_greatestGroup_33 : decode cX11_greatestGroup 33 = .ok (.aload_n 1, 1) := by decide +kernel
theorem dX11_greatestGroup_34 : decode cX11_greatestGroup 34 = .ok (.iload 6, 2) := by decide +kernel
theorem dX11_greatestGroup_36 : decode cX11_greatestGroup 36 = .ok (.invokevirtual 408, 3) := by decide +kernel
theorem dX11_greatestGroup_39 : decode cX11_greatestGroup 39 = .ok (.astore 7, 2) := by decide +kernel
theorem dX11_greatestGroup_41 : decode cX11_greatestGroup 41 = .ok (.aload_n 0, 1) := by decide +kernel
theorem dX11_greatestGroup_42 : decode cX11_greatestGroup 42 = .ok (.aload 7, 2) := by decide +kernel
theorem dX11_greatestGroup_44 : decode cX11_greatestGroup 44 = .ok (.aload_n 2, 1) := by decide +kernel
theorem dX11_greatestGroup_45 : decode cX11_greatestGroup 45 = .ok (.invokevirtual 411, 3) := by decide +kernel
theorem dX11_greatestGroup_48 : decode cX11_greatestGroup 48 = .ok (.ifCond .eq 67, 3) := by decide +kernel
theorem dX11_greatestGroup_51 : decode cX11_greatestGroup 51 = .ok (.aload 7, 2) := by decide +kernel
theorem dX11_greatestGroup_53 : decode cX11_greatestGroup 53 = .ok (.iload 4, 2) := by decide +kernel
theorem dX11_greatestGroup_55 : decode cX11_greatestGroup 55 = .ok (.aload_n 0, 1) := by decide +kernel
theorem dX11_greatestGroup_56 : decode cX11_greatestGroup 56 = .ok (.getfield 33, 3) := by decide +kernel
theorem dX11_greatestGroup_59 : decode cX11_greatestGroup 59 = .ok (.getfield 138, 3) := by decide +kernel
theorem dX11_greatestGroup_62 : decode cX11_greatestGroup 62 = .ok (.getfield 171, 3) := by decide +kernel
theorem dX11_greatestGroup_65 : decode cX11_greatestGroup 65 = .ok (.invokevirtual 178, 3) := by decide +kernel
theorem dX11_greatestGroup_68 : decode cX11_greatestGroup 68 = .ok (.istore 8, 2) := by decide +kernel
theorem dX11_greatestGroup_70 : decode cX11_greatestGroup 70 = .ok (.iload 8, 2) := by decide +kernel
theorem dX11_greatestGroup_72 : decode cX11_greatestGroup 72 = .ok (.ifCond .lt 43, 3) := by decide +kernel
theorem dX11_greatestGroup_75 : decode cX11_greatestGroup 75 = .ok (.iload 8, 2) := by decide +kernel
theorem dX11_greatestGroup_77 : decode cX11_greatestGroup 77 = .ok (.aload_n 0, 1) := by decide +kernel
theorem dX11_greatestGroup_78 : decode cX11_greatestGroup 78 = .ok (.getfield 88, 3) := by decide +kernel
theorem dX11_greatestGroup_81 : decode cX11_greatestGroup 81 = .ok (.arraylength, 1) := by decide +kernel
theorem dX11_greatestGroup_82 : decode cX11_greatestGroup 82 = .ok (.if_icmp .ge 33, 3) := by decide +kernel
theorem dX11_greatestGroup_85 : decode cX11_greatestGroup 85 = .ok (.aload_n 0, 1) := by decide +kernel
theorem dX11_greatestGroup_86 : decode cX11_greatestGroup 86 = .ok (.getfield 88, 3) := by decide +kernel
theorem dX11_greatestGroup_89 : decode cX11_greatestGroup 89 = .ok (.iload 8, 2) := by decide +kernel
theorem dX11_greatestGroup_91 : decode cX11_greatestGroup 91 = .ok (.dup2, 1) := by decide +kernel
theorem dX11_greatestGroup_92 : decode cX11_greatestGroup 92 = .ok (.iaload, 1) := by decide +kernel
theorem dX11_greatestGroup_93 : decode cX11_greatestGroup 93 = .ok (.aload_n 1, 1) := by decide +kernel
theorem dX11_greatestGroup_94 : decode cX11_greatestGroup 94 = .ok (.iload 6, 2) := by decide +kernel
theorem dX11_greatestGroup_96 : decode cX11_greatestGroup 96 = .ok (.invokevirtual 364, 3) := by decide +kernel
theorem dX11_greatestGroup_99 : decode cX11_greatestGroup 99 = .ok (.iadd, 1) := by decide +kernel
theorem dX11_greatestGroup_100 : decode cX11_greatestGroup 100 = .ok (.iastore, 1) := by decide +kernel
theorem dX11_greatestGroup_101 : decode cX11_greatestGroup 101 = .ok (.iload 5, 2) := by decide +kernel
theorem dX11_greatestGroup_103 : decode cX11_greatestGroup 103 = .ok (.aload_n 0, 1) := by decide +kernel
theorem dX11_greatestGroup_104 : decode cX11_greatestGroup 104 = .ok (.getfield 88, 3) := by decide +kernel
theorem dX11_greatestGroup_107 : decode cX11_greatestGroup 107 = .ok (.iload 8, 2) := by decide +kernel
theorem dX11_greatestGroup_109 : decode cX11_greatestGroup 109 = .ok (.iaload, 1) := by decide +kernel
theorem dX11_greatestGroup_110 : decode cX11_greatestGroup 110 = .ok (.invokestatic 346, 3) := by decide +kernel
theorem dX11_greatestGroup_113 : decode cX11_greatestGroup 113 = .ok (.istore 5, 2) := by decide +kernel
theorem dX11_greatestGroup_115 : decode cX11_greatestGroup 115 = .ok (.iinc 6 1, 3) := by decide +kernel
theorem dX11_greatestGroup_118 : decode cX11_greatestGroup 118 = .ok (.goto (-104), 3) := by decide +kernel
theorem dX11_greatestGroup_121 : decode cX11_greatestGroup 121 = .ok (.iload 5, 2) := by decide +kernel
theorem dX11_greatestGroup_123 : decode cX11_greatestGroup 123 = .ok (.ireturn, 1) := by decide +kernel
theorem dX11_tray_0 : decode cX11_tray 0 = .ok (.aload_n 0, 1) := by decide +kernel
theorem dX11_tray_1 : decode cX11_tray 1 = .ok (.iload_n 1, 1) := by decide +kernel
theorem dX11_tray_2 : decode cX11_tray 2 = .ok (.invokevirtual 508, 3) := by decide +kernel
theorem dX11_tray_5 : decode cX11_tray 5 = .ok (.astore 4, 2) := by decide +kernel
theorem dX11_tray_7 : decode cX11_tray 7 = .ok (.iload_n 2, 1) := by decide +kernel
theorem dX11_tray_8 : decode cX11_tray 8 = .ok (.ifCond .lt 18, 3) := by decide +kernel
theorem dX11_tray_11 : decode cX11_tray 11 = .ok (.iload_n 2, 1) := by decide +kernel
theorem dX11_tray_12 : decode cX11_tray 12 = .ok (.iconst 3, 1) := by decide +kernel
theorem dX11_tray_13 : decode cX11_tray 13 = .ok (.if_icmp .gt 13, 3) := by decide +kernel
theorem dX11_tray_16 : decode cX11_tray 16 = .ok (.iload_n 3, 1) := by decide +kernel
theorem dX11_tray_17 : decode cX11_tray 17 = .ok (.ifCond .lt 9, 3) := by decide +kernel
theorem dX11_tray_20 : decode cX11_tray 20 = .ok (.iload_n 3, 1) := by decide +kernel
theorem dX11_tray_21 : decode cX11_tray 21 = .ok (.bipush 30, 2) := by decide +kernel
theorem dX11_tray_23 : decode cX11_tray 23 = .ok (.if_icmp .le 14, 3) := by decide +kernel
theorem dX11_tray_26 : decode cX11_tray 26 = .ok (.new 99, 3) := by decide +kernel
theorem dX11_tray_29 : decode cX11_tray 29 = .ok (.dup, 1) := by decide +kernel
theorem dX11_tray_30 : decode cX11_tray 30 = .ok (.ldc_w 511, 3) := by decide +kernel
theorem dX11_tray_33 : decode cX11_tray 33 = .ok (.invokespecial 103, 3) := by decide +kernel
theorem dX11_tray_36 : decode cX11_tray 36 = .ok (.athrow, 1) := by decide +kernel
theorem dX11_tray_37 : decode cX11_tray 37 = .ok (.aload 4, 2) := by decide +kernel
theorem dX11_tray_39 : decode cX11_tray 39 = .ok (.iload_n 2, 1) := by decide +kernel
theorem dX11_tray_40 : decode cX11_tray 40 = .ok (.iload_n 3, 1) := by decide +kernel
theorem dX11_tray_41 : decode cX11_tray 41 = .ok (.invokevirtual 513, 3) := by decide +kernel
theorem dX11_tray_44 : decode cX11_tray 44 = .ok (.return_, 1) := by decide +kernel
theorem dX11_write_0 : decode cX11_write 0 = .ok (.aload_n 0, 1) := by decide +kernel
theorem dX11_write_1 : decode cX11_write 1 = .ok (.iload_n 1, 1) := by decide +kernel
theorem dX11_write_2 : decode cX11_write 2 = .ok (.invokevirtual 280, 3) := by decide +kernel
theorem dX11_write_5 : decode cX11_write 5 = .ok (.astore 5, 2) := by decide +kernel
theorem dX11_write_7 : decode cX11_write 7 = .ok (.iload_n 2, 1) := by decide +kernel
theorem dX11_write_8 : decode cX11_write 8 = .ok (.ifCond .lt 12, 3) := by decide +kernel
theorem dX11_write_11 : decode cX11_write 11 = .ok (.iload_n 2, 1) := by decide +kernel
theorem dX11_write_12 : decode cX11_write 12 = .ok (.aload 5, 2) := by decide +kernel
theorem dX11_write_14 : decode cX11_write 14 = .ok (.getfield 289, 3) := by decide +kernel
theorem dX11_write_17 : decode cX11_write 17 = .ok (.if_icmp .lt 14, 3) := by decide +kernel
theorem dX11_write_20 : decode cX11_write 20 = .ok (.new 516, 3) := by decide +kernel
theorem dX11_write_23 : decode cX11_write 23 = .ok (.dup, 1) := by decide +kernel
theorem dX11_write_24 : decode cX11_write 24 = .ok (.ldc_w 518, 3) := by decide +kernel
theorem dX11_write_27 : decode cX11_write 27 = .ok (.invokespecial 520, 3) := by decide +kernel
theorem dX11_write_30 : decode cX11_write 30 = .ok (.athrow, 1) := by decide +kernel
theorem dX11_write_31 : decode cX11_write 31 = .ok (.aload 5, 2) := by decide +kernel
theorem dX11_write_33 : decode cX11_write 33 = .ok (.iload_n 2, 1) := by decide +kernel
theorem dX11_write_34 : decode cX11_write 34 = .ok (.lload_n 3, 1) := by decide +kernel
theorem dX11_write_35 : decode cX11_write 35 = .ok (.invokevirtual 521, 3) := by decide +kernel
theorem dX11_write_38 : decode cX11_write 38 = .ok (.lreturn, 1) := by decide +kernel
theorem dX11_copy_0 : decode cX11_copy 0 = .ok (.aload_n 0, 1) := by decide +kernel
theorem dX11_copy_1 : decode cX11_copy 1 = .ok (.iload_n 1, 1) := by decide +kernel
theorem dX11_copy_2 : decode cX11_copy 2 = .ok (.invokevirtual 280, 3) := by decide +kernel
theorem dX11_copy_5 : decode cX11_copy 5 = .ok (.astore_n 2, 1) := by decide +kernel
theorem dX11_copy_6 : decode cX11_copy 6 = .ok (.aload_n 0, 1) := by decide +kernel
theorem dX11_copy_7 : decode cX11_copy 7 = .ok (.invokevirtual 134, 3) := by decide +kernel
theorem dX11_copy_10 : decode cX11_copy 10 = .ok (.astore_n 3, 1) := by decide +kernel
theorem dX11_copy_11 : decode cX11_copy 11 = .ok (.aload_n 2, 1) := by decide +kernel
theorem dX11_copy_12 : decode cX11_copy 12 = .ok (.getfield 289, 3) := by decide +kernel
theorem dX11_copy_15 : decode cX11_copy 15 = .ok (.aload_n 3, 1) := by decide +kernel
theorem dX11_copy_16 : decode cX11_copy 16 = .ok (.getfield 217, 3) := by decide +kernel
theorem dX11_copy_19 : decode cX11_copy 19 = .ok (.invokestatic 479, 3) := by decide +kernel
theorem dX11_copy_22 : decode cX11_copy 22 = .ok (.istore 4, 2) := by decide +kernel
theorem dX11_copy_24 : decode cX11_copy 24 = .ok (.iconst 0, 1) := by decide +kernel
theorem dX11_copy_25 : decode cX11_copy 25 = .ok (.istore 5, 2) := by decide +kernel
theorem dX11_copy_27 : decode cX11_copy 27 = .ok (.iload 5, 2) := by decide +kernel
theorem dX11_copy_29 : decode cX11_copy 29 = .ok (.iload 4, 2) := by decide +kernel
theorem dX11_copy_31 : decode cX11_copy 31 = .ok (.if_icmp .ge 33, 3) := by decide +kernel
theorem dX11_copy_34 : decode cX11_copy 34 = .ok (.aload_n 2, 1) := by decide +kernel
theorem dX11_copy_35 : decode cX11_copy 35 = .ok (.iload 5, 2) := by decide +kernel
theorem dX11_copy_37 : decode cX11_copy 37 = .ok (.aload_n 3, 1) := by decide +kernel
theorem dX11_copy_38 : decode cX11_copy 38 = .ok (.iload 5, 2) := by decide +kernel
theorem dX11_copy_40 : decode cX11_copy 40 = .ok (.aload_n 0, 1) := by decide +kernel
theorem dX11_copy_41 : decode cX11_copy 41 = .ok (.getfield 33, 3) := by decide +kernel
theorem dX11_copy_44 : decode cX11_copy 44 = .ok (.getfield 138, 3) := by decide +kernel
theorem dX11_copy_47 : decode cX11_copy 47 = .ok (.getfield 171, 3) := by decide +kernel
theorem dX11_copy_50 : decode cX11_copy 50 = .ok (.invokevirtual 174, 3) := by decide +kernel
theorem dX11_copy_53 : decode cX11_copy 53 = .ok (.i2l, 1) := by decide +kernel
theorem dX11_copy_54 : decode cX11_copy 54 = .ok (.invokevirtual 521, 3) := by decide +kernel
theorem dX11_copy_57 : decode cX11_copy 57 = .ok (.pop2, 1) := by decide +kernel
theorem dX11_copy_58 : decode cX11_copy 58 = .ok (.iinc 5 1, 3) := by decide +kernel
theorem dX11_copy_61 : decode cX11_copy 61 = .ok (.goto (-34), 3) := by decide +kernel
theorem dX11_copy_64 : decode cX11_copy 64 = .ok (.iload 4, 2) := by decide +kernel
theorem dX11_copy_66 : decode cX11_copy 66 = .ok (.ireturn, 1) := by decide +kernel
theorem dX11_image_0 : decode cX11_image 0 = .ok (.aload_n 0, 1) := by decide +kernel
theorem dX11_image_1 : decode cX11_image 1 = .ok (.iload_n 1, 1) := by decide +kernel
theorem dX11_image_2 : decode cX11_image 2 = .ok (.invokevirtual 525, 3) := by decide +kernel
theorem dX11_image_5 : decode cX11_image 5 = .ok (.astore_n 2, 1) := by decide +kernel
theorem dX11_image_6 : decode cX11_image 6 = .ok (.aload_n 2, 1) := by decide +kernel
theorem dX11_image_7 : decode cX11_image 7 = .ok (.aload_n 0, 1) := by decide +kernel
theorem dX11_image_8 : decode cX11_image 8 = .ok (.getfield 33, 3) := by decide +kernel
theorem dX11_image_11 : decode cX11_image 11 = .ok (.invokevirtual 529, 3) := by decide +kernel
theorem dX11_image_14 : decode cX11_image 14 = .ok (.aload_n 2, 1) := by decide +kernel
theorem dX11_image_15 : decode cX11_image 15 = .ok (.iconst 1, 1) := by decide +kernel
theorem dX11_image_16 : decode cX11_image 16 = .ok (.putfield 532, 3) := by decide +kernel
theorem dX11_image_19 : decode cX11_image 19 = .ok (.return_, 1) := by decide +kernel
theorem dX11_restore_0 : decode cX11_restore 0 = .ok (.aload_n 0, 1) := by decide +kernel
theorem dX11_restore_1 : decode cX11_restore 1 = .ok (.iload_n 1, 1) := by decide +kernel
theorem dX11_restore_2 : decode cX11_restore 2 = .ok (.invokevirtual 525, 3) := by decide +kernel
theorem dX11_restore_5 : decode cX11_restore 5 = .ok (.astore_n 2, 1) := by decide +kernel
theorem dX11_restore_6 : decode cX11_restore 6 = .ok (.aload_n 2, 1) := by decide +kernel
theorem dX11_restore_7 : decode cX11_restore 7 = .ok (.getfield 532, 3) := by decide +kernel
theorem dX11_restore_10 : decode cX11_restore 10 = .ok (.ifCond .ne 14, 3) := by decide +kernel
theorem dX11_restore_13 : decode cX11_restore 13 = .ok (.new 322, 3) := by decide +kernel
theorem dX11_restore_16 : decode cX11_restore 16 = .ok (.dup, 1) := by decide +kernel
theorem dX11_restore_17 : decode cX11_restore 17 = .ok (.ldc_w 536, 3) := by decide +kernel
theorem dX11_restore_20 : decode cX11_restore 20 = .ok (.invokespecial 326, 3) := by decide +kernel
theorem dX11_restore_23 : decode cX11_restore 23 = .ok (.athrow, 1) := by decide +kernel
theorem dX11_restore_24 : decode cX11_restore 24 = .ok (.aload_n 0, 1) := by decide +kernel
theorem dX11_restore_25 : decode cX11_restore 25 = .ok (.getfield 33, 3) := by decide +kernel
theorem dX11_restore_28 : decode cX11_restore 28 = .ok (.aload_n 2, 1) := by decide +kernel
theorem dX11_restore_29 : decode cX11_restore 29 = .ok (.invokevirtual 529, 3) := by decide +kernel
theorem dX11_restore_32 : decode cX11_restore 32 = .ok (.return_, 1) := by decide +kernel
theorem dX11_count_0 : decode cX11_count 0 = .ok (.iload_n 1, 1) := by decide +kernel
theorem dX11_count_1 : decode cX11_count 1 = .ok (.tableswitch 141 0 10 #[59, 70, 81, 92, 98, 104, 110, 116, 122, 128, 136], 59) := by decide +kernel
theorem dX11_count_60 : decode cX11_count 60 = .ok (.aload_n 0, 1) := by decide +kernel
theorem dX11_count_61 : decode cX11_count 61 = .ok (.getfield 33, 3) := by decide +kernel
theorem dX11_count_64 : decode cX11_count 64 = .ok (.getfield 181, 3) := by decide +kernel
theorem dX11_count_67 : decode cX11_count 67 = .ok (.getfield 118, 3) := by decide +kernel
theorem dX11_count_70 : decode cX11_count 70 = .ok (.ireturn, 1) := by decide +kernel
theorem dX11_count_71 : decode cX11_count 71 = .ok (.aload_n 0, 1) := by decide +kernel
theorem dX11_count_72 : decode cX11_count 72 = .ok (.getfield 33, 3) := by decide +kernel
theorem dX11_count_75 : decode cX11_count 75 = .ok (.getfield 181, 3) := by decide +kernel
theorem dX11_count_78 : decode cX11_count 78 = .ok (.getfield 185, 3) := by decide +kernel
theorem dX11_count_81 : decode cX11_count 81 = .ok (.ireturn, 1) := by decide +kernel
theorem dX11_count_82 : decode cX11_count 82 = .ok (.aload_n 0, 1) := by decide +kernel
theorem dX11_count_83 : decode cX11_count 83 = .ok (.getfield 33, 3) := by decide +kernel
theorem dX11_count_86 : decode cX11_count 86 = .ok (.getfield 181, 3) := by decide +kernel
theorem dX11_count_89 : decode cX11_count 89 = .ok (.getfield 209, 3) := by decide +kernel
theorem dX11_count_92 : decode cX11_count 92 = .ok (.ireturn, 1) := by decide +kernel
theorem dX11_count_93 : decode cX11_count 93 = .ok (.aload_n 0, 1) := by decide +kernel
theorem dX11_count_94 : decode cX11_count 94 = .ok (.iconst 0, 1) := by decide +kernel
theorem dX11_count_95 : decode cX11_count 95 = .ok (.invokevirtual 538, 3) := by decide +kernel
theorem dX11_count_98 : decode cX11_count 98 = .ok (.ireturn, 1) := by decide +kernel
theorem dX11_count_99 : decode cX11_count 99 = .ok (.aload_n 0, 1) := by decide +kernel
theorem dX11_count_100 : decode cX11_count 100 = .ok (.iconst 1, 1) := by decide +kernel
theorem dX11_count_101 : decode cX11_count 101 = .ok (.invokevirtual 538, 3) := by decide +kernel
theorem dX11_count_104 : decode cX11_count 104 = .ok (.ireturn, 1) := by decide +kernel
theorem dX11_count_105 : decode cX11_count 105 = .ok (.aload_n 0, 1) := by decide +kernel
theorem dX11_count_106 : decode cX11_count 106 = .ok (.iconst 2, 1) := by decide +kernel
theorem dX11_count_107 : decode cX11_count 107 = .ok (.invokevirtual 538, 3) := by decide +kernel
theorem dX11_count_110 : decode cX11_count 110 = .ok (.ireturn, 1) := by decide +kernel
theorem dX11_count_111 : decode cX11_count 111 = .ok (.aload_n 0, 1) := by decide +kernel
theorem dX11_count_112 : decode cX11_count 112 = .ok (.iconst 3, 1) := by decide +kernel
theorem dX11_count_113 : decode cX11_count 113 = .ok (.invokevirtual 538, 3) := by decide +kernel
theorem dX11_count_116 : decode cX11_count 116 = .ok (.ireturn, 1) := by decide +kernel
theorem dX11_count_117 : decode cX11_count 117 = .ok (.aload_n 0, 1) := by decide +kernel
theorem dX11_count_118 : decode cX11_count 118 = .ok (.iconst 4, 1) := by decide +kernel
theorem dX11_count_119 : decode cX11_count 119 = .ok (.invokevirtual 538, 3) := by decide +kernel
theorem dX11_count_122 : decode cX11_count 122 = .ok (.ireturn, 1) := by decide +kernel
theorem dX11_count_123 : decode cX11_count 123 = .ok (.aload_n 0, 1) := by decide +kernel
theorem dX11_count_124 : decode cX11_count 124 = .ok (.iconst 5, 1) := by decide +kernel
theorem dX11_count_125 : decode cX11_count 125 = .ok (.invokevirtual 538, 3) := by decide +kernel
theorem dX11_count_128 : decode cX11_count 128 = .ok (.ireturn, 1) := by decide +kernel
theorem dX11_count_129 : decode cX11_count 129 = .ok (.aload_n 0, 1) := by decide +kernel
theorem dX11_count_130 : decode cX11_count 130 = .ok (.getfield 33, 3) := by decide +kernel
theorem dX11_count_133 : decode cX11_count 133 = .ok (.getfield 272, 3) := by decide +kernel
theorem dX11_count_136 : decode cX11_count 136 = .ok (.ireturn, 1) := by decide +kernel
theorem dX11_count_137 : decode cX11_count 137 = .ok (.aload_n 0, 1) := by decide +kernel
theorem dX11_count_138 : decode cX11_count 138 = .ok (.getfield 13, 3) := by decide +kernel
theorem dX11_count_141 : decode cX11_count 141 = .ok (.ireturn, 1) := by decide +kernel
theorem dX11_count_142 : decode cX11_count 142 = .ok (.iconst (-1), 1) := by decide +kernel
theorem dX11_count_143 : decode cX11_count 143 = .ok (.ireturn, 1) := by decide +kernel
theorem dX11_factNow_0 : decode cX11_factNow 0 = .ok (.aload_n 0, 1) := by decide +kernel
theorem dX11_factNow_1 : decode cX11_factNow 1 = .ok (.invokevirtual 198, 3) := by decide +kernel
theorem dX11_factNow_4 : decode cX11_factNow 4 = .ok (.aload_n 0, 1) := by decide +kernel
theorem dX11_factNow_5 : decode cX11_factNow 5 = .ok (.getfield 50, 3) := by decide +kernel
theorem dX11_factNow_8 : decode cX11_factNow 8 = .ok (.iload_n 1, 1) := by decide +kernel
theorem dX11_factNow_9 : decode cX11_factNow 9 = .ok (.invokevirtual 541, 3) := by decide +kernel
theorem dX11_factNow_12 : decode cX11_factNow 12 = .ok (.ireturn, 1) := by decide +kernel
theorem dX11_trayAt_0 : decode cX11_trayAt 0 = .ok (.iload_n 1, 1) := by decide +kernel
theorem dX11_trayAt_1 : decode cX11_trayAt 1 = .ok (.ifCond .lt 21, 3) := by decide +kernel
theorem dX11_trayAt_4 : decode cX11_trayAt 4 = .ok (.iload_n 1, 1) := by decide +kernel
theorem dX11_trayAt_5 : decode cX11_trayAt 5 = .ok (.aload_n 0, 1) := by decide +kernel
theorem dX11_trayAt_6 : decode cX11_trayAt 6 = .ok (.getfield 43, 3) := by decide +kernel
theorem dX11_trayAt_9 : decode cX11_trayAt 9 = .ok (.arraylength, 1) := by decide +kernel
theorem dX11_trayAt_10 : decode cX11_trayAt 10 = .ok (.if_icmp .ge 12, 3) := by decide +kernel
theorem dX11_trayAt_13 : decode cX11_trayAt 13 = .ok (.aload_n 0, 1) := by decide +kernel
theorem dX11_trayAt_14 : decode cX11_trayAt 14 = .ok (.getfield 43, 3) := by decide +kernel
theorem dX11_trayAt_17 : decode cX11_trayAt 17 = .ok (.iload_n 1, 1) := by decide +kernel
theorem dX11_trayAt_18 : decode cX11_trayAt 18 = .ok (.aaload, 1) := by decide +kernel
theorem dX11_trayAt_19 : decode cX11_trayAt 19 = .ok (.ifnonnull 14, 3) := by decide +kernel
theorem dX11_trayAt_22 : decode cX11_trayAt 22 = .ok (.new 127, 3) := by decide +kernel
theorem dX11_trayAt_25 : decode cX11_trayAt 25 = .ok (.dup, 1) := by decide +kernel
theorem dX11_trayAt_26 : decode cX11_trayAt 26 = .ok (.ldc_w 544, 3) := by decide +kernel
theorem dX11_trayAt_29 : decode cX11_trayAt 29 = .ok (.invokespecial 131, 3) := by decide +kernel
theorem dX11_trayAt_32 : decode cX11_trayAt 32 = .ok (.athrow, 1) := by decide +kernel
theorem dX11_trayAt_33 : decode cX11_trayAt 33 = .ok (.aload_n 0, 1) := by decide +kernel
theorem dX11_trayAt_34 : decode cX11_trayAt 34 = .ok (.getfield 43, 3) := by decide +kernel
theorem dX11_trayAt_37 : decode cX11_trayAt 37 = .ok (.iload_n 1, 1) := by decide +kernel
theorem dX11_trayAt_38 : decode cX11_trayAt 38 = .ok (.aaload, 1) := by decide +kernel
theorem dX11_trayAt_39 : decode cX11_trayAt 39 = .ok (.areturn, 1) := by decide +kernel
theorem dX11_trayThere_0 : decode cX11_trayThere 0 = .ok (.aload_n 0, 1) := by decide +kernel
theorem dX11_trayThere_1 : decode cX11_trayThere 1 = .ok (.iload_n 1, 1) := by decide +kernel
theorem dX11_trayThere_2 : decode cX11_trayThere 2 = .ok (.invokevirtual 508, 3) := by decide +kernel
theorem dX11_trayThere_5 : decode cX11_trayThere 5 = .ok (.astore_n 2, 1) := by decide +kernel
theorem dX11_trayThere_6 : decode cX11_trayThere 6 = .ok (.aload_n 2, 1) := by decide +kernel
theorem dX11_trayThere_7 : decode cX11_trayThere 7 = .ok (.getfield 546, 3) := by decide +kernel
theorem dX11_trayThere_10 : decode cX11_trayThere 10 = .ok (.ifCond .eq 14, 3) := by decide +kernel
theorem dX11_trayThere_13 : decode cX11_trayThere 13 = .ok (.new 322, 3) := by decide +kernel
theorem dX11_trayThere_16 : decode cX11_trayThere 16 = .ok (.dup, 1) := by decide +kernel
theorem dX11_trayThere_17 : decode cX11_trayThere 17 = .ok (.ldc_w 549, 3) := by decide +kernel
theorem dX11_trayThere_20 : decode cX11_trayThere 20 = .ok (.invokespecial 326, 3) := by decide +kernel
theorem dX11_trayThere_23 : decode cX11_trayThere 23 = .ok (.athrow, 1) := by decide +kernel
theorem dX11_trayThere_24 : decode cX11_trayThere 24 = .ok (.aload_n 2, 1) := by decide +kernel
theorem dX11_trayThere_25 : decode cX11_trayThere 25 = .ok (.areturn, 1) := by decide +kernel
theorem dX11_pictureAt_0 : decode cX11_pictureAt 0 = .ok (.iload_n 1, 1) := by decide +kernel
theorem dX11_pictureAt_1 : decode cX11_pictureAt 1 = .ok (.ifCond .lt 21, 3) := by decide +kernel
theorem dX11_pictureAt_4 : decode cX11_pictureAt 4 = .ok (.iload_n 1, 1) := by decide +kernel
theorem dX11_pictureAt_5 : decode cX11_pictureAt 5 = .ok (.aload_n 0, 1) := by decide +kernel
theorem dX11_pictureAt_6 : decode cX11_pictureAt 6 = .ok (.getfield 37, 3) := by decide +kernel
theorem dX11_pictureAt_9 : decode cX11_pictureAt 9 = .ok (.arraylength, 1) := by decide +kernel
theorem dX11_pictureAt_10 : decode cX11_pictureAt 10 = .ok (.if_icmp .ge 12, 3) := by decide +kernel
theorem dX11_pictureAt_13 : decode cX11_pictureAt 13 = .ok (.aload_n 0, 1) := by decide +kernel
theorem dX11_pictureAt_14 : decode cX11_pictureAt 14 = .ok (.getfield 37, 3) := by decide +kernel
theorem dX11_pictureAt_17 : decode cX11_pictureAt 17 = .ok (.iload_n 1, 1) := by decide +kernel
theorem dX11_pictureAt_18 : decode cX11_pictureAt 18 = .ok (.aaload, 1) := by decide +kernel
theorem dX11_pictureAt_19 : decode cX11_pictureAt 19 = .ok (.ifnonnull 14, 3) := by decide +kernel
theorem dX11_pictureAt_22 : decode cX11_pictureAt 22 = .ok (.new 127, 3) := by decide +kernel
theorem dX11_pictureAt_25 : decode cX11_pictureAt 25 = .ok (.dup, 1) := by decide +kernel
theorem dX11_pictureAt_26 : decode cX11_pictureAt 26 = .ok (.ldc_w 551, 3) := by decide +kernel
theorem dX11_pictureAt_29 : decode cX11_pictureAt 29 = .ok (.invokespecial 131, 3) := by decide +kernel
theorem dX11_pictureAt_32 : decode cX11_pictureAt 32 = .ok (.athrow, 1) := by decide +kernel
theorem dX11_pictureAt_33 : decode cX11_pictureAt 33 = .ok (.aload_n 0, 1) := by decide +kernel
theorem dX11_pictureAt_34 : decode cX11_pictureAt 34 = .ok (.getfield 37, 3) := by decide +kernel
theorem dX11_pictureAt_37 : decode cX11_pictureAt 37 = .ok (.iload_n 1, 1) := by decide +kernel
theorem dX11_pictureAt_38 : decode cX11_pictureAt 38 = .ok (.aaload, 1) := by decide +kernel
theorem dX11_pictureAt_39 : decode cX11_pictureAt 39 = .ok (.areturn, 1) := by decide +kernel
theorem dX12_init_0 : decode cX12_init 0 = .ok (.aload_n 0, 1) := by decide +kernel
theorem dX12_init_1 : decode cX12_init 1 = .ok (.invokespecial 1, 3) := by decide +kernel
theorem dX12_init_4 : decode cX12_init 4 = .ok (.aload_n 0, 1) := by decide +kernel
theorem dX12_init_5 : decode cX12_init 5 = .ok (.sipush 2912, 3) := by decide +kernel
theorem dX12_init_8 : decode cX12_init 8 = .ok (.newarray .int, 2) := by decide +kernel
theorem dX12_init_10 : decode cX12_init 10 = .ok (.putfield 9, 3) := by decide +kernel
theorem dX12_init_13 : decode cX12_init 13 = .ok (.aload_n 0, 1) := by decide +kernel
theorem dX12_init_14 : decode cX12_init 14 = .ok (.sipush 2912, 3) := by decide +kernel
theorem dX12_init_17 : decode cX12_init 17 = .ok (.newarray .int, 2) := by decide +kernel
theorem dX12_init_19 : decode cX12_init 19 = .ok (.putfield 13, 3) := by decide +kernel
theorem dX12_init_22 : decode cX12_init 22 = .ok (.aload_n 0, 1) := by decide +kernel
theorem dX12_init_23 : decode cX12_init 23 = .ok (.sipush 8736, 3) := by decide +kernel
theorem dX12_init_26 : decode cX12_init 26 = .ok (.newarray .int, 2) := by decide +kernel
theorem dX12_init_28 : decode cX12_init 28 = .ok (.putfield 16, 3) := by decide +kernel
theorem dX12_init_31 : decode cX12_init 31 = .ok (.aload_n 0, 1) := by decide +kernel
theorem dX12_init_32 : decode cX12_init 32 = .ok (.iconst 3, 1) := by decide +kernel
theorem dX12_init_33 : decode cX12_init 33 = .ok (.newarray .boolean, 2) := by decide +kernel
theorem dX12_init_35 : decode cX12_init 35 = .ok (.putfield 19, 3) := by decide +kernel
theorem dX12_init_38 : decode cX12_init 38 = .ok (.aload_n 0, 1) := by decide +kernel
theorem dX12_init_39 : decode cX12_init 39 = .ok (.sipush 900, 3) := by decide +kernel
theorem dX12_init_42 : decode cX12_init 42 = .ok (.newarray .int, 2) := by decide +kernel
theorem dX12_init_44 : decode cX12_init 44 = .ok (.putfield 23, 3) := by decide +kernel
theorem dX12_init_47 : decode cX12_init 47 = .ok (.aload_n 0, 1) := by decide +kernel
theorem dX12_init_48 : decode cX12_init 48 = .ok (.iconst (-1), 1) := by decide +kernel
theorem dX12_init_49 : decode cX12_init 49 = .ok (.putfield 26, 3) := by decide +kernel
theorem dX12_init_52 : decode cX12_init 52 = .ok (.aload_n 0, 1) := by decide +kernel
theorem dX12_init_53 : decode cX12_init 53 = .ok (.sipush 473, 3) := by decide +kernel
theorem dX12_init_56 : decode cX12_init 56 = .ok (.newarray .int, 2) := by decide +kernel
theorem dX12_init_58 : decode cX12_init 58 = .ok (.putfield 30, 3) := by decide +kernel
theorem dX12_init_61 : decode cX12_init 61 = .ok (.aload_n 0, 1) := by decide +kernel
theorem dX12_init_62 : decode cX12_init 62 = .ok (.bipush 6, 2) := by decide +kernel
theorem dX12_init_64 : decode cX12_init 64 = .ok (.newarray .int, 2) := by decide +kernel
theorem dX12_init_66 : decode cX12_init 66 = .ok (.putfield 33, 3) := by decide +kernel
theorem dX12_init_69 : decode cX12_init 69 = .ok (.aload_n 0, 1) := by decide +kernel
theorem dX12_init_70 : decode cX12_init 70 = .ok (.bipush 64, 2) := by decide +kernel
theorem dX12_init_72 : decode cX12_init 72 = .ok (.newarray .int, 2) := by decide +kernel
theorem dX12_init_74 : decode cX12_init 74 = .ok (.putfield 36, 3) := by decide +kernel
theorem dX12_init_77 : decode cX12_init 77 = .ok (.aload_n 0, 1) := by decide +kernel
theorem dX12_init_78 : decode cX12_init 78 = .ok (.bipush 8, 2) := by decide +kernel
theorem dX12_init_80 : decode cX12_init 80 = .ok (.newarray .int, 2) := by decide +kernel
theorem dX12_init_82 : decode cX12_init 82 = .ok (.putfield 39, 3) := by decide +kernel
theorem dX12_init_85 : decode cX12_init 85 = .ok (.aload_n 0, 1) := by decide +kernel
theorem dX12_init_86 : decode cX12_init 86 = .ok (.bipush 18, 2) := by decide +kernel
theorem dX12_init_88 : decode cX12_init 88 = .ok (.newarray .int, 2) := by decide +kernel
theorem dX12_init_90 : decode cX12_init 90 = .ok (.putfield 42, 3) := by decide +kernel
theorem dX12_init_93 : decode cX12_init 93 = .ok (.aload_n 0, 1) := by decide +kernel
theorem dX12_init_94 : decode cX12_init 94 = .ok (.iconst 5, 1) := by decide +kernel
theorem dX12_init_95 : decode cX12_init 95 = .ok (.newarray .int, 2) := by decide +kernel
theorem dX12_init_97 : decode cX12_init 97 = .ok (.putfield 45, 3) := by decide +kernel
theorem dX12_init_100 : decode cX12_init 100 = .ok (.aload_n 0, 1) := by decide +kernel
theorem dX12_init_101 : decode cX12_init 101 = .ok (.iconst 5, 1) := by decide +kernel
theorem dX12_init_102 : decode cX12_init 102 = .ok (.newarray .int, 2) := by decide +kernel
theorem dX12_init_104 : decode cX12_init 104 = .ok (.putfield 48, 3) := by decide +kernel
theorem dX12_init_107 : decode cX12_init 107 = .ok (.aload_n 0, 1) := by decide +kernel
theorem dX12_init_108 : decode cX12_init 108 = .ok (.iconst 4, 1) := by decide +kernel
theorem dX12_init_109 : decode cX12_init 109 = .ok (.newarray .int, 2) := by decide +kernel
theorem dX12_init_111 : decode cX12_init 111 = .ok (.putfield 51, 3) := by decide +kernel
theorem dX12_init_114 : decode cX12_init 114 = .ok (.aload_n 0, 1) := by decide +kernel
theorem dX12_init_115 : decode cX12_init 115 = .ok (.ldc 54, 2) := by decide +kernel
theorem dX12_init_117 : decode cX12_init 117 = .ok (.newarray .long, 2) := by decide +kernel
theorem dX12_init_119 : decode cX12_init 119 = .ok (.putfield 55, 3) := by decide +kernel
theorem dX12_init_122 : decode cX12_init 122 = .ok (.aload_n 0, 1) := by decide +kernel
theorem dX12_init_123 : decode cX12_init 123 = .ok (.ldc 54, 2) := by decide +kernel
theorem dX12_init_125 : decode cX12_init 125 = .ok (.newarray .int, 2) := by decide +kernel
theorem dX12_init_127 : decode cX12_init 127 = .ok (.putfield 59, 3) := by decide +kernel
theorem dX12_init_130 : decode cX12_init 130 = .ok (.aload_n 0, 1) := by decide +kernel
theorem dX12_init_131 : decode cX12_init 131 = .ok (.bipush 6, 2) := by decide +kernel
theorem dX12_init_133 : decode cX12_init 133 = .ok (.newarray .int, 2) := by decide +kernel
theorem dX12_init_135 : decode cX12_init 135 = .ok (.putfield 62, 3) := by decide +kernel
theorem dX12_init_138 : decode cX12_init 138 = .ok (.aload_n 0, 1) := by decide +kernel
theorem dX12_init_139 : decode cX12_init 139 = .ok (.sipush 600, 3) := by decide +kernel
theorem dX12_init_142 : decode cX12_init 142 = .ok (.newarray .int, 2) := by decide +kernel
theorem dX12_init_144 : decode cX12_init 144 = .ok (.putfield 65, 3) := by decide +kernel
theorem dX12_init_147 : decode cX12_init 147 = .ok (.aload_n 0, 1) := by decide +kernel
theorem dX12_init_148 : decode cX12_init 148 = .ok (.iconst 4, 1) := by decide +kernel
theorem dX12_init_149 : decode cX12_init 149 = .ok (.newarray .int, 2) := by decide +kernel
theorem dX12_init_151 : decode cX12_init 151 = .ok (.dup, 1) := by decide +kernel
theorem dX12_init_152 : decode cX12_init 152 = .ok (.iconst 0, 1) := by decide +kernel
theorem dX12_init_153 : decode cX12_init 153 = .ok (.iconst (-1), 1) := by decide +kernel
theorem dX12_init_154 : decode cX12_init 154 = .ok (.iastore, 1) := by decide +kernel
theorem dX12_init_155 : decode cX12_init 155 = .ok (.dup, 1) := by decide +kernel
theorem dX12_init_156 : decode cX12_init 156 = .ok (.iconst 1, 1) := by decide +kernel
theorem dX12_init_157 : decode cX12_init 157 = .ok (.iconst (-1), 1) := by decide +kernel
theorem dX12_init_158 : decode cX12_init 158 = .ok (.iastore, 1) := by decide +kernel
theorem dX12_init_159 : decode cX12_init 159 = .ok (.dup, 1) := by decide +kernel
theorem dX12_init_160 : decode cX12_init 160 = .ok (.iconst 2, 1) := by decide +kernel
theorem dX12_init_161 : decode cX12_init 161 = .ok (.iconst (-1), 1) := by decide +kernel
theorem dX12_init_162 : decode cX12_init 162 = .ok (.iastore, 1) := by decide +kernel
theorem dX12_init_163 : decode cX12_init 163 = .ok (.dup, 1) := by decide +kernel
theorem dX12_init_164 : decode cX12_init 164 = .ok (.iconst 3, 1) := by decide +kernel
theorem dX12_init_165 : decode cX12_init 165 = .ok (.iconst (-1), 1) := by decide +kernel
theorem dX12_init_166 : decode cX12_init 166 = .ok (.iastore, 1) := by decide +kernel
theorem dX12_init_167 : decode cX12_init 167 = .ok (.putfield 68, 3) := by decide +kernel
theorem dX12_init_170 : decode cX12_init 170 = .ok (.aload_n 0, 1) := by decide +kernel
theorem dX12_init_171 : decode cX12_init 171 = .ok (.iconst 4, 1) := by decide +kernel
theorem dX12_init_172 : decode cX12_init 172 = .ok (.newarray .int, 2) := by decide +kernel
theorem dX12_init_174 : decode cX12_init 174 = .ok (.putfield 71, 3) := by decide +kernel
theorem dX12_init_177 : decode cX12_init 177 = .ok (.aload_n 0, 1) := by decide +kernel
theorem dX12_init_178 : decode cX12_init 178 = .ok (.bipush 120, 2) := by decide +kernel
theorem dX12_init_180 : decode cX12_init 180 = .ok (.newarray .long, 2) := by decide +kernel
theorem dX12_init_182 : decode cX12_init 182 = .ok (.putfield 74, 3) := by decide +kernel
theorem dX12_init_185 : decode cX12_init 185 = .ok (.return_, 1) := by decide +kernel
theorem dX12_thrown_0 : decode cX12_thrown 0 = .ok (.aload_n 0, 1) := by decide +kernel
theorem dX12_thrown_1 : decode cX12_thrown 1 = .ok (.getfield 77, 3) := by decide +kernel
theorem dX12_thrown_4 : decode cX12_thrown 4 = .ok (.ireturn, 1) := by decide +kernel
theorem dX12_fails_0 : decode cX12_fails 0 = .ok (.aload_n 0, 1) := by decide +kernel
theorem dX12_fails_1 : decode cX12_fails 1 = .ok (.iload_n 1, 1) := by decide +kernel
theorem dX12_fails_2 : decode cX12_fails 2 = .ok (.putfield 77, 3) := by decide +kernel
theorem dX12_fails_5 : decode cX12_fails 5 = .ok (.iconst 0, 1) := by decide +kernel
theorem dX12_fails_6 : decode cX12_fails 6 = .ok (.ireturn, 1) := by decide +kernel
theorem dX12_within_0 : decode cX12_within 0 = .ok (.lload_n 0, 1) := by decide +kernel
theorem dX12_within_1 : decode cX12_within 1 = .ok (.lload_n 2, 1) := by decide +kernel
theorem dX12_within_2 : decode cX12_within 2 = .ok (.lcmp, 1) := by decide +kernel
theorem dX12_within_3 : decode cX12_within 3 = .ok (.ifCond .lt 14, 3) := by decide +kernel
theorem dX12_within_6 : decode cX12_within 6 = .ok (.lload_n 0, 1) := by decide +kernel
theorem dX12_within_7 : decode cX12_within 7 = .ok (.lload 4, 2) := by decide +kernel
theorem dX12_within_9 : decode cX12_within 9 = .ok (.lcmp, 1) := by decide +kernel
theorem dX12_within_10 : decode cX12_within 10 = .ok (.ifCond .gt 7, 3) := by decide +kernel
theorem dX12_within_13 : decode cX12_within 13 = .ok (.iconst 1, 1) := by decide +kernel
theorem dX12_within_14 : decode cX12_within 14 = .ok (.goto 4, 3) := by decide +kernel
theorem dX12_within_17 : decode cX12_within 17 = .ok (.iconst 0, 1) := by decide +kernel
theorem dX12_within_18 : decode cX12_within 18 = .ok (.ireturn, 1) := by decide +kernel
theorem dX12_has_0 : decode cX12_has 0 = .ok (.iload_n 0, 1) := by decide +kernel
theorem dX12_has_1 : decode cX12_has 1 = .ok (.iload_n 1, 1) := by decide +kernel
theorem dX12_has_2 : decode cX12_has 2 = .ok (.ishr, 1) := by decide +kernel
theorem dX12_has_3 : decode cX12_has 3 = .ok (.iconst 1, 1) := by decide +kernel
theorem dX12_has_4 : decode cX12_has 4 = .ok (.iand, 1) := by decide +kernel
theorem dX12_has_5 : decode cX12_has 5 = .ok (.iconst 1, 1) := by decide +kernel
theorem dX12_has_6 : decode cX12_has 6 = .ok (.if_icmp .ne 7, 3) := by decide +kernel
theorem dX12_has_9 : decode cX12_has 9 = .ok (.iconst 1, 1) := by decide +kernel
theorem dX12_has_10 : decode cX12_has 10 = .ok (.goto 4, 3) := by decide +kernel
theorem dX12_has_13 : decode cX12_has 13 = .ok (.iconst 0, 1) := by decide +kernel
theorem dX12_has_14 : decode cX12_has 14 = .ok (.ireturn, 1) := by decide +kernel
theorem dX12_feed_0 : decode cX12_feed 0 = .ok (.aload_n 0, 1) := by decide +kernel
theorem dX12_feed_1 : decode cX12_feed 1 = .ok (.iconst 0, 1) := by decide +kernel
theorem dX12_feed_2 : decode cX12_feed 2 = .ok (.putfield 77, 3) := by decide +kernel
theorem dX12_feed_5 : decode cX12_feed 5 = .ok (.aload_n 0, 1) := by decide +kernel
theorem dX12_feed_6 : decode cX12_feed 6 = .ok (.getfield 80, 3) := by decide +kernel
theorem dX12_feed_9 : decode cX12_feed 9 = .ok (.bipush 20, 2) := by decide +kernel
theorem dX12_feed_11 : decode cX12_feed 11 = .ok (.iadd, 1) := by decide +kernel
theorem dX12_feed_12 : decode cX12_feed 12 = .ok (.sipush 900, 3) := by decide +kernel
theorem dX12_feed_15 : decode cX12_feed 15 = .ok (.if_icmp .le 5, 3) := by decide +kernel
theorem dX12_feed_18 : decode cX12_feed 18 = .ok (.iconst (-1), 1) := by decide +kernel
theorem dX12_feed_19 : decode cX12_feed 19 = .ok (.ireturn, 1) := by decide +kernel
theorem dX12_feed_20 : decode cX12_feed 20 = .ok (.iconst 0, 1) := by decide +kernel
theorem dX12_feed_21 : decode cX12_feed 21 = .ok (.istore 6, 2) := by decide +kernel
theorem dX12_feed_23 : decode cX12_feed 23 = .ok (.iload 6, 2) := by decide +kernel
theorem dX12_feed_25 : decode cX12_feed 25 = .ok (.bipush 20, 2) := by decide +kernel
theorem dX12_feed_27 : decode cX12_feed 27 = .ok (.if_icmp .ge 93, 3) := by decide +kernel
theorem dX12_feed_30 : decode cX12_feed 30 = .ok (.iload 6, 2) := by decide +kernel
theorem dX12_feed_32 : decode cX12_feed 32 = .ok (.iconst 4, 1) := by decide +kernel
theorem dX12_feed_33 : decode cX12_feed 33 = .ok (.if_icmp .ge 7, 3) := by decide +kernel
theorem dX12_feed_36 : decode cX12_feed 36 = .ok (.iload_n 1, 1) := by decide +kernel
theorem dX12_feed_37 : decode cX12_feed 37 = .ok (.goto 39, 3) := by decide +kernel
theorem dX12_feed_40 : decode cX12_feed 40 = .ok (.iload 6, 2) := by decide +kernel
theorem dX12_feed_42 : decode cX12_feed 42 = .ok (.bipush 8, 2) := by decide +kernel
theorem dX12_feed_44 : decode cX12_feed 44 = .ok (.if_icmp .ge 7, 3) := by decide +kernel
theorem dX12_feed_47 : decode cX12_feed 47 = .ok (.iload_n 2, 1) := by decide +kernel
theorem dX12_feed_48 : decode cX12_feed 48 = .ok (.goto 28, 3) := by decide +kernel
theorem dX12_feed_51 : decode cX12_feed 51 = .ok (.iload 6, 2) := by decide +kernel
theorem dX12_feed_53 : decode cX12_feed 53 = .ok (.bipush 12, 2) := by decide +kernel
theorem dX12_feed_55 : decode cX12_feed 55 = .ok (.if_icmp .ge 7, 3) := by decide +kernel
theorem dX12_feed_58 : decode cX12_feed 58 = .ok (.iload_n 3, 1) := by decide +kernel
theorem dX12_feed_59 : decode cX12_feed 59 = .ok (.goto 17, 3) := by decide +kernel
theorem dX12_feed_62 : decode cX12_feed 62 = .ok (.iload 6, 2) := by decide +kernel
theorem dX12_feed_64 : decode cX12_feed 64 = .ok (.bipush 16, 2) := by decide +kernel
theorem dX12_feed_66 : decode cX12_feed 66 = .ok (.if_icmp .ge 8, 3) := by decide +kernel
theorem dX12_feed_69 : decode cX12_feed 69 = .ok (.iload 4, 2) := by decide +kernel
theorem dX12_feed_71 : decode cX12_feed 71 = .ok (.goto 5, 3) := by decide +kernel
theorem dX12_feed_74 : decode cX12_feed 74 = .ok (.iload 5, 2) := by decide +kernel
theorem dX12_feed_76 : decode cX12_feed 76 = .ok (.istore 7, 2) := by decide +kernel
theorem dX12_feed_78 : decode cX12_feed 78 = .ok (.aload_n 0, 1) := by decide +kernel
theorem dX12_feed_79 : decode cX12_feed 79 = .ok (.getfield 23, 3) := by decide +kernel
theorem dX12_feed_82 : decode cX12_feed 82 = .ok (.aload_n 0, 1) := by decide +kernel
theorem dX12_feed_83 : decode cX12_feed 83 = .ok (.getfield 80, 3) := by decide +kernel
theorem dX12_feed_86 : decode cX12_feed 86 = .ok (.iload 7, 2) := by decide +kernel
theorem dX12_feed_88 : decode cX12_feed 88 = .ok (.bipush 24, 2) := by decide +kernel
theorem dX12_feed_90 : decode cX12_feed 90 = .ok (.bipush 8, 2) := by decide +kernel
theorem dX12_feed_92 : decode cX12_feed 92 = .ok (.iload 6, 2) := by decide +kernel
theorem dX12_feed_94 : decode cX12_feed 94 = .ok (.iconst 3, 1) := by decide +kernel
theorem dX12_feed_95 : decode cX12_feed 95 = .ok (.iand, 1) := by decide +kernel
theorem dX12_feed_96 : decode cX12_feed 96 = .ok (.imul, 1) := by decide +kernel
theorem dX12_feed_97 : decode cX12_feed 97 = .ok (.isub, 1) := by decide +kernel
theorem dX12_feed_98 : decode cX12_feed 98 = .ok (.iushr, 1) := by decide +kernel
theorem dX12_feed_99 : decode cX12_feed 99 = .ok (.sipush 255, 3) := by decide +kernel
theorem dX12_feed_102 : decode cX12_feed 102 = .ok (.iand, 1) := by decide +kernel
theorem dX12_feed_103 : decode cX12_feed 103 = .ok (.iastore, 1) := by decide +kernel
theorem dX12_feed_104 : decode cX12_feed 104 = .ok (.aload_n 0, 1) := by decide +kernel
theorem dX12_feed_105 : decode cX12_feed 105 = .ok (.dup, 1) := by decide +kernel
theorem dX12_feed_106 : decode cX12_feed 106 = .ok (.getfield 80, 3) := by decide +kernel
theorem dX12_feed_109 : decode cX12_feed 109 = .ok (.iconst 1, 1) := by decide +kernel
theorem dX12_feed_110 : decode cX12_feed 110 = .ok (.iadd, 1) := by decide +kernel
theorem dX12_feed_111 : decode cX12_feed 111 = .ok (.putfield 80, 3) := by decide +kernel
theorem dX12_feed_114 : decode cX12_feed 114 = .ok (.iinc 6 1, 3) := by decide +kernel
theorem dX12_feed_117 : decode cX12_feed 117 = .ok (.goto (-94), 3) := by decide +kernel
theorem dX12_feed_120 : decode cX12_feed 120 = .ok (.aload_n 0, 1) := by decide +kernel
theorem dX12_feed_121 : decode cX12_feed 121 = .ok (.getfield 80, 3) := by decide +kernel
theorem dX12_feed_124 : decode cX12_feed 124 = .ok (.ireturn, 1) := by decide +kernel
theorem dX12_see_0 : decode cX12_see 0 = .ok (.iload_n 1, 1) := by decide +kernel
theorem dX12_see_1 : decode cX12_see 1 = .ok (.aload_n 0, 1) := by decide +kernel
theorem dX12_see_2 : decode cX12_see 2 = .ok (.getfield 83, 3) := by decide +kernel
theorem dX12_see_5 : decode cX12_see 5 = .ok (.if_icmp .ge 12, 3) := by decide +kernel
theorem dX12_see_8 : decode cX12_see 8 = .ok (.aload_n 0, 1) := by decide +kernel
theorem dX12_see_9 : decode cX12_see 9 = .ok (.getfield 23, 3) := by decide +kernel
theorem dX12_see_12 : decode cX12_see 12 = .ok (.iload_n 1, 1) := by decide +kernel
theorem dX12_see_13 : decode cX12_see 13 = .ok (.iaload, 1) := by decide +kernel
theorem dX12_see_14 : decode cX12_see 14 = .ok (.goto 4, 3) := by decide +kernel
theorem dX12_see_17 : decode cX12_see 17 = .ok (.iconst 0, 1) := by decide +kernel
theorem dX12_see_18 : decode cX12_see 18 = .ok (.ireturn, 1) := by decide +kernel
theorem dX12_isLetter_0 : decode cX12_isLetter 0 = .ok (.iload_n 0, 1) := by decide +kernel
theorem dX12_isLetter_1 : decode cX12_isLetter 1 = .ok (.bipush 97, 2) := by decide +kernel
theorem dX12_isLetter_3 : decode cX12_isLetter 3 = .ok (.if_icmp .lt 13, 3) := by decide +kernel
theorem dX12_isLetter_6 : decode cX12_isLetter 6 = .ok (.iload_n 0, 1) := by decide +kernel
theorem dX12_isLetter_7 : decode cX12_isLetter 7 = .ok (.bipush 122, 2) := by decide +kernel
theorem dX12_isLetter_9 : decode cX12_isLetter 9 = .ok (.if_icmp .gt 7, 3) := by decide +kernel
theorem dX12_isLetter_12 : decode cX12_isLetter 12 = .ok (.iconst 1, 1) := by decide +kernel
theorem dX12_isLetter_13 : decode cX12_isLetter 13 = .ok (.goto 4, 3) := by decide +kernel
theorem dX12_isLetter_16 : decode cX12_isLetter 16 = .ok (.iconst 0, 1) := by decide +kernel
theorem dX12_isLetter_17 : decode cX12_isLetter 17 = .ok (.ireturn, 1) := by decide +kernel
theorem dX12_isDigit_0 : decode cX12_isDigit 0 = .ok (.iload_n 0, 1) := by decide +kernel
theorem dX12_isDigit_1 : decode cX12_isDigit 1 = .ok (.bipush 48, 2) := by decide +kernel
theorem dX12_isDigit_3 : decode cX12_isDigit 3 = .ok (.if_icmp .lt 13, 3) := by decide +kernel
theorem dX12_isDigit_6 : decode cX12_isDigit 6 = .ok (.iload_n 0, 1) := by decide +kernel
theorem dX12_isDigit_7 : decode cX12_isDigit 7 = .ok (.bipush 57, 2) := by decide +kernel
theorem dX12_isDigit_9 : decode cX12_isDigit 9 = .ok (.if_icmp .gt 7, 3) := by decide +kernel
theorem dX12_isDigit_12 : decode cX12_isDigit 12 = .ok (.iconst 1, 1) := by decide +kernel
theorem dX12_isDigit_13 : decode cX12_isDigit 13 = .ok (.goto 4, 3) := by decide +kernel
theorem dX12_isDigit_16 : decode cX12_isDigit 16 = .ok (.iconst 0, 1) := by decide +kernel
theorem dX12_isDigit_17 : decode cX12_isDigit 17 = .ok (.ireturn, 1) := by decide +kernel
theorem dX12_isSignByte_0 : decode cX12_isSignByte 0 = .ok (.iload_n 0, 1) := by decide +kernel
theorem dX12_isSignByte_1 : decode cX12_isSignByte 1 = .ok (.bipush 91, 2) := by decide +kernel
theorem dX12_isSignByte_3 : decode cX12_isSignByte 3 = .ok (.if_icmp .eq 33, 3) := by decide +kernel
theorem dX12_isSignByte_6 : decode cX12_isSignByte 6 = .ok (.iload_n 0, 1) := by decide +kernel
theorem dX12_isSignByte_7 : decode cX12_isSignByte 7 = .ok (.bipush 93, 2) := by decide +kernel
theorem dX12_isSignByte_9 : decode cX12_isSignByte 9 = .ok (.if_icmp .eq 27, 3) := by decide +kernel
theorem dX12_isSignByte_12 : decode cX12_isSignByte 12 = .ok (.iload_n 0, 1) := by decide +kernel
theorem dX12_isSignByte_13 : decode cX12_isSignByte 13 = .ok (.bipush 61, 2) := by decide +kernel
theorem dX12_isSignByte_15 : decode cX12_isSignByte 15 = .ok (.if_icmp .eq 21, 3) := by decide +kernel
theorem dX12_isSignByte_18 : decode cX12_isSignByte 18 = .ok (.iload_n 0, 1) := by decide +kernel
theorem dX12_isSignByte_19 : decode cX12_isSignByte 19 = .ok (.bipush 60, 2) := by decide +kernel
theorem dX12_isSignByte_21 : decode cX12_isSignByte 21 = .ok (.if_icmp .eq 15, 3) := by decide +kernel
theorem dX12_isSignByte_24 : decode cX12_isSignByte 24 = .ok (.iload_n 0, 1) := by decide +kernel
theorem dX12_isSignByte_25 : decode cX12_isSignByte 25 = .ok (.bipush 62, 2) := by decide +kernel
theorem dX12_isSignByte_27 : decode cX12_isSignByte 27 = .ok (.if_icmp .eq 9, 3) := by decide +kernel
theorem dX12_isSignByte_30 : decode cX12_isSignByte 30 = .ok (.iload_n 0, 1) := by decide +kernel
theorem dX12_isSignByte_31 : decode cX12_isSignByte 31 = .ok (.bipush 58, 2) := by decide +kernel
theorem dX12_isSignByte_33 : decode cX12_isSignByte 33 = .ok (.if_icmp .ne 7, 3) := by decide +kernel
theorem dX12_isSignByte_36 : decode cX12_isSignByte 36 = .ok (.iconst 1, 1) := by decide +kernel
theorem dX12_isSignByte_37 : decode cX12_isSignByte 37 = .ok (.goto 4, 3) := by decide +kernel
theorem dX12_isSignByte_40 : decode cX12_isSignByte 40 = .ok (.iconst 0, 1) := by decide +kernel
theorem dX12_isSignByte_41 : decode cX12_isSignByte 41 = .ok (.istore_n 1, 1) := by decide +kernel
theorem dX12_isSignByte_42 : decode cX12_isSignByte 42 = .ok (.iload_n 1, 1) := by decide +kernel
theorem dX12_isSignByte_43 : decode cX12_isSignByte 43 = .ok (.ifCond .ne 39, 3) := by decide +kernel
theorem dX12_isSignByte_46 : decode cX12_isSignByte 46 = .ok (.iload_n 0, 1) := by decide +kernel
theorem dX12_isSignByte_47 : decode cX12_isSignByte 47 = .ok (.bipush 59, 2) := by decide +kernel
theorem dX12_isSignByte_49 : decode cX12_isSignByte 49 = .ok (.if_icmp .eq 33, 3) := by decide +kernel
theorem dX12_isSignByte_52 : decode cX12_isSignByte 52 = .ok (.iload_n 0, 1) := by decide +kernel
theorem dX12_isSignByte_53 : decode cX12_isSignByte 53 = .ok (.bipush 43, 2) := by decide +kernel
theorem dX12_isSignByte_55 : decode cX12_isSignByte 55 = .ok (.if_icmp .eq 27, 3) := by decide +kernel
theorem dX12_isSignByte_58 : decode cX12_isSignByte 58 = .ok (.iload_n 0, 1) := by decide +kernel
theorem dX12_isSignByte_59 : decode cX12_isSignByte 59 = .ok (.bipush 45, 2) := by decide +kernel
theorem dX12_isSignByte_61 : decode cX12_isSignByte 61 = .ok (.if_icmp .eq 21, 3) := by decide +kernel
theorem dX12_isSignByte_64 : decode cX12_isSignByte 64 = .ok (.iload_n 0, 1) := by decide +kernel
theorem dX12_isSignByte_65 : decode cX12_isSignByte 65 = .ok (.bipush 42, 2) := by decide +kernel
theorem dX12_isSignByte_67 : decode cX12_isSignByte 67 = .ok (.if_icmp .eq 15, 3) := by decide +kernel
theorem dX12_isSignByte_70 : decode cX12_isSignByte 70 = .ok (.iload_n 0, 1) := by decide +kernel
theorem dX12_isSignByte_71 : decode cX12_isSignByte 71 = .ok (.bipush 40, 2) := by decide +kernel
theorem dX12_isSignByte_73 : decode cX12_isSignByte 73 = .ok (.if_icmp .eq 9, 3) := by decide +kernel
theorem dX12_isSignByte_76 : decode cX12_isSignByte 76 = .ok (.iload_n 0, 1) := by decide +kernel
theorem dX12_isSignByte_77 : decode cX12_isSignByte 77 = .ok (.bipush 41, 2) := by decide +kernel
theorem dX12_isSignByte_79 : decode cX12_isSignByte 79 = .ok (.if_icmp .ne 7, 3) := by decide +kernel
theorem dX12_isSignByte_82 : decode cX12_isSignByte 82 = .ok (.iconst 1, 1) := by decide +kernel
theorem dX12_isSignByte_83 : decode cX12_isSignByte 83 = .ok (.goto 4, 3) := by decide +kernel
theorem dX12_isSignByte_86 : decode cX12_isSignByte 86 = .ok (.iconst 0, 1) := by decide +kernel
theorem dX12_isSignByte_87 : decode cX12_isSignByte 87 = .ok (.ireturn, 1) := by decide +kernel
theorem dX12_readsOn_0 : decode cX12_readsOn 0 = .ok (.aload_n 0, 1) := by decide +kernel
theorem dX12_readsOn_1 : decode cX12_readsOn 1 = .ok (.getfield 86, 3) := by decide +kernel
theorem dX12_readsOn_4 : decode cX12_readsOn 4 = .ok (.aload_n 0, 1) := by decide +kernel
theorem dX12_readsOn_5 : decode cX12_readsOn 5 = .ok (.getfield 83, 3) := by decide +kernel
theorem dX12_readsOn_8 : decode cX12_readsOn 8 = .ok (.if_icmp .ge 44, 3) := by decide +kernel
theorem dX12_readsOn_11 : decode cX12_readsOn 11 = .ok (.aload_n 0, 1) := by decide +kernel
theorem dX12_readsOn_12 : decode cX12_readsOn 12 = .ok (.getfield 23, 3) := by decide +kernel
theorem dX12_readsOn_15 : decode cX12_readsOn 15 = .ok (.aload_n 0, 1) := by decide +kernel
theorem dX12_readsOn_16 : decode cX12_readsOn 16 = .ok (.getfield 86, 3) := by decide +kernel
theorem dX12_readsOn_19 : decode cX12_readsOn 19 = .ok (.iaload, 1) := by decide +kernel
theorem dX12_readsOn_20 : decode cX12_readsOn 20 = .ok (.bipush 32, 2) := by decide +kernel
theorem dX12_readsOn_22 : decode cX12_readsOn 22 = .ok (.if_icmp .eq 17, 3) := by decide +kernel
theorem dX12_readsOn_25 : decode cX12_readsOn 25 = .ok (.aload_n 0, 1) := by decide +kernel
theorem dX12_readsOn_26 : decode cX12_readsOn 26 = .ok (.getfield 23, 3) := by decide +kernel
theorem dX12_readsOn_29 : decode cX12_readsOn 29 = .ok (.aload_n 0, 1) := by decide +kernel
theorem dX12_readsOn_30 : decode cX12_readsOn 30 = .ok (.getfield 86, 3) := by decide +kernel
theorem dX12_readsOn_33 : decode cX12_readsOn 33 = .ok (.iaload, 1) := by decide +kernel
theorem dX12_readsOn_34 : decode cX12_readsOn 34 = .ok (.bipush 10, 2) := by decide +kernel
theorem dX12_readsOn_36 : decode cX12_readsOn 36 = .ok (.if_icmp .ne 16, 3) := by decide +kernel
theorem dX12_readsOn_39 : decode cX12_readsOn 39 = .ok (.aload_n 0, 1) := by decide +kernel
theorem dX12_readsOn_40 : decode cX12_readsOn 40 = .ok (.dup, 1) := by decide +kernel
theorem dX12_readsOn_41 : decode cX12_readsOn 41 = .ok (.getfield 86, 3) := by decide +kernel
theorem dX12_readsOn_44 : decode cX12_readsOn 44 = .ok (.iconst 1, 1) := by decide +kernel
theorem dX12_readsOn_45 : decode cX12_readsOn 45 = .ok (.iadd, 1) := by decide +kernel
theorem dX12_readsOn_46 : decode cX12_readsOn 46 = .ok (.putfield 86, 3) := by decide +kernel
theorem dX12_readsOn_49 : decode cX12_readsOn 49 = .ok (.goto (-49), 3) := by decide +kernel
theorem dX12_readsOn_52 : decode cX12_readsOn 52 = .ok (.aload_n 0, 1) := by decide +kernel
theorem dX12_readsOn_53 : decode cX12_readsOn 53 = .ok (.aload_n 0, 1) := by decide +kernel
theorem dX12_readsOn_54 : decode cX12_readsOn 54 = .ok (.getfield 86, 3) := by decide +kernel
theorem dX12_readsOn_57 : decode cX12_readsOn 57 = .ok (.putfield 89, 3) := by decide +kernel
theorem dX12_readsOn_60 : decode cX12_readsOn 60 = .ok (.aload_n 0, 1) := by decide +kernel
theorem dX12_readsOn_61 : decode cX12_readsOn 61 = .ok (.getfield 86, 3) := by decide +kernel
theorem dX12_readsOn_64 : decode cX12_readsOn 64 = .ok (.aload_n 0, 1) := by decide +kernel
theorem dX12_readsOn_65 : decode cX12_readsOn 65 = .ok (.getfield 83, 3) := by decide +kernel
theorem dX12_readsOn_68 : decode cX12_readsOn 68 = .ok (.if_icmp .lt 9, 3) := by decide +kernel
theorem dX12_readsOn_71 : decode cX12_readsOn 71 = .ok (.aload_n 0, 1) := by decide +kernel
theorem dX12_readsOn_72 : decode cX12_readsOn 72 = .ok (.iconst 0, 1) := by decide +kernel
theorem dX12_readsOn_73 : decode cX12_readsOn 73 = .ok (.putfield 92, 3) := by decide +kernel
theorem dX12_readsOn_76 : decode cX12_readsOn 76 = .ok (.return_, 1) := by decide +kernel
theorem dX12_readsOn_77 : decode cX12_readsOn 77 = .ok (.aload_n 0, 1) := by decide +kernel
theorem dX12_readsOn_78 : decode cX12_readsOn 78 = .ok (.getfield 23, 3) := by decide +kernel
theorem dX12_readsOn_81 : decode cX12_readsOn 81 = .ok (.aload_n 0, 1) := by decide +kernel
theorem dX12_readsOn_82 : decode cX12_readsOn 82 = .ok (.getfield 86, 3) := by decide +kernel
theorem dX12_readsOn_85 : decode cX12_readsOn 85 = .ok (.iaload, 1) := by decide +kernel
theorem dX12_readsOn_86 : decode cX12_readsOn 86 = .ok (.istore_n 1, 1) := by decide +kernel
theorem dX12_readsOn_87 : decode cX12_readsOn 87 = .ok (.iload_n 1, 1) := by decide +kernel
theorem dX12_readsOn_88 : decode cX12_readsOn 88 = .ok (.invokestatic 95, 3) := by decide +kernel
theorem dX12_readsOn_91 : decode cX12_readsOn 91 = .ok (.ifCond .eq 38, 3) := by decide +kernel
theorem dX12_readsOn_94 : decode cX12_readsOn 94 = .ok (.aload_n 0, 1) := by decide +kernel
theorem dX12_readsOn_95 : decode cX12_readsOn 95 = .ok (.aload_n 0, 1) := by decide +kernel
theorem dX12_readsOn_96 : decode cX12_readsOn 96 = .ok (.getfield 86, 3) := by decide +kernel
theorem dX12_readsOn_99 : decode cX12_readsOn 99 = .ok (.invokevirtual 99, 3) := by decide +kernel
theorem dX12_readsOn_102 : decode cX12_readsOn 102 = .ok (.invokestatic 95, 3) := by decide +kernel
theorem dX12_readsOn_105 : decode cX12_readsOn 105 = .ok (.ifCond .eq 16, 3) := by decide +kernel
theorem dX12_readsOn_108 : decode cX12_readsOn 108 = .ok (.aload_n 0, 1) := by decide +kernel
theorem dX12_readsOn_109 : decode cX12_readsOn 109 = .ok (.dup, 1) := by decide +kernel
theorem dX12_readsOn_110 : decode cX12_readsOn 110 = .ok (.getfield 86, 3) := by decide +kernel
theorem dX12_readsOn_113 : decode cX12_readsOn 113 = .ok (.iconst 1, 1) := by decide +kernel
theorem dX12_readsOn_114 : decode cX12_readsOn 114 = .ok (.iadd, 1) := by decide +kernel
theorem dX12_readsOn_115 : decode cX12_readsOn 115 = .ok (.putfield 86, 3) := by decide +kernel
theorem dX12_readsOn_118 : decode cX12_readsOn 118 = .ok (.goto (-24), 3) := by decide +kernel
theorem dX12_readsOn_121 : decode cX12_readsOn 121 = .ok (.aload_n 0, 1) := by decide +kernel
theorem dX12_readsOn_122 : decode cX12_readsOn 122 = .ok (.iconst 1, 1) := by decide +kernel
theorem dX12_readsOn_123 : decode cX12_readsOn 123 = .ok (.putfield 92, 3) := by decide +kernel
theorem dX12_readsOn_126 : decode cX12_readsOn 126 = .ok (.goto 137, 3) := by decide +kernel
theorem dX12_readsOn_129 : decode cX12_readsOn 129 = .ok (.iload_n 1, 1) := by decide +kernel
theorem dX12_readsOn_130 : decode cX12_readsOn 130 = .ok (.invokestatic 103, 3) := by decide +kernel
theorem dX12_readsOn_133 : decode cX12_readsOn 133 = .ok (.ifCond .eq 104, 3) := by decide +kernel
theorem dX12_readsOn_136 : decode cX12_readsOn 136 = .ok (.aload_n 0, 1) := by decide +kernel
theorem dX12_readsOn_137 : decode cX12_readsOn 137 = .ok (.iconst 0, 1) := by decide +kernel
theorem dX12_readsOn_138 : decode cX12_readsOn 138 = .ok (.putfield 106, 3) := by decide +kernel
theorem dX12_readsOn_141 : decode cX12_readsOn 141 = .ok (.aload_n 0, 1) := by decide +kernel
theorem dX12_readsOn_142 : decode cX12_readsOn 142 = .ok (.aload_n 0, 1) := by decide +kernel
theorem dX12_readsOn_143 : decode cX12_readsOn 143 = .ok (.getfield 86, 3) := by decide +kernel
theorem dX12_readsOn_146 : decode cX12_readsOn 146 = .ok (.invokevirtual 99, 3) := by decide +kernel
theorem dX12_readsOn_149 : decode cX12_readsOn 149 = .ok (.invokestatic 103, 3) := by decide +kernel
theorem dX12_readsOn_152 : decode cX12_readsOn 152 = .ok (.ifCond .eq 60, 3) := by decide +kernel
theorem dX12_readsOn_155 : decode cX12_readsOn 155 = .ok (.aload_n 0, 1) := by decide +kernel
theorem dX12_readsOn_156 : decode cX12_readsOn 156 = .ok (.aload_n 0, 1) := by decide +kernel
theorem dX12_readsOn_157 : decode cX12_readsOn 157 = .ok (.getfield 86, 3) := by decide +kernel
theorem dX12_readsOn_160 : decode cX12_readsOn 160 = .ok (.aload_n 0, 1) := by decide +kernel
theorem dX12_readsOn_161 : decode cX12_readsOn 161 = .ok (.getfield 89, 3) := by decide +kernel
theorem dX12_readsOn_164 : decode cX12_readsOn 164 = .ok (.isub, 1) := by decide +kernel
theorem dX12_readsOn_165 : decode cX12_readsOn 165 = .ok (.iconst 3, 1) := by decide +kernel
theorem dX12_readsOn_166 : decode cX12_readsOn 166 = .ok (.if_icmp .ge 26, 3) := by decide +kernel
theorem dX12_readsOn_169 : decode cX12_readsOn 169 = .ok (.bipush 10, 2) := by decide +kernel
theorem dX12_readsOn_171 : decode cX12_readsOn 171 = .ok (.aload_n 0, 1) := by decide +kernel
theorem dX12_readsOn_172 : decode cX12_readsOn 172 = .ok (.getfield 106, 3) := by decide +kernel
theorem dX12_readsOn_175 : decode cX12_readsOn 175 = .ok (.imul, 1) := by decide +kernel
theorem dX12_readsOn_176 : decode cX12_readsOn 176 = .ok (.aload_n 0, 1) := by decide +kernel
theorem dX12_readsOn_177 : decode cX12_readsOn 177 = .ok (.getfield 23, 3) := by decide +kernel
theorem dX12_readsOn_180 : decode cX12_readsOn 180 = .ok (.aload_n 0, 1) := by decide +kernel
theorem dX12_readsOn_181 : decode cX12_readsOn 181 = .ok (.getfield 86, 3) := by decide +kernel
theorem dX12_readsOn_184 : decode cX12_readsOn 184 = .ok (.iaload, 1) := by decide +kernel
theorem dX12_readsOn_185 : decode cX12_readsOn 185 = .ok (.iadd, 1) := by decide +kernel
theorem dX12_readsOn_186 : decode cX12_readsOn 186 = .ok (.bipush 48, 2) := by decide +kernel
theorem dX12_readsOn_188 : decode cX12_readsOn 188 = .ok (.isub, 1) := by decide +kernel
theorem dX12_readsOn_189 : decode cX12_readsOn 189 = .ok (.goto 7, 3) := by decide +kernel
theorem dX12_readsOn_192 : decode cX12_readsOn 192 = .ok (.aload_n 0, 1) := by decide +kernel
theorem dX12_readsOn_193 : decode cX12_readsOn 193 = .ok (.getfield 106, 3) := by decide +kernel
theorem dX12_readsOn_196 : decode cX12_readsOn 196 = .ok (.putfield 106, 3) := by decide +kernel
theorem dX12_readsOn_199 : decode cX12_readsOn 199 = .ok (.aload_n 0, 1) := by decide +kernel
theorem dX12_readsOn_200 : decode cX12_readsOn 200 = .ok (.dup, 1) := by decide +kernel
theorem dX12_readsOn_201 : decode cX12_readsOn 201 = .ok (.getfield 86, 3) := by decide +kernel
theorem dX12_readsOn_204 : decode cX12_readsOn 204 = .ok (.iconst 1, 1) := by decide +kernel
theorem dX12_readsOn_205 : decode cX12_readsOn 205 = .ok (.iadd, 1) := by decide +kernel
theorem dX12_readsOn_206 : decode cX12_readsOn 206 = .ok (.putfield 86, 3) := by decide +kernel
theorem dX12_readsOn_209 : decode cX12_readsOn 209 = .ok (.goto (-68), 3) := by decide +kernel
theorem dX12_readsOn_212 : decode cX12_readsOn 212 = .ok (.aload_n 0, 1) := by decide +kernel
theorem dX12_readsOn_213 : decode cX12_readsOn 213 = .ok (.aload_n 0, 1) := by decide +kernel
theorem dX12_readsOn_214 : decode cX12_readsOn 214 = .ok (.getfield 86, 3) := by decide +kernel
theorem dX12_readsOn_217 : decode cX12_readsOn 217 = .ok (.aload_n 0, 1) := by decide +kernel
theorem dX12_readsOn_218 : decode cX12_readsOn 218 = .ok (.getfield 89, 3) := by decide +kernel
theorem dX12_readsOn_221 : decode cX12_readsOn 221 = .ok (.isub, 1) := by decide +kernel
theorem dX12_readsOn_222 : decode cX12_readsOn 222 = .ok (.iconst 3, 1) := by decide +kernel
theorem dX12_readsOn_223 : decode cX12_readsOn 223 = .ok (.if_icmp .le 7, 3) := by decide +kernel
theorem dX12_readsOn_226 : decode cX12_readsOn 226 = .ok (.iconst 3, 1) := by decide +kernel
theorem dX12_readsOn_227 : decode cX12_readsOn 227 = .ok (.goto 4, 3) := by decide +kernel
theorem dX12_readsOn_230 : decode cX12_readsOn 230 = .ok (.iconst 2, 1) := by decide +kernel
theorem dX12_readsOn_231 : decode cX12_readsOn 231 = .ok (.putfield 92, 3) := by decide +kernel
theorem dX12_readsOn_234 : decode cX12_readsOn 234 = .ok (.goto 29, 3) := by decide +kernel
theorem dX12_readsOn_237 : decode cX12_readsOn 237 = .ok (.aload_n 0, 1) := by decide +kernel
theorem dX12_readsOn_238 : decode cX12_readsOn 238 = .ok (.iload_n 1, 1) := by decide +kernel
theorem dX12_readsOn_239 : decode cX12_readsOn 239 = .ok (.invokestatic 109, 3) := by decide +kernel
theorem dX12_readsOn_242 : decode cX12_readsOn 242 = .ok (.ifCond .eq 7, 3) := by decide +kernel
theorem dX12_readsOn_245 : decode cX12_readsOn 245 = .ok (.iload_n 1, 1) := by decide +kernel
theorem dX12_readsOn_246 : decode cX12_readsOn 246 = .ok (.goto 4, 3) := by decide +kernel
theorem dX12_readsOn_249 : decode cX12_readsOn 249 = .ok (.iconst 3, 1) := by decide +kernel
theorem dX12_readsOn_250 : decode cX12_readsOn 250 = .ok (.putfield 92, 3) := by decide +kernel
theorem dX12_readsOn_253 : decode cX12_readsOn 253 = .ok (.aload_n 0, 1) := by decide +kernel
theorem dX12_readsOn_254 : decode cX12_readsOn 254 = .ok (.dup, 1) := by decide +kernel
theorem dX12_readsOn_255 : decode cX12_readsOn 255 = .ok (.getfield 86, 3) := by decide +kernel
theorem dX12_readsOn_258 : decode cX12_readsOn 258 = .ok (.iconst 1, 1) := by decide +kernel
theorem dX12_readsOn_259 : decode cX12_readsOn 259 = .ok (.iadd, 1) := by decide +kernel
theorem dX12_readsOn_260 : decode cX12_readsOn 260 = .ok (.putfield 86, 3) := by decide +kernel
theorem dX12_readsOn_263 : decode cX12_readsOn 263 = .ok (.return_, 1) := by decide +kernel
theorem dX12_blames_0 : decode cX12_blames 0 = .ok (.aload_n 0, 1) := by decide +kernel
theorem dX12_blames_1 : decode cX12_blames 1 = .ok (.getfield 112, 3) := by decide +kernel
theorem dX12_blames_4 : decode cX12_blames 4 = .ok (.ifCond .eq 4, 3) := by decide +kernel
theorem dX12_blames_7 : decode cX12_blames 7 = .ok (.return_, 1) := by decide +kernel
theorem dX12_blames_8 : decode cX12_blames 8 = .ok (.aload_n 0, 1) := by decide +kernel
theorem dX12_blames_9 : decode cX12_blames 9 = .ok (.aload_n 0, 1) := by decide +kernel
theorem dX12_blames_10 : decode cX12_blames 10 = .ok (.getfield 92, 3) := by decide +kernel
theorem dX12_blames_13 : decode cX12_blames 13 = .ok (.iconst 3, 1) := by decide +kernel
theorem dX12_blames_14 : decode cX12_blames 14 = .ok (.if_icmp .ne 7, 3) := by decide +kernel
theorem dX12_blames_17 : decode cX12_blames 17 = .ok (.iconst 1, 1) := by decide +kernel
theorem dX12_blames_18 : decode cX12_blames 18 = .ok (.goto 4, 3) := by decide +kernel
theorem dX12_blames_21 : decode cX12_blames 21 = .ok (.iload_n 1, 1) := by decide +kernel
theorem dX12_blames_22 : decode cX12_blames 22 = .ok (.putfield 112, 3) := by decide +kernel
theorem dX12_blames_25 : decode cX12_blames 25 = .ok (.aload_n 0, 1) := by decide +kernel
theorem dX12_blames_26 : decode cX12_blames 26 = .ok (.aload_n 0, 1) := by decide +kernel
theorem dX12_blames_27 : decode cX12_blames 27 = .ok (.getfield 89, 3) := by decide +kernel
theorem dX12_blames_30 : decode cX12_blames 30 = .ok (.putfield 115, 3) := by decide +kernel
theorem dX12_blames_33 : decode cX12_blames 33 = .ok (.return_, 1) := by decide +kernel
theorem dX12_isWord_0 : decode cX12_isWord 0 = .ok (.aload_n 0, 1) := by decide +kernel
theorem dX12_isWord_1 : decode cX12_isWord 1 = .ok (.getfield 112, 3) := by decide +kernel
theorem dX12_isWord_4 : decode cX12_isWord 4 = .ok (.ifCond .ne 31, 3) := by decide +kernel
theorem dX12_isWord_7 : decode cX12_isWord 7 = .ok (.aload_n 0, 1) := by decide +kernel
theorem dX12_isWord_8 : decode cX12_isWord 8 = .ok (.getfield 92, 3) := by decide +kernel
theorem dX12_isWord_11 : decode cX12_isWord 11 = .ok (.iconst 1, 1) := by decide +kernel
theorem dX12_isWord_12 : decode cX12_isWord 12 = .ok (.if_icmp .ne 23, 3) := by decide +kernel
theorem dX12_isWord_15 : decode cX12_isWord 15 = .ok (.aload_n 0, 1) := by decide +kernel
theorem dX12_isWord_16 : decode cX12_isWord 16 = .ok (.getfield 86, 3) := by decide +kernel
theorem dX12_isWord_19 : decode cX12_isWord 19 = .ok (.aload_n 0, 1) := by decide +kernel
theorem dX12_isWord_20 : decode cX12_isWord 20 = .ok (.getfield 89, 3) := by decide +kernel
theorem dX12_isWord_23 : decode cX12_isWord 23 = .ok (.isub, 1) := by decide +kernel
theorem dX12_isWord_24 : decode cX12_isWord 24 = .ok (.aload_n 1, 1) := by decide +kernel
theorem dX12_isWord_25 : decode cX12_isWord 25 = .ok (.invokevirtual 118, 3) := by decide +kernel
theorem dX12_isWord_28 : decode cX12_isWord 28 = .ok (.if_icmp .ne 7, 3) := by decide +kernel
theorem dX12_isWord_31 : decode cX12_isWord 31 = .ok (.iconst 1, 1) := by decide +kernel
theorem dX12_isWord_32 : decode cX12_isWord 32 = .ok (.goto 4, 3) := by decide +kernel
theorem dX12_isWord_35 : decode cX12_isWord 35 = .ok (.iconst 0, 1) := by decide +kernel
theorem dX12_isWord_36 : decode cX12_isWord 36 = .ok (.istore_n 2, 1) := by decide +kernel
theorem dX12_isWord_37 : decode cX12_isWord 37 = .ok (.iconst 0, 1) := by decide +kernel
theorem dX12_isWord_38 : decode cX12_isWord 38 = .ok (.istore_n 3, 1) := by decide +kernel
theorem dX12_isWord_39 : decode cX12_isWord 39 = .ok (.iload_n 2, 1) := by decide +kernel
theorem dX12_isWord_40 : decode cX12_isWord 40 = .ok (.ifCond .eq 42, 3) := by decide +kernel
theorem dX12_isWord_43 : decode cX12_isWord 43 = .ok (.iload_n 3, 1) := by decide +kernel
theorem dX12_isWord_44 : decode cX12_isWord 44 = .ok (.aload_n 1, 1) := by decide +kernel
theorem dX12_isWord_45 : decode cX12_isWord 45 = .ok (.invokevirtual 118, 3) := by decide +kernel
theorem dX12_isWord_48 : decode cX12_isWord 48 = .ok (.if_icmp .ge 34, 3) := by decide +kernel
theorem dX12_isWord_51 : decode cX12_isWord 51 = .ok (.aload_n 0, 1) := by decide +kernel
theorem dX12_isWord_52 : decode cX12_isWord 52 = .ok (.getfield 23, 3) := by decide +kernel
theorem dX12_isWord_55 : decode cX12_isWord 55 = .ok (.aload_n 0, 1) := by decide +kernel
theorem dX12_isWord_56 : decode cX12_isWord 56 = .ok (.getfield 89, 3) := by decide +kernel
theorem dX12_isWord_59 : decode cX12_isWord 59 = .ok (.iload_n 3, 1) := by decide +kernel
theorem dX12_isWord_60 : decode cX12_isWord 60 = .ok (.iadd, 1) := by decide +kernel
theorem dX12_isWord_61 : decode cX12_isWord 61 = .ok (.iaload, 1) := by decide +kernel
theorem dX12_isWord_62 : decode cX12_isWord 62 = .ok (.aload_n 1, 1) := by decide +kernel
theorem dX12_isWord_63 : decode cX12_isWord 63 = .ok (.iload_n 3, 1) := by decide +kernel
theorem dX12_isWord_64 : decode cX12_isWord 64 = .ok (.invokevirtual 123, 3) := by decide +kernel
theorem dX12_isWord_67 : decode cX12_isWord 67 = .ok (.if_icmp .ne 7, 3) := by decide +kernel
theorem dX12_isWord_70 : decode cX12_isWord 70 = .ok (.iconst 1, 1) := by decide +kernel
theorem dX12_isWord_71 : decode cX12_isWord 71 = .ok (.goto 4, 3) := by decide +kernel
theorem dX12_isWord_74 : decode cX12_isWord 74 = .ok (.iconst 0, 1) := by decide +kernel
theorem dX12_isWord_75 : decode cX12_isWord 75 = .ok (.istore_n 2, 1) := by decide +kernel
theorem dX12_isWord_76 : decode cX12_isWord 76 = .ok (.iinc 3 1, 3) := by decide +kernel
theorem dX12_isWord_79 : decode cX12_isWord 79 = .ok (.goto (-40), 3) := by decide +kernel
theorem dX12_isWord_82 : decode cX12_isWord 82 = .ok (.iload_n 2, 1) := by decide +kernel
theorem dX12_isWord_83 : decode cX12_isWord 83 = .ok (.ireturn, 1) := by decide +kernel
theorem dX12_took_0 : decode cX12_took 0 = .ok (.aload_n 0, 1) := by decide +kernel
theorem dX12_took_1 : decode cX12_took 1 = .ok (.aload_n 1, 1) := by decide +kernel
theorem dX12_took_2 : decode cX12_took 2 = .ok (.invokevirtual 127, 3) := by decide +kernel
theorem dX12_took_5 : decode cX12_took 5 = .ok (.istore_n 2, 1) := by decide +kernel
theorem dX12_took_6 : decode cX12_took 6 = .ok (.iload_n 2, 1) := by decide +kernel
theorem dX12_took_7 : decode cX12_took 7 = .ok (.ifCond .eq 7, 3) := by decide +kernel
theorem dX12_took_10 : decode cX12_took 10 = .ok (.aload_n 0, 1) := by decide +kernel
theorem dX12_took_11 : decode cX12_took 11 = .ok (.invokevirtual 131, 3) := by decide +kernel
theorem dX12_took_14 : decode cX12_took 14 = .ok (.iload_n 2, 1) := by decide +kernel
theorem dX12_took_15 : decode cX12_took 15 = .ok (.ireturn, 1) := by decide +kernel
theorem dX12_isSign_0 : decode cX12_isSign 0 = .ok (.aload_n 0, 1) := by decide +kernel
theorem dX12_isSign_1 : decode cX12_isSign 1 = .ok (.getfield 112, 3) := by decide +kernel
theorem dX12_isSign_4 : decode cX12_isSign 4 = .ok (.ifCond .ne 15, 3) := by decide +kernel
theorem dX12_isSign_7 : decode cX12_isSign 7 = .ok (.aload_n 0, 1) := by decide +kernel
theorem dX12_isSign_8 : decode cX12_isSign 8 = .ok (.getfield 92, 3) := by decide +kernel
theorem dX12_isSign_11 : decode cX12_isSign 11 = .ok (.iload_n 1, 1) := by decide +kernel
theorem dX12_isSign_12 : decode cX12_isSign 12 = .ok (.if_icmp .ne 7, 3) := by decide +kernel
theorem dX12_isSign_15 : decode cX12_isSign 15 = .ok (.iconst 1, 1) := by decide +kernel
theorem dX12_isSign_16 : decode cX12_isSign 16 = .ok (.goto 4, 3) := by decide +kernel
theorem dX12_isSign_19 : decode cX12_isSign 19 = .ok (.iconst 0, 1) := by decide +kernel
theorem dX12_isSign_20 : decode cX12_isSign 20 = .ok (.ireturn, 1) := by decide +kernel
theorem dX12_mustSign_0 : decode cX12_mustSign 0 = .ok (.aload_n 0, 1) := by decide +kernel
theorem dX12_mustSign_1 : decode cX12_mustSign 1 = .ok (.getfield 92, 3) := by decide +kernel
theorem dX12_mustSign_4 : decode cX12_mustSign 4 = .ok (.iload_n 1, 1) := by decide +kernel
theorem dX12_mustSign_5 : decode cX12_mustSign 5 = .ok (.if_icmp .eq 8, 3) := by decide +kernel
theorem dX12_mustSign_8 : decode cX12_mustSign 8 = .ok (.aload_n 0, 1) := by decide +kernel
theorem dX12_mustSign_9 : decode cX12_mustSign 9 = .ok (.iconst 2, 1) := by decide +kernel
theorem dX12_mustSign_10 : decode cX12_mustSign 10 = .ok (.invokevirtual 134, 3) := by decide +kernel
theorem dX12_mustSign_13 : decode cX12_mustSign 13 = .ok (.aload_n 0, 1) := by decide +kernel
theorem dX12_mustSign_14 : decode cX12_mustSign 14 = .ok (.getfield 112, 3) := by decide +kernel
theorem dX12_mustSign_17 : decode cX12_mustSign 17 = .ok (.ifCond .ne 7, 3) := by decide +kernel
theorem dX12_mustSign_20 : decode cX12_mustSign 20 = .ok (.aload_n 0, 1) := by decide +kernel
theorem dX12_mustSign_21 : decode cX12_mustSign 21 = .ok (.invokevirtual 131, 3) := by decide +kernel
theorem dX12_mustSign_24 : decode cX12_mustSign 24 = .ok (.return_, 1) := by decide +kernel
theorem dX12_number_0 : decode cX12_number 0 = .ok (.aload_n 0, 1) := by decide +kernel
theorem dX12_number_1 : decode cX12_number 1 = .ok (.getfield 92, 3) := by decide +kernel
theorem dX12_number_4 : decode cX12_number 4 = .ok (.iconst 2, 1) := by decide +kernel
theorem dX12_number_5 : decode cX12_number 5 = .ok (.if_icmp .eq 11, 3) := by decide +kernel
theorem dX12_number_8 : decode cX12_number 8 = .ok (.aload_n 0, 1) := by decide +kernel
theorem dX12_number_9 : decode cX12_number 9 = .ok (.iconst 2, 1) := by decide +kernel
theorem dX12_number_10 : decode cX12_number 10 = .ok (.invokevirtual 134, 3) := by decide +kernel
theorem dX12_number_13 : decode cX12_number 13 = .ok (.goto 23, 3) := by decide +kernel
theorem dX12_number_16 : decode cX12_number 16 = .ok (.aload_n 0, 1) := by decide +kernel
theorem dX12_number_17 : decode cX12_number 17 = .ok (.getfield 106, 3) := by decide +kernel
theorem dX12_number_20 : decode cX12_number 20 = .ok (.i2l, 1) := by decide +kernel
theorem dX12_number_21 : decode cX12_number 21 = .ok (.iload_n 1, 1) := by decide +kernel
theorem dX12_number_22 : decode cX12_number 22 = .ok (.i2l, 1) := by decide +kernel
theorem dX12_number_23 : decode cX12_number 23 = .ok (.iload_n 2, 1) := by decide +kernel
theorem dX12_number_24 : decode cX12_number 24 = .ok (.i2l, 1) := by decide +kernel
theorem dX12_number_25 : decode cX12_number 25 = .ok (.invokestatic 138, 3) := by decide +kernel
theorem dX12_number_28 : decode cX12_number 28 = .ok (.ifCond .ne 8, 3) := by decide +kernel
theorem dX12_number_31 : decode cX12_number 31 = .ok (.aload_n 0, 1) := by decide +kernel
theorem dX12_number_32 : decode cX12_number 32 = .ok (.iconst 3, 1) := by decide +kernel
theorem dX12_number_33 : decode cX12_number 33 = .ok (.invokevirtual 134, 3) := by decide +kernel
theorem dX12_number_36 : decode cX12_number 36 = .ok (.aload_n 0, 1) := by decide +kernel
theorem dX12_number_37 : decode cX12_number 37 = .ok (.getfield 106, 3) := by decide +kernel
theorem dX12_number_40 : decode cX12_number 40 = .ok (.istore_n 3, 1) := by decide +kernel
theorem dX12_number_41 : decode cX12_number 41 = .ok (.aload_n 0, 1) := by decide +kernel
theorem dX12_number_42 : decode cX12_number 42 = .ok (.getfield 112, 3) := by decide +kernel
theorem dX12_number_45 : decode cX12_number 45 = .ok (.ifCond .ne 7, 3) := by decide +kernel
theorem dX12_number_48 : decode cX12_number 48 = .ok (.aload_n 0, 1) := by decide +kernel
theorem dX12_number_49 : decode cX12_number 49 = .ok (.invokevirtual 131, 3) := by decide +kernel
theorem dX12_number_52 : decode cX12_number 52 = .ok (.aload_n 0, 1) := by decide +kernel
theorem dX12_number_53 : decode cX12_number 53 = .ok (.getfield 112, 3) := by decide +kernel
theorem dX12_number_56 : decode cX12_number 56 = .ok (.ifCond .ne 7, 3) := by decide +kernel
theorem dX12_number_59 : decode cX12_number 59 = .ok (.iload_n 3, 1) := by decide +kernel
theorem dX12_number_60 : decode cX12_number 60 = .ok (.goto 4, 3) := by decide +kernel
theorem dX12_number_63 : decode cX12_number 63 = .ok (.iload_n 1, 1) := by decide +kernel
theorem dX12_number_64 : decode cX12_number 64 = .ok (.ireturn, 1) := by decide +kernel
theorem dX12_mustWord_0 : decode cX12_mustWord 0 = .ok (.aload_n 0, 1) := by decide +kernel
theorem dX12_mustWord_1 : decode cX12_mustWord 1 = .ok (.aload_n 1, 1) := by decide +kernel
theorem dX12_mustWord_2 : decode cX12_mustWord 2 = .ok (.invokevirtual 142, 3) := by decide +kernel
theorem dX12_mustWord_5 : decode cX12_mustWord 5 = .ok (.ifCond .ne 8, 3) := by decide +kernel
theorem dX12_mustWord_8 : decode cX12_mustWord 8 = .ok (.aload_n 0, 1) := by decide +kernel
theorem dX12_mustWord_9 : decode cX12_mustWord 9 = .ok (.iconst 2, 1) := by decide +kernel
theorem dX12_mustWord_10 : decode cX12_mustWord 10 = .ok (.invokevirtual 134, 3) := by decide +kernel
theorem dX12_mustWord_13 : decode cX12_mustWord 13 = .ok (.return_, 1) := by decide +kernel
theorem dX12_laysStep_0 : decode cX12_laysStep 0 = .ok (.aload_n 0, 1) := by decide +kernel
theorem dX12_laysStep_1 : decode cX12_laysStep 1 = .ok (.getfield 112, 3) := by decide +kernel
theorem dX12_laysStep_4 : decode cX12_laysStep 4 = .ok (.ifCond .eq 4, 3) := by decide +kernel
theorem dX12_laysStep_7 : decode cX12_laysStep 7 = .ok (.return_, 1) := by decide +kernel
theorem dX12_laysStep_8 : decode cX12_laysStep 8 = .ok (.aload_n 0, 1) := by decide +kernel
theorem dX12_laysStep_9 : decode cX12_laysStep 9 = .ok (.getfield 13, 3) := by decide +kernel
theorem dX12_laysStep_12 : decode cX12_laysStep 12 = .ok (.aload_n 0, 1) := by decide +kernel
theorem dX12_laysStep_13 : decode cX12_laysStep 13 = .ok (.getfield 145, 3) := by decide +kernel
theorem dX12_laysStep_16 : decode cX12_laysStep 16 = .ok (.aload_n 0, 1) := by decide +kernel
theorem dX12_laysStep_17 : decode cX12_laysStep 17 = .ok (.getfield 13, 3) := by decide +kernel
theorem dX12_laysStep_20 : decode cX12_laysStep 20 = .ok (.aload_n 0, 1) := by decide +kernel
theorem dX12_laysStep_21 : decode cX12_laysStep 21 = .ok (.getfield 148, 3) := by decide +kernel
theorem dX12_laysStep_24 : decode cX12_laysStep 24 = .ok (.iaload, 1) := by decide +kernel
theorem dX12_laysStep_25 : decode cX12_laysStep 25 = .ok (.iadd, 1) := by decide +kernel
theorem dX12_laysStep_26 : decode cX12_laysStep 26 = .ok (.iload_n 1, 1) := by decide +kernel
theorem dX12_laysStep_27 : decode cX12_laysStep 27 = .ok (.iastore, 1) := by decide +kernel
theorem dX12_laysStep_28 : decode cX12_laysStep 28 = .ok (.aload_n 0, 1) := by decide +kernel
theorem dX12_laysStep_29 : decode cX12_laysStep 29 = .ok (.getfield 13, 3) := by decide +kernel
theorem dX12_laysStep_32 : decode cX12_laysStep 32 = .ok (.aload_n 0, 1) := by decide +kernel
theorem dX12_laysStep_33 : decode cX12_laysStep 33 = .ok (.getfield 148, 3) := by decide +kernel
theorem dX12_laysStep_36 : decode cX12_laysStep 36 = .ok (.dup2, 1) := by decide +kernel
theorem dX12_laysStep_37 : decode cX12_laysStep 37 = .ok (.iaload, 1) := by decide +kernel
theorem dX12_laysStep_38 : decode cX12_laysStep 38 = .ok (.iconst 1, 1) := by decide +kernel
theorem dX12_laysStep_39 : decode cX12_laysStep 39 = .ok (.iadd, 1) := by decide +kernel
theorem dX12_laysStep_40 : decode cX12_laysStep 40 = .ok (.iastore, 1) := by decide +kernel
theorem dX12_laysStep_41 : decode cX12_laysStep 41 = .ok (.return_, 1) := by decide +kernel
theorem dX12_beginsLaw_0 : decode cX12_beginsLaw 0 = .ok (.aload_n 0, 1) := by decide +kernel
theorem dX12_beginsLaw_1 : decode cX12_beginsLaw 1 = .ok (.iload_n 1, 1) := by decide +kernel
theorem dX12_beginsLaw_2 : decode cX12_beginsLaw 2 = .ok (.putfield 148, 3) := by decide +kernel
theorem dX12_beginsLaw_5 : decode cX12_beginsLaw 5 = .ok (.aload_n 0, 1) := by decide +kernel
theorem dX12_beginsLaw_6 : decode cX12_beginsLaw 6 = .ok (.iload_n 2, 1) := by decide +kernel
theorem dX12_beginsLaw_7 : decode cX12_beginsLaw 7 = .ok (.putfield 145, 3) := by decide +kernel
theorem dX12_beginsLaw_10 : decode cX12_beginsLaw 10 = .ok (.aload_n 0, 1) := by decide +kernel
theorem dX12_beginsLaw_11 : decode cX12_beginsLaw 11 = .ok (.getfield 13, 3) := by decide +kernel
theorem dX12_beginsLaw_14 : decode cX12_beginsLaw 14 = .ok (.iload_n 1, 1) := by decide +kernel
theorem dX12_beginsLaw_15 : decode cX12_beginsLaw 15 = .ok (.iconst 0, 1) := by decide +kernel
theorem dX12_beginsLaw_16 : decode cX12_beginsLaw 16 = .ok (.iastore, 1) := by decide +kernel
theorem dX12_beginsLaw_17 : decode cX12_beginsLaw 17 = .ok (.aload_n 0, 1) := by decide +kernel
theorem dX12_beginsLaw_18 : decode cX12_beginsLaw 18 = .ok (.bipush 58, 2) := by decide +kernel
theorem dX12_beginsLaw_20 : decode cX12_beginsLaw 20 = .ok (.invokevirtual 151, 3) := by decide +kernel
theorem dX12_beginsLaw_23 : decode cX12_beginsLaw 23 = .ok (.return_, 1) := by decide +kernel
theorem dX12_goesIn_0 : decode cX12_goesIn 0 = .ok (.aload_n 0, 1) := by decide +kernel
theorem dX12_goesIn_1 : decode cX12_goesIn 1 = .ok (.getfield 154, 3) := by decide +kernel
theorem dX12_goesIn_4 : decode cX12_goesIn 4 = .ok (.bipush 6, 2) := by decide +kernel
theorem dX12_goesIn_6 : decode cX12_goesIn 6 = .ok (.if_icmp .ne 8, 3) := by decide +kernel
theorem dX12_goesIn_9 : decode cX12_goesIn 9 = .ok (.aload_n 0, 1) := by decide +kernel
theorem dX12_goesIn_10 : decode cX12_goesIn 10 = .ok (.iconst 4, 1) := by decide +kernel
theorem dX12_goesIn_11 : decode cX12_goesIn 11 = .ok (.invokevirtual 134, 3) := by decide +kernel
theorem dX12_goesIn_14 : decode cX12_goesIn 14 = .ok (.aload_n 0, 1) := by decide +kernel
theorem dX12_goesIn_15 : decode cX12_goesIn 15 = .ok (.dup, 1) := by decide +kernel
theorem dX12_goesIn_16 : decode cX12_goesIn 16 = .ok (.getfield 154, 3) := by decide +kernel
theorem dX12_goesIn_19 : decode cX12_goesIn 19 = .ok (.iconst 1, 1) := by decide +kernel
theorem dX12_goesIn_20 : decode cX12_goesIn 20 = .ok (.iadd, 1) := by decide +kernel
theorem dX12_goesIn_21 : decode cX12_goesIn 21 = .ok (.putfield 154, 3) := by decide +kernel
theorem dX12_goesIn_24 : decode cX12_goesIn 24 = .ok (.aload_n 0, 1) := by decide +kernel
theorem dX12_goesIn_25 : decode cX12_goesIn 25 = .ok (.getfield 112, 3) := by decide +kernel
theorem dX12_goesIn_28 : decode cX12_goesIn 28 = .ok (.ifCond .ne 7, 3) := by decide +kernel
theorem dX12_goesIn_31 : decode cX12_goesIn 31 = .ok (.aload_n 0, 1) := by decide +kernel
theorem dX12_goesIn_32 : decode cX12_goesIn 32 = .ok (.invokevirtual 131, 3) := by decide +kernel
theorem dX12_goesIn_35 : decode cX12_goesIn 35 = .ok (.return_, 1) := by decide +kernel
theorem dX12_readTruth_0 : decode cX12_readTruth 0 = .ok (.aload_n 0, 1) := by decide +kernel
theorem dX12_readTruth_1 : decode cX12_readTruth 1 = .ok (.invokevirtual 157, 3) := by decide +kernel
theorem dX12_readTruth_4 : decode cX12_readTruth 4 = .ok (.aload_n 0, 1) := by decide +kernel
theorem dX12_readTruth_5 : decode cX12_readTruth 5 = .ok (.ldc 160, 2) := by decide +kernel
theorem dX12_readTruth_7 : decode cX12_readTruth 7 = .ok (.invokevirtual 142, 3) := by decide +kernel
theorem dX12_readTruth_10 : decode cX12_readTruth 10 = .ok (.ifCond .eq 16, 3) := by decide +kernel
theorem dX12_readTruth_13 : decode cX12_readTruth 13 = .ok (.aload_n 0, 1) := by decide +kernel
theorem dX12_readTruth_14 : decode cX12_readTruth 14 = .ok (.invokevirtual 157, 3) := by decide +kernel
theorem dX12_readTruth_17 : decode cX12_readTruth 17 = .ok (.aload_n 0, 1) := by decide +kernel
theorem dX12_readTruth_18 : decode cX12_readTruth 18 = .ok (.bipush 17, 2) := by decide +kernel
theorem dX12_readTruth_20 : decode cX12_readTruth 20 = .ok (.invokevirtual 162, 3) := by decide +kernel
theorem dX12_readTruth_23 : decode cX12_readTruth 23 = .ok (.goto (-19), 3) := by decide +kernel
theorem dX12_readTruth_26 : decode cX12_readTruth 26 = .ok (.return_, 1) := by decide +kernel
theorem dX12_readBoth_0 : decode cX12_readBoth 0 = .ok (.aload_n 0, 1) := by decide +kernel
theorem dX12_readBoth_1 : decode cX12_readBoth 1 = .ok (.invokevirtual 165, 3) := by decide +kernel
theorem dX12_readBoth_4 : decode cX12_readBoth 4 = .ok (.aload_n 0, 1) := by decide +kernel
theorem dX12_readBoth_5 : decode cX12_readBoth 5 = .ok (.ldc 168, 2) := by decide +kernel
theorem dX12_readBoth_7 : decode cX12_readBoth 7 = .ok (.invokevirtual 142, 3) := by decide +kernel
theorem dX12_readBoth_10 : decode cX12_readBoth 10 = .ok (.ifCond .eq 16, 3) := by decide +kernel
theorem dX12_readBoth_13 : decode cX12_readBoth 13 = .ok (.aload_n 0, 1) := by decide +kernel
theorem dX12_readBoth_14 : decode cX12_readBoth 14 = .ok (.invokevirtual 165, 3) := by decide +kernel
theorem dX12_readBoth_17 : decode cX12_readBoth 17 = .ok (.aload_n 0, 1) := by decide +kernel
theorem dX12_readBoth_18 : decode cX12_readBoth 18 = .ok (.bipush 16, 2) := by decide +kernel
theorem dX12_readBoth_20 : decode cX12_readBoth 20 = .ok (.invokevirtual 162, 3) := by decide +kernel
theorem dX12_readBoth_23 : decode cX12_readBoth 23 = .ok (.goto (-19), 3) := by decide +kernel
theorem dX12_readBoth_26 : decode cX12_readBoth 26 = .ok (.return_, 1) := by decide +kernel
theorem dX12_readUnit_0 : decode cX12_readUnit 0 = .ok (.aload_n 0, 1) := by decide +kernel
theorem dX12_readUnit_1 : decode cX12_readUnit 1 = .ok (.getfield 112, 3) := by decide +kernel
theorem dX12_readUnit_4 : decode cX12_readUnit 4 = .ok (.ifCond .eq 4, 3) := by decide +kernel
theorem dX12_readUnit_7 : decode cX12_readUnit 7 = .ok (.return_, 1) := by decide +kernel
theorem dX12_readUnit_8 : decode cX12_readUnit 8 = .ok (.aload_n 0, 1) := by decide +kernel
theorem dX12_readUnit_9 : decode cX12_readUnit 9 = .ok (.ldc 170, 2) := by decide +kernel
theorem dX12_readUnit_11 : decode cX12_readUnit 11 = .ok (.invokevirtual 127, 3) := by decide +kernel
theorem dX12_readUnit_14 : decode cX12_readUnit 14 = .ok (.ifCond .eq 30, 3) := by decide +kernel
theorem dX12_readUnit_17 : decode cX12_readUnit 17 = .ok (.aload_n 0, 1) := by decide +kernel
theorem dX12_readUnit_18 : decode cX12_readUnit 18 = .ok (.invokevirtual 172, 3) := by decide +kernel
theorem dX12_readUnit_21 : decode cX12_readUnit 21 = .ok (.aload_n 0, 1) := by decide +kernel
theorem dX12_readUnit_22 : decode cX12_readUnit 22 = .ok (.invokevirtual 165, 3) := by decide +kernel
theorem dX12_readUnit_25 : decode cX12_readUnit 25 = .ok (.aload_n 0, 1) := by decide +kernel
theorem dX12_readUnit_26 : decode cX12_readUnit 26 = .ok (.bipush 18, 2) := by decide +kernel
theorem dX12_readUnit_28 : decode cX12_readUnit 28 = .ok (.invokevirtual 162, 3) := by decide +kernel
theorem dX12_readUnit_31 : decode cX12_readUnit 31 = .ok (.aload_n 0, 1) := by decide +kernel
theorem dX12_readUnit_32 : decode cX12_readUnit 32 = .ok (.dup, 1) := by decide +kernel
theorem dX12_readUnit_33 : decode cX12_readUnit 33 = .ok (.getfield 154, 3) := by decide +kernel
theorem dX12_readUnit_36 : decode cX12_readUnit 36 = .ok (.iconst 1, 1) := by decide +kernel
theorem dX12_readUnit_37 : decode cX12_readUnit 37 = .ok (.isub, 1) := by decide +kernel
theorem dX12_readUnit_38 : decode cX12_readUnit 38 = .ok (.putfield 154, 3) := by decide +kernel
theorem dX12_readUnit_41 : decode cX12_readUnit 41 = .ok (.goto 114, 3) := by decide +kernel
theorem dX12_readUnit_44 : decode cX12_readUnit 44 = .ok (.aload_n 0, 1) := by decide +kernel
theorem dX12_readUnit_45 : decode cX12_readUnit 45 = .ok (.bipush 91, 2) := by decide +kernel
theorem dX12_readUnit_47 : decode cX12_readUnit 47 = .ok (.invokevirtual 175, 3) := by decide +kernel
theorem dX12_readUnit_50 : decode cX12_readUnit 50 = .ok (.ifCond .eq 30, 3) := by decide +kernel
theorem dX12_readUnit_53 : decode cX12_readUnit 53 = .ok (.aload_n 0, 1) := by decide +kernel
theorem dX12_readUnit_54 : decode cX12_readUnit 54 = .ok (.invokevirtual 172, 3) := by decide +kernel
theorem dX12_readUnit_57 : decode cX12_readUnit 57 = .ok (.aload_n 0, 1) := by decide +kernel
theorem dX12_readUnit_58 : decode cX12_readUnit 58 = .ok (.invokevirtual 178, 3) := by decide +kernel
theorem dX12_readUnit_61 : decode cX12_readUnit 61 = .ok (.aload_n 0, 1) := by decide +kernel
theorem dX12_readUnit_62 : decode cX12_readUnit 62 = .ok (.bipush 93, 2) := by decide +kernel
theorem dX12_readUnit_64 : decode cX12_readUnit 64 = .ok (.invokevirtual 151, 3) := by decide +kernel
theorem dX12_readUnit_67 : decode cX12_readUnit 67 = .ok (.aload_n 0, 1) := by decide +kernel
theorem dX12_readUnit_68 : decode cX12_readUnit 68 = .ok (.dup, 1) := by decide +kernel
theorem dX12_readUnit_69 : decode cX12_readUnit 69 = .ok (.getfield 154, 3) := by decide +kernel
theorem dX12_readUnit_72 : decode cX12_readUnit 72 = .ok (.iconst 1, 1) := by decide +kernel
theorem dX12_readUnit_73 : decode cX12_readUnit 73 = .ok (.isub, 1) := by decide +kernel
theorem dX12_readUnit_74 : decode cX12_readUnit 74 = .ok (.putfield 154, 3) := by decide +kernel
theorem dX12_readUnit_77 : decode cX12_readUnit 77 = .ok (.goto 78, 3) := by decide +kernel
theorem dX12_readUnit_80 : decode cX12_readUnit 80 = .ok (.aload_n 0, 1) := by decide +kernel
theorem dX12_readUnit_81 : decode cX12_readUnit 81 = .ok (.invokevirtual 181, 3) := by decide +kernel
theorem dX12_readUnit_84 : decode cX12_readUnit 84 = .ok (.aload_n 0, 1) := by decide +kernel
theorem dX12_readUnit_85 : decode cX12_readUnit 85 = .ok (.getfield 92, 3) := by decide +kernel
theorem dX12_readUnit_88 : decode cX12_readUnit 88 = .ok (.istore_n 1, 1) := by decide +kernel
theorem dX12_readUnit_89 : decode cX12_readUnit 89 = .ok (.iload_n 1, 1) := by decide +kernel
theorem dX12_readUnit_90 : decode cX12_readUnit 90 = .ok (.bipush 61, 2) := by decide +kernel
theorem dX12_readUnit_92 : decode cX12_readUnit 92 = .ok (.if_icmp .eq 20, 3) := by decide +kernel
theorem dX12_readUnit_95 : decode cX12_readUnit 95 = .ok (.iload_n 1, 1) := by decide +kernel
theorem dX12_readUnit_96 : decode cX12_readUnit 96 = .ok (.bipush 60, 2) := by decide +kernel
theorem dX12_readUnit_98 : decode cX12_readUnit 98 = .ok (.if_icmp .eq 14, 3) := by decide +kernel
theorem dX12_readUnit_101 : decode cX12_readUnit 101 = .ok (.iload_n 1, 1) := by decide +kernel
theorem dX12_readUnit_102 : decode cX12_readUnit 102 = .ok (.bipush 62, 2) := by decide +kernel
theorem dX12_readUnit_104 : decode cX12_readUnit 104 = .ok (.if_icmp .eq 8, 3) := by decide +kernel
theorem dX12_readUnit_107 : decode cX12_readUnit 107 = .ok (.aload_n 0, 1) := by decide +kernel
theorem dX12_readUnit_108 : decode cX12_readUnit 108 = .ok (.iconst 2, 1) := by decide +kernel
theorem dX12_readUnit_109 : decode cX12_readUnit 109 = .ok (.invokevirtual 134, 3) := by decide +kernel
theorem dX12_readUnit_112 : decode cX12_readUnit 112 = .ok (.aload_n 0, 1) := by decide +kernel
theorem dX12_readUnit_113 : decode cX12_readUnit 113 = .ok (.getfield 112, 3) := by decide +kernel
theorem dX12_readUnit_116 : decode cX12_readUnit 116 = .ok (.ifCond .ne 7, 3) := by decide +kernel
theorem dX12_readUnit_119 : decode cX12_readUnit 119 = .ok (.aload_n 0, 1) := by decide +kernel
theorem dX12_readUnit_120 : decode cX12_readUnit 120 = .ok (.invokevirtual 131, 3) := by decide +kernel
theorem dX12_readUnit_123 : decode cX12_readUnit 123 = .ok (.aload_n 0, 1) := by decide +kernel
theorem dX12_readUnit_124 : decode cX12_readUnit 124 = .ok (.invokevirtual 181, 3) := by decide +kernel
theorem dX12_readUnit_127 : decode cX12_readUnit 127 = .ok (.aload_n 0, 1) := by decide +kernel
theorem dX12_readUnit_128 : decode cX12_readUnit 128 = .ok (.iload_n 1, 1) := by decide +kernel
theorem dX12_readUnit_129 : decode cX12_readUnit 129 = .ok (.bipush 61, 2) := by decide +kernel
theorem dX12_readUnit_131 : decode cX12_readUnit 131 = .ok (.if_icmp .ne 8, 3) := by decide +kernel
theorem dX12_readUnit_134 : decode cX12_readUnit 134 = .ok (.bipush 13, 2) := by decide +kernel
theorem dX12_readUnit_136 : decode cX12_readUnit 136 = .ok (.goto 16, 3) := by decide +kernel
theorem dX12_readUnit_139 : decode cX12_readUnit 139 = .ok (.iload_n 1, 1) := by decide +kernel
theorem dX12_readUnit_140 : decode cX12_readUnit 140 = .ok (.bipush 60, 2) := by decide +kernel
theorem dX12_readUnit_142 : decode cX12_readUnit 142 = .ok (.if_icmp .ne 8, 3) := by decide +kernel
theorem dX12_readUnit_145 : decode cX12_readUnit 145 = .ok (.bipush 14, 2) := by decide +kernel
theorem dX12_readUnit_147 : decode cX12_readUnit 147 = .ok (.goto 5, 3) := by decide +kernel
theorem dX12_readUnit_150 : decode cX12_readUnit 150 = .ok (.bipush 15, 2) := by decide +kernel
theorem dX12_readUnit_152 : decode cX12_readUnit 152 = .ok (.invokevirtual 162, 3) := by decide +kernel
theorem dX12_readUnit_155 : decode cX12_readUnit 155 = .ok (.return_, 1) := by decide +kernel
theorem dX12_readSum_0 : decode cX12_readSum 0 = .ok (.aload_n 0, 1) := by decide +kernel
theorem dX12_readSum_1 : decode cX12_readSum 1 = .ok (.invokevirtual 184, 3) := by decide +kernel
theorem dX12_readSum_4 : decode cX12_readSum 4 = .ok (.aload_n 0, 1) := by decide +kernel
theorem dX12_readSum_5 : decode cX12_readSum 5 = .ok (.bipush 43, 2) := by decide +kernel
theorem dX12_readSum_7 : decode cX12_readSum 7 = .ok (.invokevirtual 175, 3) := by decide +kernel
theorem dX12_readSum_10 : decode cX12_readSum 10 = .ok (.ifCond .ne 12, 3) := by decide +kernel
theorem dX12_readSum_13 : decode cX12_readSum 13 = .ok (.aload_n 0, 1) := by decide +kernel
theorem dX12_readSum_14 : decode cX12_readSum 14 = .ok (.bipush 45, 2) := by decide +kernel
theorem dX12_readSum_16 : decode cX12_readSum 16 = .ok (.invokevirtual 175, 3) := by decide +kernel
theorem dX12_readSum_19 : decode cX12_readSum 19 = .ok (.ifCond .eq 36, 3) := by decide +kernel
theorem dX12_readSum_22 : decode cX12_readSum 22 = .ok (.aload_n 0, 1) := by decide +kernel
theorem dX12_readSum_23 : decode cX12_readSum 23 = .ok (.getfield 92, 3) := by decide +kernel
theorem dX12_readSum_26 : decode cX12_readSum 26 = .ok (.istore_n 1, 1) := by decide +kernel
theorem dX12_readSum_27 : decode cX12_readSum 27 = .ok (.aload_n 0, 1) := by decide +kernel
theorem dX12_readSum_28 : decode cX12_readSum 28 = .ok (.invokevirtual 131, 3) := by decide +kernel
theorem dX12_readSum_31 : decode cX12_readSum 31 = .ok (.aload_n 0, 1) := by decide +kernel
theorem dX12_readSum_32 : decode cX12_readSum 32 = .ok (.invokevirtual 184, 3) := by decide +kernel
theorem dX12_readSum_35 : decode cX12_readSum 35 = .ok (.aload_n 0, 1) := by decide +kernel
theorem dX12_readSum_36 : decode cX12_readSum 36 = .ok (.iload_n 1, 1) := by decide +kernel
theorem dX12_readSum_37 : decode cX12_readSum 37 = .ok (.bipush 43, 2) := by decide +kernel
theorem dX12_readSum_39 : decode cX12_readSum 39 = .ok (.if_icmp .ne 8, 3) := by decide +kernel
theorem dX12_readSum_42 : decode cX12_readSum 42 = .ok (.bipush 10, 2) := by decide +kernel
theorem dX12_readSum_44 : decode cX12_readSum 44 = .ok (.goto 5, 3) := by decide +kernel
theorem dX12_readSum_47 : decode cX12_readSum 47 = .ok (.bipush 11, 2) := by decide +kernel
theorem dX12_readSum_49 : decode cX12_readSum 49 = .ok (.invokevirtual 162, 3) := by decide +kernel
theorem dX12_readSum_52 : decode cX12_readSum 52 = .ok (.goto (-48), 3) := by decide +kernel
theorem dX12_readSum_55 : decode cX12_readSum 55 = .ok (.return_, 1) := by decide +kernel
theorem dX12_readTerm_0 : decode cX12_readTerm 0 = .ok (.aload_n 0, 1) := by decide +kernel
theorem dX12_readTerm_1 : decode cX12_readTerm 1 = .ok (.invokevirtual 187, 3) := by decide +kernel
theorem dX12_readTerm_4 : decode cX12_readTerm 4 = .ok (.aload_n 0, 1) := by decide +kernel
theorem dX12_readTerm_5 : decode cX12_readTerm 5 = .ok (.bipush 42, 2) := by decide +kernel
theorem dX12_readTerm_7 : decode cX12_readTerm 7 = .ok (.invokevirtual 175, 3) := by decide +kernel
theorem dX12_readTerm_10 : decode cX12_readTerm 10 = .ok (.ifCond .eq 20, 3) := by decide +kernel
theorem dX12_readTerm_13 : decode cX12_readTerm 13 = .ok (.aload_n 0, 1) := by decide +kernel
theorem dX12_readTerm_14 : decode cX12_readTerm 14 = .ok (.invokevirtual 131, 3) := by decide +kernel
theorem dX12_readTerm_17 : decode cX12_readTerm 17 = .ok (.aload_n 0, 1) := by decide +kernel
theorem dX12_readTerm_18 : decode cX12_readTerm 18 = .ok (.invokevirtual 187, 3) := by decide +kernel
theorem dX12_readTerm_21 : decode cX12_readTerm 21 = .ok (.aload_n 0, 1) := by decide +kernel
theorem dX12_readTerm_22 : decode cX12_readTerm 22 = .ok (.bipush 12, 2) := by decide +kernel
theorem dX12_readTerm_24 : decode cX12_readTerm 24 = .ok (.invokevirtual 162, 3) := by decide +kernel
theorem dX12_readTerm_27 : decode cX12_readTerm 27 = .ok (.goto (-23), 3) := by decide +kernel
theorem dX12_readTerm_30 : decode cX12_readTerm 30 = .ok (.return_, 1) := by decide +kernel
theorem dX12_lawWord_0 : decode cX12_lawWord 0 = .ok (.aload_n 0, 1) := by decide +kernel
theorem dX12_lawWord_1 : decode cX12_lawWord 1 = .ok (.ldc 190, 2) := by decide +kernel
theorem dX12_lawWord_3 : decode cX12_lawWord 3 = .ok (.invokevirtual 142, 3) := by decide +kernel
theorem dX12_lawWord_6 : decode cX12_lawWord 6 = .ok (.ifCond .eq 5, 3) := by decide +kernel
theorem dX12_lawWord_9 : decode cX12_lawWord 9 = .ok (.iconst 0, 1) := by decide +kernel
theorem dX12_lawWord_10 : decode cX12_lawWord 10 = .ok (.ireturn, 1) := by decide +kernel
theorem dX12_lawWord_11 : decode cX12_lawWord 11 = .ok (.aload_n 0, 1) := by decide +kernel
theorem dX12_lawWord_12 : decode cX12_lawWord 12 = .ok (.ldc 192, 2) := by decide +kernel
theorem dX12_lawWord_14 : decode cX12_lawWord 14 = .ok (.invokevirtual 142, 3) := by decide +kernel
theorem dX12_lawWord_17 : decode cX12_lawWord 17 = .ok (.ifCond .eq 5, 3) := by decide +kernel
theorem dX12_lawWord_20 : decode cX12_lawWord 20 = .ok (.iconst 1, 1) := by decide +kernel
theorem dX12_lawWord_21 : decode cX12_lawWord 21 = .ok (.ireturn, 1) := by decide +kernel
theorem dX12_lawWord_22 : decode cX12_lawWord 22 = .ok (.aload_n 0, 1) := by decide +kernel
theorem dX12_lawWord_23 : decode cX12_lawWord 23 = .ok (.ldc 194, 2) := by decide +kernel
theorem dX12_lawWord_25 : decode cX12_lawWord 25 = .ok (.invokevirtual 142, 3) := by decide +kernel
theorem dX12_lawWord_28 : decode cX12_lawWord 28 = .ok (.ifCond .eq 5, 3) := by decide +kernel
theorem dX12_lawWord_31 : decode cX12_lawWord 31 = .ok (.iconst 2, 1) := by decide +kernel
theorem dX12_lawWord_32 : decode cX12_lawWord 32 = .ok (.ireturn, 1) := by decide +kernel
theorem dX12_lawWord_33 : decode cX12_lawWord 33 = .ok (.aload_n 0, 1) := by decide +kernel
theorem dX12_lawWord_34 : decode cX12_lawWord 34 = .ok (.ldc 196, 2) := by decide +kernel
theorem dX12_lawWord_36 : decode cX12_lawWord 36 = .ok (.invokevirtual 142, 3) := by decide +kernel
theorem dX12_lawWord_39 : decode cX12_lawWord 39 = .ok (.ifCond .eq 5, 3) := by decide +kernel
theorem dX12_lawWord_42 : decode cX12_lawWord 42 = .ok (.iconst 3, 1) := by decide +kernel
theorem dX12_lawWord_43 : decode cX12_lawWord 43 = .ok (.ireturn, 1) := by decide +kernel
theorem dX12_lawWord_44 : decode cX12_lawWord 44 = .ok (.aload_n 0, 1) := by decide +kernel
theorem dX12_lawWord_45 : decode cX12_lawWord 45 = .ok (.ldc 198, 2) := by decide +kernel
theorem dX12_lawWord_47 : decode cX12_lawWord 47 = .ok (.invokevirtual 142, 3) := by decide +kernel
theorem dX12_lawWord_50 : decode cX12_lawWord 50 = .ok (.ifCond .eq 5, 3) := by decide +kernel
theorem dX12_lawWord_53 : decode cX12_lawWord 53 = .ok (.iconst 4, 1) := by decide +kernel
theorem dX12_lawWord_54 : decode cX12_lawWord 54 = .ok (.ireturn, 1) := by decide +kernel
theorem dX12_lawWord_55 : decode cX12_lawWord 55 = .ok (.aload_n 0, 1) := by decide +kernel
theorem dX12_lawWord_56 : decode cX12_lawWord 56 = .ok (.ldc 200, 2) := by decide +kernel
theorem dX12_lawWord_58 : decode cX12_lawWord 58 = .ok (.invokevirtual 142, 3) := by decide +kernel
theorem dX12_lawWord_61 : decode cX12_lawWord 61 = .ok (.ifCond .eq 5, 3) := by decide +kernel
theorem dX12_lawWord_64 : decode cX12_lawWord 64 = .ok (.iconst 5, 1) := by decide +kernel
theorem dX12_lawWord_65 : decode cX12_lawWord 65 = .ok (.ireturn, 1) := by decide +kernel
theorem dX12_lawWord_66 : decode cX12_lawWord 66 = .ok (.aload_n 0, 1) := by decide +kernel
theorem dX12_lawWord_67 : decode cX12_lawWord 67 = .ok (.getfield 148, 3) := by decide +kernel
theorem dX12_lawWord_70 : decode cX12_lawWord 70 = .ok (.iconst 5, 1) := by decide +kernel
theorem dX12_lawWord_71 : decode cX12_lawWord 71 = .ok (.if_icmp .eq 5, 3) := by decide +kernel
theorem dX12_lawWord_74 : decode cX12_lawWord 74 = .ok (.iconst (-1), 1) := by decide +kernel
theorem dX12_lawWord_75 : decode cX12_lawWord 75 = .ok (.ireturn, 1) := by decide +kernel
theorem dX12_lawWord_76 : decode cX12_lawWord 76 = .ok (.aload_n 0, 1) := by decide +kernel
theorem dX12_lawWord_77 : decode cX12_lawWord 77 = .ok (.ldc 202, 2) := by decide +kernel
theorem dX12_lawWord_79 : decode cX12_lawWord 79 = .ok (.invokevirtual 142, 3) := by decide +kernel
theorem dX12_lawWord_82 : decode cX12_lawWord 82 = .ok (.ifCond .eq 6, 3) := by decide +kernel
theorem dX12_lawWord_85 : decode cX12_lawWord 85 = .ok (.bipush 6, 2) := by decide +kernel
theorem dX12_lawWord_87 : decode cX12_lawWord 87 = .ok (.ireturn, 1) := by decide +kernel
theorem dX12_lawWord_88 : decode cX12_lawWord 88 = .ok (.aload_n 0, 1) := by decide +kernel
theorem dX12_lawWord_89 : decode cX12_lawWord 89 = .ok (.ldc 204, 2) := by decide +kernel
theorem dX12_lawWord_91 : decode cX12_lawWord 91 = .ok (.invokevirtual 142, 3) := by decide +kernel
theorem dX12_lawWord_94 : decode cX12_lawWord 94 = .ok (.ifCond .eq 8, 3) := by decide +kernel
theorem dX12_lawWord_97 : decode cX12_lawWord 97 = .ok (.bipush 7, 2) := by decide +kernel
theorem dX12_lawWord_99 : decode cX12_lawWord 99 = .ok (.goto 4, 3) := by decide +kernel
theorem dX12_lawWord_102 : decode cX12_lawWord 102 = .ok (.iconst (-1), 1) := by decide +kernel
theorem dX12_lawWord_103 : decode cX12_lawWord 103 = .ok (.ireturn, 1) := by decide +kernel
theorem dX12_readAtom_0 : decode cX12_readAtom 0 = .ok (.aload_n 0, 1) := by decide +kernel
theorem dX12_readAtom_1 : decode cX12_readAtom 1 = .ok (.getfield 112, 3) := by decide +kernel
theorem dX12_readAtom_4 : decode cX12_readAtom 4 = .ok (.ifCond .eq 4, 3) := by decide +kernel
theorem dX12_readAtom_7 : decode cX12_readAtom 7 = .ok (.return_, 1) := by decide +kernel
theorem dX12_readAtom_8 : decode cX12_readAtom 8 = .ok (.aload_n 0, 1) := by decide +kernel
theorem dX12_readAtom_9 : decode cX12_readAtom 9 = .ok (.invokevirtual 206, 3) := by decide +kernel
theorem dX12_readAtom_12 : decode cX12_readAtom 12 = .ok (.istore_n 1, 1) := by decide +kernel
theorem dX12_readAtom_13 : decode cX12_readAtom 13 = .ok (.iload_n 1, 1) := by decide +kernel
theorem dX12_readAtom_14 : decode cX12_readAtom 14 = .ok (.iconst (-1), 1) := by decide +kernel
theorem dX12_readAtom_15 : decode cX12_readAtom 15 = .ok (.if_icmp .eq 14, 3) := by decide +kernel
theorem dX12_readAtom_18 : decode cX12_readAtom 18 = .ok (.aload_n 0, 1) := by decide +kernel
theorem dX12_readAtom_19 : decode cX12_readAtom 19 = .ok (.bipush 100, 2) := by decide +kernel
theorem dX12_readAtom_21 : decode cX12_readAtom 21 = .ok (.iload_n 1, 1) := by decide +kernel
theorem dX12_readAtom_22 : decode cX12_readAtom 22 = .ok (.iadd, 1) := by decide +kernel
theorem dX12_readAtom_23 : decode cX12_readAtom 23 = .ok (.invokevirtual 162, 3) := by decide +kernel
theorem dX12_readAtom_26 : decode cX12_readAtom 26 = .ok (.goto 57, 3) := by decide +kernel
theorem dX12_readAtom_29 : decode cX12_readAtom 29 = .ok (.aload_n 0, 1) := by decide +kernel
theorem dX12_readAtom_30 : decode cX12_readAtom 30 = .ok (.bipush 40, 2) := by decide +kernel
theorem dX12_readAtom_32 : decode cX12_readAtom 32 = .ok (.invokevirtual 175, 3) := by decide +kernel
theorem dX12_readAtom_35 : decode cX12_readAtom 35 = .ok (.ifCond .eq 30, 3) := by decide +kernel
theorem dX12_readAtom_38 : decode cX12_readAtom 38 = .ok (.aload_n 0, 1) := by decide +kernel
theorem dX12_readAtom_39 : decode cX12_readAtom 39 = .ok (.invokevirtual 172, 3) := by decide +kernel
theorem dX12_readAtom_42 : decode cX12_readAtom 42 = .ok (.aload_n 0, 1) := by decide +kernel
theorem dX12_readAtom_43 : decode cX12_readAtom 43 = .ok (.invokevirtual 181, 3) := by decide +kernel
theorem dX12_readAtom_46 : decode cX12_readAtom 46 = .ok (.aload_n 0, 1) := by decide +kernel
theorem dX12_readAtom_47 : decode cX12_readAtom 47 = .ok (.bipush 41, 2) := by decide +kernel
theorem dX12_readAtom_49 : decode cX12_readAtom 49 = .ok (.invokevirtual 151, 3) := by decide +kernel
theorem dX12_readAtom_52 : decode cX12_readAtom 52 = .ok (.aload_n 0, 1) := by decide +kernel
theorem dX12_readAtom_53 : decode cX12_readAtom 53 = .ok (.dup, 1) := by decide +kernel
theorem dX12_readAtom_54 : decode cX12_readAtom 54 = .ok (.getfield 154, 3) := by decide +kernel
theorem dX12_readAtom_57 : decode cX12_readAtom 57 = .ok (.iconst 1, 1) := by decide +kernel
theorem dX12_readAtom_58 : decode cX12_readAtom 58 = .ok (.isub, 1) := by decide +kernel
theorem dX12_readAtom_59 : decode cX12_readAtom 59 = .ok (.putfield 154, 3) := by decide +kernel
theorem dX12_readAtom_62 : decode cX12_readAtom 62 = .ok (.goto 21, 3) := by decide +kernel
theorem dX12_readAtom_65 : decode cX12_readAtom 65 = .ok (.aload_n 0, 1) := by decide +kernel
theorem dX12_readAtom_66 : decode cX12_readAtom 66 = .ok (.iconst 0, 1) := by decide +kernel
theorem dX12_readAtom_67 : decode cX12_readAtom 67 = .ok (.sipush 999, 3) := by decide +kernel
theorem dX12_readAtom_70 : decode cX12_readAtom 70 = .ok (.invokevirtual 209, 3) := by decide +kernel
theorem dX12_readAtom_73 : decode cX12_readAtom 73 = .ok (.istore_n 2, 1) := by decide +kernel
theorem dX12_readAtom_74 : decode cX12_readAtom 74 = .ok (.aload_n 0, 1) := by decide +kernel
theorem dX12_readAtom_75 : decode cX12_readAtom 75 = .ok (.sipush 1000, 3) := by decide +kernel
theorem dX12_readAtom_78 : decode cX12_readAtom 78 = .ok (.iload_n 2, 1) := by decide +kernel
theorem dX12_readAtom_79 : decode cX12_readAtom 79 = .ok (.iadd, 1) := by decide +kernel
theorem dX12_readAtom_80 : decode cX12_readAtom 80 = .ok (.invokevirtual 162, 3) := by decide +kernel
theorem dX12_readAtom_83 : decode cX12_readAtom 83 = .ok (.return_, 1) := by decide +kernel
theorem dX12_begins_0 : decode cX12_begins 0 = .ok (.aload_n 0, 1) := by decide +kernel
theorem dX12_begins_1 : decode cX12_begins 1 = .ok (.getfield 13, 3) := by decide +kernel
theorem dX12_begins_4 : decode cX12_begins 4 = .ok (.iload_n 1, 1) := by decide +kernel
theorem dX12_begins_5 : decode cX12_begins 5 = .ok (.iaload, 1) := by decide +kernel
theorem dX12_begins_6 : decode cX12_begins 6 = .ok (.iload_n 2, 1) := by decide +kernel
theorem dX12_begins_7 : decode cX12_begins 7 = .ok (.if_icmp .ne 8, 3) := by decide +kernel
theorem dX12_begins_10 : decode cX12_begins 10 = .ok (.aload_n 0, 1) := by decide +kernel
theorem dX12_begins_11 : decode cX12_begins 11 = .ok (.iconst 4, 1) := by decide +kernel
theorem dX12_begins_12 : decode cX12_begins 12 = .ok (.invokevirtual 134, 3) := by decide +kernel
theorem dX12_begins_15 : decode cX12_begins 15 = .ok (.aload_n 0, 1) := by decide +kernel
theorem dX12_begins_16 : decode cX12_begins 16 = .ok (.getfield 112, 3) := by decide +kernel
theorem dX12_begins_19 : decode cX12_begins 19 = .ok (.ifCond .ne 7, 3) := by decide +kernel
theorem dX12_begins_22 : decode cX12_begins 22 = .ok (.aload_n 0, 1) := by decide +kernel
theorem dX12_begins_23 : decode cX12_begins 23 = .ok (.invokevirtual 131, 3) := by decide +kernel
theorem dX12_begins_26 : decode cX12_begins 26 = .ok (.aload_n 0, 1) := by decide +kernel
theorem dX12_begins_27 : decode cX12_begins 27 = .ok (.getfield 112, 3) := by decide +kernel
theorem dX12_begins_30 : decode cX12_begins 30 = .ok (.ifCond .ne 7, 3) := by decide +kernel
theorem dX12_begins_33 : decode cX12_begins 33 = .ok (.iconst 1, 1) := by decide +kernel
theorem dX12_begins_34 : decode cX12_begins 34 = .ok (.goto 4, 3) := by decide +kernel
theorem dX12_begins_37 : decode cX12_begins 37 = .ok (.iconst 0, 1) := by decide +kernel
theorem dX12_begins_38 : decode cX12_begins 38 = .ok (.ireturn, 1) := by decide +kernel
theorem dX12_readCell_0 : decode cX12_readCell 0 = .ok (.aload_n 0, 1) := by decide +kernel
theorem dX12_readCell_1 : decode cX12_readCell 1 = .ok (.iconst 1, 1) := by decide +kernel
theorem dX12_readCell_2 : decode cX12_readCell 2 = .ok (.bipush 6, 2) := by decide +kernel
theorem dX12_readCell_4 : decode cX12_readCell 4 = .ok (.invokevirtual 213, 3) := by decide +kernel
theorem dX12_readCell_7 : decode cX12_readCell 7 = .ok (.ifCond .ne 4, 3) := by decide +kernel
theorem dX12_readCell_10 : decode cX12_readCell 10 = .ok (.return_, 1) := by decide +kernel
theorem dX12_readCell_11 : decode cX12_readCell 11 = .ok (.aload_n 0, 1) := by decide +kernel
theorem dX12_readCell_12 : decode cX12_readCell 12 = .ok (.iconst 0, 1) := by decide +kernel
theorem dX12_readCell_13 : decode cX12_readCell 13 = .ok (.bipush 99, 2) := by decide +kernel
theorem dX12_readCell_15 : decode cX12_readCell 15 = .ok (.invokevirtual 209, 3) := by decide +kernel
theorem dX12_readCell_18 : decode cX12_readCell 18 = .ok (.istore_n 1, 1) := by decide +kernel
theorem dX12_readCell_19 : decode cX12_readCell 19 = .ok (.aload_n 0, 1) := by decide +kernel
theorem dX12_readCell_20 : decode cX12_readCell 20 = .ok (.ldc 217, 2) := by decide +kernel
theorem dX12_readCell_22 : decode cX12_readCell 22 = .ok (.invokevirtual 219, 3) := by decide +kernel
theorem dX12_readCell_25 : decode cX12_readCell 25 = .ok (.aload_n 0, 1) := by decide +kernel
theorem dX12_readCell_26 : decode cX12_readCell 26 = .ok (.iconst 0, 1) := by decide +kernel
theorem dX12_readCell_27 : decode cX12_readCell 27 = .ok (.bipush 99, 2) := by decide +kernel
theorem dX12_readCell_29 : decode cX12_readCell 29 = .ok (.invokevirtual 209, 3) := by decide +kernel
theorem dX12_readCell_32 : decode cX12_readCell 32 = .ok (.istore_n 2, 1) := by decide +kernel
theorem dX12_readCell_33 : decode cX12_readCell 33 = .ok (.aload_n 0, 1) := by decide +kernel
theorem dX12_readCell_34 : decode cX12_readCell 34 = .ok (.getfield 112, 3) := by decide +kernel
theorem dX12_readCell_37 : decode cX12_readCell 37 = .ok (.ifCond .eq 4, 3) := by decide +kernel
theorem dX12_readCell_40 : decode cX12_readCell 40 = .ok (.return_, 1) := by decide +kernel
theorem dX12_readCell_41 : decode cX12_readCell 41 = .ok (.aload_n 0, 1) := by decide +kernel
theorem dX12_readCell_42 : decode cX12_readCell 42 = .ok (.getfield 13, 3) := by decide +kernel
theorem dX12_readCell_45 : decode cX12_readCell 45 = .ok (.bipush 13, 2) := by decide +kernel
theorem dX12_readCell_47 : decode cX12_readCell 47 = .ok (.aload_n 0, 1) := by decide +kernel
theorem dX12_readCell_48 : decode cX12_readCell 48 = .ok (.getfield 13, 3) := by decide +kernel
theorem dX12_readCell_51 : decode cX12_readCell 51 = .ok (.iconst 1, 1) := by decide +kernel
theorem dX12_readCell_52 : decode cX12_readCell 52 = .ok (.iaload, 1) := by decide +kernel
theorem dX12_readCell_53 : decode cX12_readCell 53 = .ok (.iadd, 1) := by decide +kernel
theorem dX12_readCell_54 : decode cX12_readCell 54 = .ok (.iload_n 1, 1) := by decide +kernel
theorem dX12_readCell_55 : decode cX12_readCell 55 = .ok (.iastore, 1) := by decide +kernel
theorem dX12_readCell_56 : decode cX12_readCell 56 = .ok (.aload_n 0, 1) := by decide +kernel
theorem dX12_readCell_57 : decode cX12_readCell 57 = .ok (.getfield 13, 3) := by decide +kernel
theorem dX12_readCell_60 : decode cX12_readCell 60 = .ok (.bipush 19, 2) := by decide +kernel
theorem dX12_readCell_62 : decode cX12_readCell 62 = .ok (.aload_n 0, 1) := by decide +kernel
theorem dX12_readCell_63 : decode cX12_readCell 63 = .ok (.getfield 13, 3) := by decide +kernel
theorem dX12_readCell_66 : decode cX12_readCell 66 = .ok (.iconst 1, 1) := by decide +kernel
theorem dX12_readCell_67 : decode cX12_readCell 67 = .ok (.iaload, 1) := by decide +kernel
theorem dX12_readCell_68 : decode cX12_readCell 68 = .ok (.iadd, 1) := by decide +kernel
theorem dX12_readCell_69 : decode cX12_readCell 69 = .ok (.iload_n 2, 1) := by decide +kernel
theorem dX12_readCell_70 : decode cX12_readCell 70 = .ok (.iastore, 1) := by decide +kernel
theorem dX12_readCell_71 : decode cX12_readCell 71 = .ok (.aload_n 0, 1) := by decide +kernel
theorem dX12_readCell_72 : decode cX12_readCell 72 = .ok (.getfield 13, 3) := by decide +kernel
theorem dX12_readCell_75 : decode cX12_readCell 75 = .ok (.iconst 1, 1) := by decide +kernel
theorem dX12_readCell_76 : decode cX12_readCell 76 = .ok (.dup2, 1) := by decide +kernel
theorem dX12_readCell_77 : decode cX12_readCell 77 = .ok (.iaload, 1) := by decide +kernel
theorem dX12_readCell_78 : decode cX12_readCell 78 = .ok (.iconst 1, 1) := by decide +kernel
theorem dX12_readCell_79 : decode cX12_readCell 79 = .ok (.iadd, 1) := by decide +kernel
theorem dX12_readCell_80 : decode cX12_readCell 80 = .ok (.iastore, 1) := by decide +kernel
theorem dX12_readCell_81 : decode cX12_readCell 81 = .ok (.return_, 1) := by decide +kernel
theorem dX12_readGuest_0 : decode cX12_readGuest 0 = .ok (.aload_n 0, 1) := by decide +kernel
theorem dX12_readGuest_1 : decode cX12_readGuest 1 = .ok (.iconst 2, 1) := by decide +kernel
theorem dX12_readGuest_2 : decode cX12_readGuest 2 = .ok (.iconst 4, 1) := by decide +kernel
theorem dX12_readGuest_3 : decode cX12_readGuest 3 = .ok (.invokevirtual 213, 3) := by decide +kernel
theorem dX12_readGuest_6 : decode cX12_readGuest 6 = .ok (.ifCond .ne 4, 3) := by decide +kernel
theorem dX12_readGuest_9 : decode cX12_readGuest 9 = .ok (.return_, 1) := by decide +kernel
theorem dX12_readGuest_10 : decode cX12_readGuest 10 = .ok (.aload_n 0, 1) := by decide +kernel
theorem dX12_readGuest_11 : decode cX12_readGuest 11 = .ok (.iconst 0, 1) := by decide +kernel
theorem dX12_readGuest_12 : decode cX12_readGuest 12 = .ok (.bipush 99, 2) := by decide +kernel
theorem dX12_readGuest_14 : decode cX12_readGuest 14 = .ok (.invokevirtual 209, 3) := by decide +kernel
theorem dX12_readGuest_17 : decode cX12_readGuest 17 = .ok (.istore_n 1, 1) := by decide +kernel
theorem dX12_readGuest_18 : decode cX12_readGuest 18 = .ok (.aload_n 0, 1) := by decide +kernel
theorem dX12_readGuest_19 : decode cX12_readGuest 19 = .ok (.getfield 112, 3) := by decide +kernel
theorem dX12_readGuest_22 : decode cX12_readGuest 22 = .ok (.ifCond .eq 4, 3) := by decide +kernel
theorem dX12_readGuest_25 : decode cX12_readGuest 25 = .ok (.return_, 1) := by decide +kernel
theorem dX12_readGuest_26 : decode cX12_readGuest 26 = .ok (.aload_n 0, 1) := by decide +kernel
theorem dX12_readGuest_27 : decode cX12_readGuest 27 = .ok (.getfield 13, 3) := by decide +kernel
theorem dX12_readGuest_30 : decode cX12_readGuest 30 = .ok (.bipush 25, 2) := by decide +kernel
theorem dX12_readGuest_32 : decode cX12_readGuest 32 = .ok (.aload_n 0, 1) := by decide +kernel
theorem dX12_readGuest_33 : decode cX12_readGuest 33 = .ok (.getfield 13, 3) := by decide +kernel
theorem dX12_readGuest_36 : decode cX12_readGuest 36 = .ok (.iconst 2, 1) := by decide +kernel
theorem dX12_readGuest_37 : decode cX12_readGuest 37 = .ok (.iaload, 1) := by decide +kernel
theorem dX12_readGuest_38 : decode cX12_readGuest 38 = .ok (.iadd, 1) := by decide +kernel
theorem dX12_readGuest_39 : decode cX12_readGuest 39 = .ok (.iload_n 1, 1) := by decide +kernel
theorem dX12_readGuest_40 : decode cX12_readGuest 40 = .ok (.iastore, 1) := by decide +kernel
theorem dX12_readGuest_41 : decode cX12_readGuest 41 = .ok (.aload_n 0, 1) := by decide +kernel
theorem dX12_readGuest_42 : decode cX12_readGuest 42 = .ok (.getfield 13, 3) := by decide +kernel
theorem dX12_readGuest_45 : decode cX12_readGuest 45 = .ok (.iconst 2, 1) := by decide +kernel
theorem dX12_readGuest_46 : decode cX12_readGuest 46 = .ok (.dup2, 1) := by decide +kernel
theorem dX12_readGuest_47 : decode cX12_readGuest 47 = .ok (.iaload, 1) := by decide +kernel
theorem dX12_readGuest_48 : decode cX12_readGuest 48 = .ok (.iconst 1, 1) := by decide +kernel
theorem dX12_readGuest_49 : decode cX12_readGuest 49 = .ok (.iadd, 1) := by decide +kernel
theorem dX12_readGuest_50 : decode cX12_readGuest 50 = .ok (.iastore, 1) := by decide +kernel
theorem dX12_readGuest_51 : decode cX12_readGuest 51 = .ok (.return_, 1) := by decide +kernel
theorem dX12_readStop_0 : decode cX12_readStop 0 = .ok (.aload_n 0, 1) := by decide +kernel
theorem dX12_readStop_1 : decode cX12_readStop 1 = .ok (.bipush 59, 2) := by decide +kernel
theorem dX12_readStop_3 : decode cX12_readStop 3 = .ok (.invokevirtual 151, 3) := by decide +kernel
theorem dX12_readStop_6 : decode cX12_readStop 6 = .ok (.aload_n 0, 1) := by decide +kernel
theorem dX12_readStop_7 : decode cX12_readStop 7 = .ok (.getfield 112, 3) := by decide +kernel
theorem dX12_readStop_10 : decode cX12_readStop 10 = .ok (.ifCond .ne 13, 3) := by decide +kernel
theorem dX12_readStop_13 : decode cX12_readStop 13 = .ok (.aload_n 0, 1) := by decide +kernel
theorem dX12_readStop_14 : decode cX12_readStop 14 = .ok (.getfield 13, 3) := by decide +kernel
theorem dX12_readStop_17 : decode cX12_readStop 17 = .ok (.iconst 0, 1) := by decide +kernel
theorem dX12_readStop_18 : decode cX12_readStop 18 = .ok (.dup2, 1) := by decide +kernel
theorem dX12_readStop_19 : decode cX12_readStop 19 = .ok (.iaload, 1) := by decide +kernel
theorem dX12_readStop_20 : decode cX12_readStop 20 = .ok (.iconst 1, 1) := by decide +kernel
theorem dX12_readStop_21 : decode cX12_readStop 21 = .ok (.iadd, 1) := by decide +kernel
theorem dX12_readStop_22 : decode cX12_readStop 22 = .ok (.iastore, 1) := by decide +kernel
theorem dX12_readStop_23 : decode cX12_readStop 23 = .ok (.return_, 1) := by decide +kernel
theorem dX12_readLine_0 : decode cX12_readLine 0 = .ok (.aload_n 0, 1) := by decide +kernel
theorem dX12_readLine_1 : decode cX12_readLine 1 = .ok (.ldc 223, 2) := by decide +kernel
theorem dX12_readLine_3 : decode cX12_readLine 3 = .ok (.invokevirtual 127, 3) := by decide +kernel
theorem dX12_readLine_6 : decode cX12_readLine 6 = .ok (.ifCond .eq 10, 3) := by decide +kernel
theorem dX12_readLine_9 : decode cX12_readLine 9 = .ok (.aload_n 0, 1) := by decide +kernel
theorem dX12_readLine_10 : decode cX12_readLine 10 = .ok (.invokevirtual 225, 3) := by decide +kernel
theorem dX12_readLine_13 : decode cX12_readLine 13 = .ok (.goto 96, 3) := by decide +kernel
theorem dX12_readLine_16 : decode cX12_readLine 16 = .ok (.aload_n 0, 1) := by decide +kernel
theorem dX12_readLine_17 : decode cX12_readLine 17 = .ok (.ldc 202, 2) := by decide +kernel
theorem dX12_readLine_19 : decode cX12_readLine 19 = .ok (.invokevirtual 127, 3) := by decide +kernel
theorem dX12_readLine_22 : decode cX12_readLine 22 = .ok (.ifCond .eq 10, 3) := by decide +kernel
theorem dX12_readLine_25 : decode cX12_readLine 25 = .ok (.aload_n 0, 1) := by decide +kernel
theorem dX12_readLine_26 : decode cX12_readLine 26 = .ok (.invokevirtual 228, 3) := by decide +kernel
theorem dX12_readLine_29 : decode cX12_readLine 29 = .ok (.goto 80, 3) := by decide +kernel
theorem dX12_readLine_32 : decode cX12_readLine 32 = .ok (.aload_n 0, 1) := by decide +kernel
theorem dX12_readLine_33 : decode cX12_readLine 33 = .ok (.ldc 231, 2) := by decide +kernel
theorem dX12_readLine_35 : decode cX12_readLine 35 = .ok (.invokevirtual 142, 3) := by decide +kernel
theorem dX12_readLine_38 : decode cX12_readLine 38 = .ok (.ifCond .eq 18, 3) := by decide +kernel
theorem dX12_readLine_41 : decode cX12_readLine 41 = .ok (.aload_n 0, 1) := by decide +kernel
theorem dX12_readLine_42 : decode cX12_readLine 42 = .ok (.iconst 3, 1) := by decide +kernel
theorem dX12_readLine_43 : decode cX12_readLine 43 = .ok (.sipush 209, 3) := by decide +kernel
theorem dX12_readLine_46 : decode cX12_readLine 46 = .ok (.invokevirtual 233, 3) := by decide +kernel
theorem dX12_readLine_49 : decode cX12_readLine 49 = .ok (.aload_n 0, 1) := by decide +kernel
theorem dX12_readLine_50 : decode cX12_readLine 50 = .ok (.invokevirtual 181, 3) := by decide +kernel
theorem dX12_readLine_53 : decode cX12_readLine 53 = .ok (.goto 56, 3) := by decide +kernel
theorem dX12_readLine_56 : decode cX12_readLine 56 = .ok (.aload_n 0, 1) := by decide +kernel
theorem dX12_readLine_57 : decode cX12_readLine 57 = .ok (.ldc 237, 2) := by decide +kernel
theorem dX12_readLine_59 : decode cX12_readLine 59 = .ok (.invokevirtual 142, 3) := by decide +kernel
theorem dX12_readLine_62 : decode cX12_readLine 62 = .ok (.ifCond .eq 18, 3) := by decide +kernel
theorem dX12_readLine_65 : decode cX12_readLine 65 = .ok (.aload_n 0, 1) := by decide +kernel
theorem dX12_readLine_66 : decode cX12_readLine 66 = .ok (.iconst 4, 1) := by decide +kernel
theorem dX12_readLine_67 : decode cX12_readLine 67 = .ok (.sipush 1109, 3) := by decide +kernel
theorem dX12_readLine_70 : decode cX12_readLine 70 = .ok (.invokevirtual 233, 3) := by decide +kernel
theorem dX12_readLine_73 : decode cX12_readLine 73 = .ok (.aload_n 0, 1) := by decide +kernel
theorem dX12_readLine_74 : decode cX12_readLine 74 = .ok (.invokevirtual 178, 3) := by decide +kernel
theorem dX12_readLine_77 : decode cX12_readLine 77 = .ok (.goto 32, 3) := by decide +kernel
theorem dX12_readLine_80 : decode cX12_readLine 80 = .ok (.aload_n 0, 1) := by decide +kernel
theorem dX12_readLine_81 : decode cX12_readLine 81 = .ok (.ldc 239, 2) := by decide +kernel
theorem dX12_readLine_83 : decode cX12_readLine 83 = .ok (.invokevirtual 142, 3) := by decide +kernel
theorem dX12_readLine_86 : decode cX12_readLine 86 = .ok (.ifCond .eq 18, 3) := by decide +kernel
theorem dX12_readLine_89 : decode cX12_readLine 89 = .ok (.aload_n 0, 1) := by decide +kernel
theorem dX12_readLine_90 : decode cX12_readLine 90 = .ok (.iconst 5, 1) := by decide +kernel
theorem dX12_readLine_91 : decode cX12_readLine 91 = .ok (.sipush 2009, 3) := by decide +kernel
theorem dX12_readLine_94 : decode cX12_readLine 94 = .ok (.invokevirtual 233, 3) := by decide +kernel
theorem dX12_readLine_97 : decode cX12_readLine 97 = .ok (.aload_n 0, 1) := by decide +kernel
theorem dX12_readLine_98 : decode cX12_readLine 98 = .ok (.invokevirtual 181, 3) := by decide +kernel
theorem dX12_readLine_101 : decode cX12_readLine 101 = .ok (.goto 8, 3) := by decide +kernel
theorem dX12_readLine_104 : decode cX12_readLine 104 = .ok (.aload_n 0, 1) := by decide +kernel
theorem dX12_readLine_105 : decode cX12_readLine 105 = .ok (.iconst 2, 1) := by decide +kernel
theorem dX12_readLine_106 : decode cX12_readLine 106 = .ok (.invokevirtual 134, 3) := by decide +kernel
theorem dX12_readLine_109 : decode cX12_readLine 109 = .ok (.aload_n 0, 1) := by decide +kernel
theorem dX12_readLine_110 : decode cX12_readLine 110 = .ok (.invokevirtual 241, 3) := by decide +kernel
theorem dX12_readLine_113 : decode cX12_readLine 113 = .ok (.return_, 1) := by decide +kernel
theorem dX12_napkin_0 : decode cX12_napkin 0 = .ok (.aload_n 0, 1) := by decide +kernel
theorem dX12_napkin_1 : decode cX12_napkin 1 = .ok (.iconst 0, 1) := by decide +kernel
theorem dX12_napkin_2 : decode cX12_napkin 2 = .ok (.putfield 77, 3) := by decide +kernel
theorem dX12_napkin_5 : decode cX12_napkin 5 = .ok (.iload_n 1, 1) := by decide +kernel
theorem dX12_napkin_6 : decode cX12_napkin 6 = .ok (.i2l, 1) := by decide +kernel
theorem dX12_napkin_7 : decode cX12_napkin 7 = .ok (.lconst 0, 1) := by decide +kernel
