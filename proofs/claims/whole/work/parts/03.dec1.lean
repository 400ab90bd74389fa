theorem dX7_init_75 : decode cX7_init 75 = .ok (.return_, 1) := by decide +kernel
theorem dX7_spread_0 : decode cX7_spread 0 = .ok (.aload_n 0, 1) := by decide +kernel
theorem dX7_spread_1 : decode cX7_spread 1 = .ok (.aload_n 1, 1) := by decide +kernel
theorem dX7_spread_2 : decode cX7_spread 2 = .ok (.putfield 12, 3) := by decide +kernel
theorem dX7_spread_5 : decode cX7_spread 5 = .ok (.aload_n 0, 1) := by decide +kernel
theorem dX7_spread_6 : decode cX7_spread 6 = .ok (.getfield 21, 3) := by decide +kernel
theorem dX7_spread_9 : decode cX7_spread 9 = .ok (.aload_n 1, 1) := by decide +kernel
theorem dX7_spread_10 : decode cX7_spread 10 = .ok (.invokevirtual 37, 3) := by decide +kernel
theorem dX7_spread_13 : decode cX7_spread 13 = .ok (.aload_n 0, 1) := by decide +kernel
theorem dX7_spread_14 : decode cX7_spread 14 = .ok (.iconst 0, 1) := by decide +kernel
theorem dX7_spread_15 : decode cX7_spread 15 = .ok (.putfield 29, 3) := by decide +kernel
theorem dX7_spread_18 : decode cX7_spread 18 = .ok (.return_, 1) := by decide +kernel
theorem dX7_take_0 : decode cX7_take 0 = .ok (.aload_n 0, 1) := by decide +kernel
theorem dX7_take_1 : decode cX7_take 1 = .ok (.aload_n 1, 1) := by decide +kernel
theorem dX7_take_2 : decode cX7_take 2 = .ok (.getfield 12, 3) := by decide +kernel
theorem dX7_take_5 : decode cX7_take 5 = .ok (.putfield 12, 3) := by decide +kernel
theorem dX7_take_8 : decode cX7_take 8 = .ok (.aload_n 0, 1) := by decide +kernel
theorem dX7_take_9 : decode cX7_take 9 = .ok (.getfield 21, 3) := by decide +kernel
theorem dX7_take_12 : decode cX7_take 12 = .ok (.aload_n 1, 1) := by decide +kernel
theorem dX7_take_13 : decode cX7_take 13 = .ok (.getfield 21, 3) := by decide +kernel
theorem dX7_take_16 : decode cX7_take 16 = .ok (.invokevirtual 41, 3) := by decide +kernel
theorem dX7_take_19 : decode cX7_take 19 = .ok (.iconst 0, 1) := by decide +kernel
theorem dX7_take_20 : decode cX7_take 20 = .ok (.istore_n 2, 1) := by decide +kernel
theorem dX7_take_21 : decode cX7_take 21 = .ok (.iload_n 2, 1) := by decide +kernel
theorem dX7_take_22 : decode cX7_take 22 = .ok (.aload_n 0, 1) := by decide +kernel
theorem dX7_take_23 : decode cX7_take 23 = .ok (.getfield 25, 3) := by decide +kernel
theorem dX7_take_26 : decode cX7_take 26 = .ok (.arraylength, 1) := by decide +kernel
theorem dX7_take_27 : decode cX7_take 27 = .ok (.if_icmp .ge 33, 3) := by decide +kernel
theorem dX7_take_30 : decode cX7_take 30 = .ok (.iload_n 2, 1) := by decide +kernel
theorem dX7_take_31 : decode cX7_take 31 = .ok (.aload_n 1, 1) := by decide +kernel
theorem dX7_take_32 : decode cX7_take 32 = .ok (.getfield 25, 3) := by decide +kernel
theorem dX7_take_35 : decode cX7_take 35 = .ok (.arraylength, 1) := by decide +kernel
theorem dX7_take_36 : decode cX7_take 36 = .ok (.if_icmp .ge 24, 3) := by decide +kernel
theorem dX7_take_39 : decode cX7_take 39 = .ok (.aload_n 0, 1) := by decide +kernel
theorem dX7_take_40 : decode cX7_take 40 = .ok (.getfield 25, 3) := by decide +kernel
theorem dX7_take_43 : decode cX7_take 43 = .ok (.iload_n 2, 1) := by decide +kernel
theorem dX7_take_44 : decode cX7_take 44 = .ok (.aaload, 1) := by decide +kernel
theorem dX7_take_45 : decode cX7_take 45 = .ok (.aload_n 1, 1) := by decide +kernel
theorem dX7_take_46 : decode cX7_take 46 = .ok (.getfield 25, 3) := by decide +kernel
theorem dX7_take_49 : decode cX7_take 49 = .ok (.iload_n 2, 1) := by decide +kernel
theorem dX7_take_50 : decode cX7_take 50 = .ok (.aaload, 1) := by decide +kernel
theorem dX7_take_51 : decode cX7_take 51 = .ok (.invokevirtual 41, 3) := by decide +kernel
theorem dX7_take_54 : decode cX7_take 54 = .ok (.iinc 2 1, 3) := by decide +kernel
theorem dX7_take_57 : decode cX7_take 57 = .ok (.goto (-36), 3) := by decide +kernel
theorem dX7_take_60 : decode cX7_take 60 = .ok (.aload_n 0, 1) := by decide +kernel
theorem dX7_take_61 : decode cX7_take 61 = .ok (.aload_n 1, 1) := by decide +kernel
theorem dX7_take_62 : decode cX7_take 62 = .ok (.getfield 29, 3) := by decide +kernel
theorem dX7_take_65 : decode cX7_take 65 = .ok (.putfield 29, 3) := by decide +kernel
theorem dX7_take_68 : decode cX7_take 68 = .ok (.return_, 1) := by decide +kernel
theorem dX7_remember_0 : decode cX7_remember 0 = .ok (.aload_n 0, 1) := by decide +kernel
theorem dX7_remember_1 : decode cX7_remember 1 = .ok (.getfield 29, 3) := by decide +kernel
theorem dX7_remember_4 : decode cX7_remember 4 = .ok (.aload_n 0, 1) := by decide +kernel
theorem dX7_remember_5 : decode cX7_remember 5 = .ok (.getfield 25, 3) := by decide +kernel
theorem dX7_remember_8 : decode cX7_remember 8 = .ok (.arraylength, 1) := by decide +kernel
theorem dX7_remember_9 : decode cX7_remember 9 = .ok (.if_icmp .lt 7, 3) := by decide +kernel
theorem dX7_remember_12 : decode cX7_remember 12 = .ok (.aload_n 0, 1) := by decide +kernel
theorem dX7_remember_13 : decode cX7_remember 13 = .ok (.invokevirtual 45, 3) := by decide +kernel
theorem dX7_remember_16 : decode cX7_remember 16 = .ok (.aload_n 0, 1) := by decide +kernel
theorem dX7_remember_17 : decode cX7_remember 17 = .ok (.getfield 29, 3) := by decide +kernel
theorem dX7_remember_20 : decode cX7_remember 20 = .ok (.ifCond .lt 41, 3) := by decide +kernel
theorem dX7_remember_23 : decode cX7_remember 23 = .ok (.aload_n 0, 1) := by decide +kernel
theorem dX7_remember_24 : decode cX7_remember 24 = .ok (.getfield 29, 3) := by decide +kernel
theorem dX7_remember_27 : decode cX7_remember 27 = .ok (.aload_n 0, 1) := by decide +kernel
theorem dX7_remember_28 : decode cX7_remember 28 = .ok (.getfield 25, 3) := by decide +kernel
theorem dX7_remember_31 : decode cX7_remember 31 = .ok (.arraylength, 1) := by decide +kernel
theorem dX7_remember_32 : decode cX7_remember 32 = .ok (.if_icmp .ge 29, 3) := by decide +kernel
theorem dX7_remember_35 : decode cX7_remember 35 = .ok (.aload_n 0, 1) := by decide +kernel
theorem dX7_remember_36 : decode cX7_remember 36 = .ok (.getfield 25, 3) := by decide +kernel
theorem dX7_remember_39 : decode cX7_remember 39 = .ok (.aload_n 0, 1) := by decide +kernel
theorem dX7_remember_40 : decode cX7_remember 40 = .ok (.getfield 29, 3) := by decide +kernel
theorem dX7_remember_43 : decode cX7_remember 43 = .ok (.aaload, 1) := by decide +kernel
theorem dX7_remember_44 : decode cX7_remember 44 = .ok (.aload_n 0, 1) := by decide +kernel
theorem dX7_remember_45 : decode cX7_remember 45 = .ok (.getfield 21, 3) := by decide +kernel
theorem dX7_remember_48 : decode cX7_remember 48 = .ok (.invokevirtual 41, 3) := by decide +kernel
theorem dX7_remember_51 : decode cX7_remember 51 = .ok (.aload_n 0, 1) := by decide +kernel
theorem dX7_remember_52 : decode cX7_remember 52 = .ok (.dup, 1) := by decide +kernel
theorem dX7_remember_53 : decode cX7_remember 53 = .ok (.getfield 29, 3) := by decide +kernel
theorem dX7_remember_56 : decode cX7_remember 56 = .ok (.iconst 1, 1) := by decide +kernel
theorem dX7_remember_57 : decode cX7_remember 57 = .ok (.iadd, 1) := by decide +kernel
theorem dX7_remember_58 : decode cX7_remember 58 = .ok (.putfield 29, 3) := by decide +kernel
theorem dX7_remember_61 : decode cX7_remember 61 = .ok (.return_, 1) := by decide +kernel
theorem dX7_forgetEldest_0 : decode cX7_forgetEldest 0 = .ok (.iconst 1, 1) := by decide +kernel
theorem dX7_forgetEldest_1 : decode cX7_forgetEldest 1 = .ok (.istore_n 1, 1) := by decide +kernel
theorem dX7_forgetEldest_2 : decode cX7_forgetEldest 2 = .ok (.iload_n 1, 1) := by decide +kernel
theorem dX7_forgetEldest_3 : decode cX7_forgetEldest 3 = .ok (.aload_n 0, 1) := by decide +kernel
theorem dX7_forgetEldest_4 : decode cX7_forgetEldest 4 = .ok (.getfield 25, 3) := by decide +kernel
theorem dX7_forgetEldest_7 : decode cX7_forgetEldest 7 = .ok (.arraylength, 1) := by decide +kernel
theorem dX7_forgetEldest_8 : decode cX7_forgetEldest 8 = .ok (.if_icmp .ge 39, 3) := by decide +kernel
theorem dX7_forgetEldest_11 : decode cX7_forgetEldest 11 = .ok (.aload_n 0, 1) := by decide +kernel
theorem dX7_forgetEldest_12 : decode cX7_forgetEldest 12 = .ok (.getfield 25, 3) := by decide +kernel
theorem dX7_forgetEldest_15 : decode cX7_forgetEldest 15 = .ok (.iload_n 1, 1) := by decide +kernel
theorem dX7_forgetEldest_16 : decode cX7_forgetEldest 16 = .ok (.iconst 1, 1) := by decide +kernel
theorem dX7_forgetEldest_17 : decode cX7_forgetEldest 17 = .ok (.isub, 1) := by decide +kernel
theorem dX7_forgetEldest_18 : decode cX7_forgetEldest 18 = .ok (.aaload, 1) := by decide +kernel
theorem dX7_forgetEldest_19 : decode cX7_forgetEldest 19 = .ok (.astore_n 2, 1) := by decide +kernel
theorem dX7_forgetEldest_20 : decode cX7_forgetEldest 20 = .ok (.aload_n 0, 1) := by decide +kernel
theorem dX7_forgetEldest_21 : decode cX7_forgetEldest 21 = .ok (.getfield 25, 3) := by decide +kernel
theorem dX7_forgetEldest_24 : decode cX7_forgetEldest 24 = .ok (.iload_n 1, 1) := by decide +kernel
theorem dX7_forgetEldest_25 : decode cX7_forgetEldest 25 = .ok (.iconst 1, 1) := by decide +kernel
theorem dX7_forgetEldest_26 : decode cX7_forgetEldest 26 = .ok (.isub, 1) := by decide +kernel
theorem dX7_forgetEldest_27 : decode cX7_forgetEldest 27 = .ok (.aload_n 0, 1) := by decide +kernel
theorem dX7_forgetEldest_28 : decode cX7_forgetEldest 28 = .ok (.getfield 25, 3) := by decide +kernel
theorem dX7_forgetEldest_31 : decode cX7_forgetEldest 31 = .ok (.iload_n 1, 1) := by decide +kernel
theorem dX7_forgetEldest_32 : decode cX7_forgetEldest 32 = .ok (.aaload, 1) := by decide +kernel
theorem dX7_forgetEldest_33 : decode cX7_forgetEldest 33 = .ok (.aastore, 1) := by decide +kernel
theorem dX7_forgetEldest_34 : decode cX7_forgetEldest 34 = .ok (.aload_n 0, 1) := by decide +kernel
theorem dX7_forgetEldest_35 : decode cX7_forgetEldest 35 = .ok (.getfield 25, 3) := by decide +kernel
theorem dX7_forgetEldest_38 : decode cX7_forgetEldest 38 = .ok (.iload_n 1, 1) := by decide +kernel
theorem dX7_forgetEldest_39 : decode cX7_forgetEldest 39 = .ok (.aload_n 2, 1) := by decide +kernel
theorem dX7_forgetEldest_40 : decode cX7_forgetEldest 40 = .ok (.aastore, 1) := by decide +kernel
theorem dX7_forgetEldest_41 : decode cX7_forgetEldest 41 = .ok (.iinc 1 1, 3) := by decide +kernel
theorem dX7_forgetEldest_44 : decode cX7_forgetEldest 44 = .ok (.goto (-42), 3) := by decide +kernel
theorem dX7_forgetEldest_47 : decode cX7_forgetEldest 47 = .ok (.aload_n 0, 1) := by decide +kernel
theorem dX7_forgetEldest_48 : decode cX7_forgetEldest 48 = .ok (.dup, 1) := by decide +kernel
theorem dX7_forgetEldest_49 : decode cX7_forgetEldest 49 = .ok (.getfield 29, 3) := by decide +kernel
theorem dX7_forgetEldest_52 : decode cX7_forgetEldest 52 = .ok (.iconst 1, 1) := by decide +kernel
theorem dX7_forgetEldest_53 : decode cX7_forgetEldest 53 = .ok (.isub, 1) := by decide +kernel
theorem dX7_forgetEldest_54 : decode cX7_forgetEldest 54 = .ok (.putfield 29, 3) := by decide +kernel
theorem dX7_forgetEldest_57 : decode cX7_forgetEldest 57 = .ok (.return_, 1) := by decide +kernel
theorem dX7_goBack_0 : decode cX7_goBack 0 = .ok (.aload_n 0, 1) := by decide +kernel
theorem dX7_goBack_1 : decode cX7_goBack 1 = .ok (.getfield 29, 3) := by decide +kernel
theorem dX7_goBack_4 : decode cX7_goBack 4 = .ok (.iload_n 1, 1) := by decide +kernel
theorem dX7_goBack_5 : decode cX7_goBack 5 = .ok (.isub, 1) := by decide +kernel
theorem dX7_goBack_6 : decode cX7_goBack 6 = .ok (.istore_n 2, 1) := by decide +kernel
theorem dX7_goBack_7 : decode cX7_goBack 7 = .ok (.iload_n 2, 1) := by decide +kernel
theorem dX7_goBack_8 : decode cX7_goBack 8 = .ok (.ifCond .lt 30, 3) := by decide +kernel
theorem dX7_goBack_11 : decode cX7_goBack 11 = .ok (.iload_n 2, 1) := by decide +kernel
theorem dX7_goBack_12 : decode cX7_goBack 12 = .ok (.aload_n 0, 1) := by decide +kernel
theorem dX7_goBack_13 : decode cX7_goBack 13 = .ok (.getfield 25, 3) := by decide +kernel
theorem dX7_goBack_16 : decode cX7_goBack 16 = .ok (.arraylength, 1) := by decide +kernel
theorem dX7_goBack_17 : decode cX7_goBack 17 = .ok (.if_icmp .ge 21, 3) := by decide +kernel
theorem dX7_goBack_20 : decode cX7_goBack 20 = .ok (.aload_n 0, 1) := by decide +kernel
theorem dX7_goBack_21 : decode cX7_goBack 21 = .ok (.getfield 21, 3) := by decide +kernel
theorem dX7_goBack_24 : decode cX7_goBack 24 = .ok (.aload_n 0, 1) := by decide +kernel
theorem dX7_goBack_25 : decode cX7_goBack 25 = .ok (.getfield 25, 3) := by decide +kernel
theorem dX7_goBack_28 : decode cX7_goBack 28 = .ok (.iload_n 2, 1) := by decide +kernel
theorem dX7_goBack_29 : decode cX7_goBack 29 = .ok (.aaload, 1) := by decide +kernel
theorem dX7_goBack_30 : decode cX7_goBack 30 = .ok (.invokevirtual 41, 3) := by decide +kernel
theorem dX7_goBack_33 : decode cX7_goBack 33 = .ok (.aload_n 0, 1) := by decide +kernel
theorem dX7_goBack_34 : decode cX7_goBack 34 = .ok (.iload_n 2, 1) := by decide +kernel
theorem dX7_goBack_35 : decode cX7_goBack 35 = .ok (.putfield 29, 3) := by decide +kernel
theorem dX7_goBack_38 : decode cX7_goBack 38 = .ok (.return_, 1) := by decide +kernel
theorem dX8_init_0 : decode cX8_init 0 = .ok (.aload_n 0, 1) := by decide +kernel
theorem dX8_init_1 : decode cX8_init 1 = .ok (.invokespecial 3, 3) := by decide +kernel
theorem dX8_init_4 : decode cX8_init 4 = .ok (.aload_n 0, 1) := by decide +kernel
theorem dX8_init_5 : decode cX8_init 5 = .ok (.bipush 30, 2) := by decide +kernel
theorem dX8_init_7 : decode cX8_init 7 = .ok (.newarray .long, 2) := by decide +kernel
theorem dX8_init_9 : decode cX8_init 9 = .ok (.putfield 9, 3) := by decide +kernel
theorem dX8_init_12 : decode cX8_init 12 = .ok (.aload_n 0, 1) := by decide +kernel
theorem dX8_init_13 : decode cX8_init 13 = .ok (.iconst 0, 1) := by decide +kernel
theorem dX8_init_14 : decode cX8_init 14 = .ok (.putfield 15, 3) := by decide +kernel
theorem dX8_init_17 : decode cX8_init 17 = .ok (.aload_n 0, 1) := by decide +kernel
theorem dX8_init_18 : decode cX8_init 18 = .ok (.iconst 0, 1) := by decide +kernel
theorem dX8_init_19 : decode cX8_init 19 = .ok (.putfield 19, 3) := by decide +kernel
theorem dX8_init_22 : decode cX8_init 22 = .ok (.aload_n 0, 1) := by decide +kernel
theorem dX8_init_23 : decode cX8_init 23 = .ok (.iconst 1, 1) := by decide +kernel
theorem dX8_init_24 : decode cX8_init 24 = .ok (.putfield 22, 3) := by decide +kernel
theorem dX8_init_27 : decode cX8_init 27 = .ok (.return_, 1) := by decide +kernel
theorem dX8_clear_0 : decode cX8_clear 0 = .ok (.aload_n 0, 1) := by decide +kernel
theorem dX8_clear_1 : decode cX8_clear 1 = .ok (.getfield 9, 3) := by decide +kernel
theorem dX8_clear_4 : decode cX8_clear 4 = .ok (.lconst 0, 1) := by decide +kernel
theorem dX8_clear_5 : decode cX8_clear 5 = .ok (.invokestatic 26, 3) := by decide +kernel
theorem dX8_clear_8 : decode cX8_clear 8 = .ok (.aload_n 0, 1) := by decide +kernel
theorem dX8_clear_9 : decode cX8_clear 9 = .ok (.iload_n 1, 1) := by decide +kernel
theorem dX8_clear_10 : decode cX8_clear 10 = .ok (.putfield 15, 3) := by decide +kernel
theorem dX8_clear_13 : decode cX8_clear 13 = .ok (.aload_n 0, 1) := by decide +kernel
theorem dX8_clear_14 : decode cX8_clear 14 = .ok (.iload_n 2, 1) := by decide +kernel
theorem dX8_clear_15 : decode cX8_clear 15 = .ok (.putfield 19, 3) := by decide +kernel
theorem dX8_clear_18 : decode cX8_clear 18 = .ok (.aload_n 0, 1) := by decide +kernel
theorem dX8_clear_19 : decode cX8_clear 19 = .ok (.iconst 0, 1) := by decide +kernel
theorem dX8_clear_20 : decode cX8_clear 20 = .ok (.putfield 22, 3) := by decide +kernel
theorem dX8_clear_23 : decode cX8_clear 23 = .ok (.return_, 1) := by decide +kernel
theorem dX8_numberAt_0 : decode cX8_numberAt 0 = .ok (.iload_n 1, 1) := by decide +kernel
theorem dX8_numberAt_1 : decode cX8_numberAt 1 = .ok (.ifCond .lt 29, 3) := by decide +kernel
theorem dX8_numberAt_4 : decode cX8_numberAt 4 = .ok (.iload_n 1, 1) := by decide +kernel
theorem dX8_numberAt_5 : decode cX8_numberAt 5 = .ok (.aload_n 0, 1) := by decide +kernel
theorem dX8_numberAt_6 : decode cX8_numberAt 6 = .ok (.getfield 19, 3) := by decide +kernel
theorem dX8_numberAt_9 : decode cX8_numberAt 9 = .ok (.if_icmp .ge 21, 3) := by decide +kernel
theorem dX8_numberAt_12 : decode cX8_numberAt 12 = .ok (.iload_n 1, 1) := by decide +kernel
theorem dX8_numberAt_13 : decode cX8_numberAt 13 = .ok (.aload_n 0, 1) := by decide +kernel
theorem dX8_numberAt_14 : decode cX8_numberAt 14 = .ok (.getfield 9, 3) := by decide +kernel
theorem dX8_numberAt_17 : decode cX8_numberAt 17 = .ok (.arraylength, 1) := by decide +kernel
theorem dX8_numberAt_18 : decode cX8_numberAt 18 = .ok (.if_icmp .ge 12, 3) := by decide +kernel
theorem dX8_numberAt_21 : decode cX8_numberAt 21 = .ok (.aload_n 0, 1) := by decide +kernel
theorem dX8_numberAt_22 : decode cX8_numberAt 22 = .ok (.getfield 9, 3) := by decide +kernel
theorem dX8_numberAt_25 : decode cX8_numberAt 25 = .ok (.iload_n 1, 1) := by decide +kernel
theorem dX8_numberAt_26 : decode cX8_numberAt 26 = .ok (.laload, 1) := by decide +kernel
theorem dX8_numberAt_27 : decode cX8_numberAt 27 = .ok (.goto 4, 3) := by decide +kernel
theorem dX8_numberAt_30 : decode cX8_numberAt 30 = .ok (.lconst 0, 1) := by decide +kernel
theorem dX8_numberAt_31 : decode cX8_numberAt 31 = .ok (.lreturn, 1) := by decide +kernel
theorem dX8_put_0 : decode cX8_put 0 = .ok (.iload_n 1, 1) := by decide +kernel
theorem dX8_put_1 : decode cX8_put 1 = .ok (.ifCond .lt 31, 3) := by decide +kernel
theorem dX8_put_4 : decode cX8_put 4 = .ok (.iload_n 1, 1) := by decide +kernel
theorem dX8_put_5 : decode cX8_put 5 = .ok (.aload_n 0, 1) := by decide +kernel
theorem dX8_put_6 : decode cX8_put 6 = .ok (.getfield 19, 3) := by decide +kernel
theorem dX8_put_9 : decode cX8_put 9 = .ok (.if_icmp .ge 23, 3) := by decide +kernel
theorem dX8_put_12 : decode cX8_put 12 = .ok (.iload_n 1, 1) := by decide +kernel
theorem dX8_put_13 : decode cX8_put 13 = .ok (.aload_n 0, 1) := by decide +kernel
theorem dX8_put_14 : decode cX8_put 14 = .ok (.getfield 9, 3) := by decide +kernel
theorem dX8_put_17 : decode cX8_put 17 = .ok (.arraylength, 1) := by decide +kernel
theorem dX8_put_18 : decode cX8_put 18 = .ok (.if_icmp .ge 14, 3) := by decide +kernel
theorem dX8_put_21 : decode cX8_put 21 = .ok (.aload_n 0, 1) := by decide +kernel
theorem dX8_put_22 : decode cX8_put 22 = .ok (.getfield 9, 3) := by decide +kernel
theorem dX8_put_25 : decode cX8_put 25 = .ok (.iload_n 1, 1) := by decide +kernel
theorem dX8_put_26 : decode cX8_put 26 = .ok (.aload_n 0, 1) := by decide +kernel
theorem dX8_put_27 : decode cX8_put 27 = .ok (.lload_n 2, 1) := by decide +kernel
theorem dX8_put_28 : decode cX8_put 28 = .ok (.invokevirtual 32, 3) := by decide +kernel
theorem dX8_put_31 : decode cX8_put 31 = .ok (.lastore, 1) := by decide +kernel
theorem dX8_put_32 : decode cX8_put 32 = .ok (.aload_n 0, 1) := by decide +kernel
theorem dX8_put_33 : decode cX8_put 33 = .ok (.iload_n 1, 1) := by decide +kernel
theorem dX8_put_34 : decode cX8_put 34 = .ok (.invokevirtual 36, 3) := by decide +kernel
theorem dX8_put_37 : decode cX8_put 37 = .ok (.lreturn, 1) := by decide +kernel
theorem dX8_cut_0 : decode cX8_cut 0 = .ok (.aload_n 0, 1) := by decide +kernel
theorem dX8_cut_1 : decode cX8_cut 1 = .ok (.getfield 15, 3) := by decide +kernel
theorem dX8_cut_4 : decode cX8_cut 4 = .ok (.tableswitch 42 0 2 #[28, 33, 38], 28) := by decide +kernel
theorem dX8_cut_32 : decode cX8_cut 32 = .ok (.lload_n 1, 1) := by decide +kernel
theorem dX8_cut_33 : decode cX8_cut 33 = .ok (.l2i, 1) := by decide +kernel
theorem dX8_cut_34 : decode cX8_cut 34 = .ok (.i2b, 1) := by decide +kernel
theorem dX8_cut_35 : decode cX8_cut 35 = .ok (.i2l, 1) := by decide +kernel
theorem dX8_cut_36 : decode cX8_cut 36 = .ok (.lreturn, 1) := by decide +kernel
theorem dX8_cut_37 : decode cX8_cut 37 = .ok (.lload_n 1, 1) := by decide +kernel
theorem dX8_cut_38 : decode cX8_cut 38 = .ok (.l2i, 1) := by decide +kernel
theorem dX8_cut_39 : decode cX8_cut 39 = .ok (.i2s, 1) := by decide +kernel
theorem dX8_cut_40 : decode cX8_cut 40 = .ok (.i2l, 1) := by decide +kernel
theorem dX8_cut_41 : decode cX8_cut 41 = .ok (.lreturn, 1) := by decide +kernel
theorem dX8_cut_42 : decode cX8_cut 42 = .ok (.lload_n 1, 1) := by decide +kernel
theorem dX8_cut_43 : decode cX8_cut 43 = .ok (.l2i, 1) := by decide +kernel
theorem dX8_cut_44 : decode cX8_cut 44 = .ok (.i2l, 1) := by decide +kernel
theorem dX8_cut_45 : decode cX8_cut 45 = .ok (.lreturn, 1) := by decide +kernel
theorem dX8_cut_46 : decode cX8_cut 46 = .ok (.lload_n 1, 1) := by decide +kernel
theorem dX8_cut_47 : decode cX8_cut 47 = .ok (.lreturn, 1) := by decide +kernel
theorem dX8_tellsFrom_0 : decode cX8_tellsFrom 0 = .ok (.iconst 0, 1) := by decide +kernel
theorem dX8_tellsFrom_1 : decode cX8_tellsFrom 1 = .ok (.istore_n 3, 1) := by decide +kernel
theorem dX8_tellsFrom_2 : decode cX8_tellsFrom 2 = .ok (.iload_n 3, 1) := by decide +kernel
theorem dX8_tellsFrom_3 : decode cX8_tellsFrom 3 = .ok (.aload_n 0, 1) := by decide +kernel
theorem dX8_tellsFrom_4 : decode cX8_tellsFrom 4 = .ok (.getfield 19, 3) := by decide +kernel
theorem dX8_tellsFrom_7 : decode cX8_tellsFrom 7 = .ok (.if_icmp .ge 21, 3) := by decide +kernel
theorem dX8_tellsFrom_10 : decode cX8_tellsFrom 10 = .ok (.aload_n 0, 1) := by decide +kernel
theorem dX8_tellsFrom_11 : decode cX8_tellsFrom 11 = .ok (.iload_n 3, 1) := by decide +kernel
theorem dX8_tellsFrom_12 : decode cX8_tellsFrom 12 = .ok (.invokevirtual 36, 3) := by decide +kernel
theorem dX8_tellsFrom_15 : decode cX8_tellsFrom 15 = .ok (.lload_n 1, 1) := by decide +kernel
theorem dX8_tellsFrom_16 : decode cX8_tellsFrom 16 = .ok (.lcmp, 1) := by decide +kernel
theorem dX8_tellsFrom_17 : decode cX8_tellsFrom 17 = .ok (.ifCond .ge 5, 3) := by decide +kernel
theorem dX8_tellsFrom_20 : decode cX8_tellsFrom 20 = .ok (.iconst 0, 1) := by decide +kernel
theorem dX8_tellsFrom_21 : decode cX8_tellsFrom 21 = .ok (.ireturn, 1) := by decide +kernel
theorem dX8_tellsFrom_22 : decode cX8_tellsFrom 22 = .ok (.iinc 3 1, 3) := by decide +kernel
theorem dX8_tellsFrom_25 : decode cX8_tellsFrom 25 = .ok (.goto (-23), 3) := by decide +kernel
theorem dX8_tellsFrom_28 : decode cX8_tellsFrom 28 = .ok (.iconst 1, 1) := by decide +kernel
theorem dX8_tellsFrom_29 : decode cX8_tellsFrom 29 = .ok (.ireturn, 1) := by decide +kernel
theorem dX8_tellsWithin_0 : decode cX8_tellsWithin 0 = .ok (.iconst 0, 1) := by decide +kernel
theorem dX8_tellsWithin_1 : decode cX8_tellsWithin 1 = .ok (.istore 5, 2) := by decide +kernel
theorem dX8_tellsWithin_3 : decode cX8_tellsWithin 3 = .ok (.iload 5, 2) := by decide +kernel
theorem dX8_tellsWithin_5 : decode cX8_tellsWithin 5 = .ok (.aload_n 0, 1) := by decide +kernel
theorem dX8_tellsWithin_6 : decode cX8_tellsWithin 6 = .ok (.getfield 19, 3) := by decide +kernel
theorem dX8_tellsWithin_9 : decode cX8_tellsWithin 9 = .ok (.if_icmp .ge 22, 3) := by decide +kernel
theorem dX8_tellsWithin_12 : decode cX8_tellsWithin 12 = .ok (.aload_n 0, 1) := by decide +kernel
theorem dX8_tellsWithin_13 : decode cX8_tellsWithin 13 = .ok (.iload 5, 2) := by decide +kernel
theorem dX8_tellsWithin_15 : decode cX8_tellsWithin 15 = .ok (.invokevirtual 36, 3) := by decide +kernel
theorem dX8_tellsWithin_18 : decode cX8_tellsWithin 18 = .ok (.lload_n 3, 1) := by decide +kernel
theorem dX8_tellsWithin_19 : decode cX8_tellsWithin 19 = .ok (.lcmp, 1) := by decide +kernel
theorem dX8_tellsWithin_20 : decode cX8_tellsWithin 20 = .ok (.ifCond .le 5, 3) := by decide +kernel
theorem dX8_tellsWithin_23 : decode cX8_tellsWithin 23 = .ok (.iconst 0, 1) := by decide +kernel
theorem dX8_tellsWithin_24 : decode cX8_tellsWithin 24 = .ok (.ireturn, 1) := by decide +kernel
theorem dX8_tellsWithin_25 : decode cX8_tellsWithin 25 = .ok (.iinc 5 1, 3) := by decide +kernel
theorem dX8_tellsWithin_28 : decode cX8_tellsWithin 28 = .ok (.goto (-25), 3) := by decide +kernel
theorem dX8_tellsWithin_31 : decode cX8_tellsWithin 31 = .ok (.aload_n 0, 1) := by decide +kernel
theorem dX8_tellsWithin_32 : decode cX8_tellsWithin 32 = .ok (.lload_n 1, 1) := by decide +kernel
theorem dX8_tellsWithin_33 : decode cX8_tellsWithin 33 = .ok (.invokevirtual 40, 3) := by decide +kernel
theorem dX8_tellsWithin_36 : decode cX8_tellsWithin 36 = .ok (.ireturn, 1) := by decide +kernel
theorem dX8_tellsSight_0 : decode cX8_tellsSight 0 = .ok (.aload_n 0, 1) := by decide +kernel
theorem dX8_tellsSight_1 : decode cX8_tellsSight 1 = .ok (.getfield 19, 3) := by decide +kernel
theorem dX8_tellsSight_4 : decode cX8_tellsSight 4 = .ok (.iconst 1, 1) := by decide +kernel
theorem dX8_tellsSight_5 : decode cX8_tellsSight 5 = .ok (.if_icmp .lt 26, 3) := by decide +kernel
theorem dX8_tellsSight_8 : decode cX8_tellsSight 8 = .ok (.aload_n 0, 1) := by decide +kernel
theorem dX8_tellsSight_9 : decode cX8_tellsSight 9 = .ok (.getfield 19, 3) := by decide +kernel
theorem dX8_tellsSight_12 : decode cX8_tellsSight 12 = .ok (.bipush 6, 2) := by decide +kernel
theorem dX8_tellsSight_14 : decode cX8_tellsSight 14 = .ok (.if_icmp .gt 17, 3) := by decide +kernel
theorem dX8_tellsSight_17 : decode cX8_tellsSight 17 = .ok (.aload_n 0, 1) := by decide +kernel
theorem dX8_tellsSight_18 : decode cX8_tellsSight 18 = .ok (.ldc2_w 44, 3) := by decide +kernel
theorem dX8_tellsSight_21 : decode cX8_tellsSight 21 = .ok (.invokevirtual 40, 3) := by decide +kernel
theorem dX8_tellsSight_24 : decode cX8_tellsSight 24 = .ok (.ifCond .eq 7, 3) := by decide +kernel
theorem dX8_tellsSight_27 : decode cX8_tellsSight 27 = .ok (.iconst 1, 1) := by decide +kernel
theorem dX8_tellsSight_28 : decode cX8_tellsSight 28 = .ok (.goto 4, 3) := by decide +kernel
theorem dX8_tellsSight_31 : decode cX8_tellsSight 31 = .ok (.iconst 0, 1) := by decide +kernel
theorem dX8_tellsSight_32 : decode cX8_tellsSight 32 = .ok (.ireturn, 1) := by decide +kernel
theorem dX8_tellsEachOnce_0 : decode cX8_tellsEachOnce 0 = .ok (.aload_n 0, 1) := by decide +kernel
theorem dX8_tellsEachOnce_1 : decode cX8_tellsEachOnce 1 = .ok (.getfield 19, 3) := by decide +kernel
theorem dX8_tellsEachOnce_4 : decode cX8_tellsEachOnce 4 = .ok (.iload_n 1, 1) := by decide +kernel
theorem dX8_tellsEachOnce_5 : decode cX8_tellsEachOnce 5 = .ok (.if_icmp .ne 15, 3) := by decide +kernel
theorem dX8_tellsEachOnce_8 : decode cX8_tellsEachOnce 8 = .ok (.aload_n 0, 1) := by decide +kernel
theorem dX8_tellsEachOnce_9 : decode cX8_tellsEachOnce 9 = .ok (.lconst 0, 1) := by decide +kernel
theorem dX8_tellsEachOnce_10 : decode cX8_tellsEachOnce 10 = .ok (.iload_n 1, 1) := by decide +kernel
theorem dX8_tellsEachOnce_11 : decode cX8_tellsEachOnce 11 = .ok (.iconst 1, 1) := by decide +kernel
theorem dX8_tellsEachOnce_12 : decode cX8_tellsEachOnce 12 = .ok (.isub, 1) := by decide +kernel
theorem dX8_tellsEachOnce_13 : decode cX8_tellsEachOnce 13 = .ok (.i2l, 1) := by decide +kernel
theorem dX8_tellsEachOnce_14 : decode cX8_tellsEachOnce 14 = .ok (.invokevirtual 46, 3) := by decide +kernel
theorem dX8_tellsEachOnce_17 : decode cX8_tellsEachOnce 17 = .ok (.ifCond .ne 5, 3) := by decide +kernel
theorem dX8_tellsEachOnce_20 : decode cX8_tellsEachOnce 20 = .ok (.iconst 0, 1) := by decide +kernel
theorem dX8_tellsEachOnce_21 : decode cX8_tellsEachOnce 21 = .ok (.ireturn, 1) := by decide +kernel
theorem dX8_tellsEachOnce_22 : decode cX8_tellsEachOnce 22 = .ok (.iconst 0, 1) := by decide +kernel
theorem dX8_tellsEachOnce_23 : decode cX8_tellsEachOnce 23 = .ok (.istore_n 2, 1) := by decide +kernel
theorem dX8_tellsEachOnce_24 : decode cX8_tellsEachOnce 24 = .ok (.iload_n 2, 1) := by decide +kernel
theorem dX8_tellsEachOnce_25 : decode cX8_tellsEachOnce 25 = .ok (.aload_n 0, 1) := by decide +kernel
theorem dX8_tellsEachOnce_26 : decode cX8_tellsEachOnce 26 = .ok (.getfield 19, 3) := by decide +kernel
theorem dX8_tellsEachOnce_29 : decode cX8_tellsEachOnce 29 = .ok (.if_icmp .ge 38, 3) := by decide +kernel
theorem dX8_tellsEachOnce_32 : decode cX8_tellsEachOnce 32 = .ok (.iconst 0, 1) := by decide +kernel
theorem dX8_tellsEachOnce_33 : decode cX8_tellsEachOnce 33 = .ok (.istore_n 3, 1) := by decide +kernel
theorem dX8_tellsEachOnce_34 : decode cX8_tellsEachOnce 34 = .ok (.iload_n 3, 1) := by decide +kernel
theorem dX8_tellsEachOnce_35 : decode cX8_tellsEachOnce 35 = .ok (.iload_n 2, 1) := by decide +kernel
theorem dX8_tellsEachOnce_36 : decode cX8_tellsEachOnce 36 = .ok (.if_icmp .ge 25, 3) := by decide +kernel
theorem dX8_tellsEachOnce_39 : decode cX8_tellsEachOnce 39 = .ok (.aload_n 0, 1) := by decide +kernel
theorem dX8_tellsEachOnce_40 : decode cX8_tellsEachOnce 40 = .ok (.iload_n 2, 1) := by decide +kernel
theorem dX8_tellsEachOnce_41 : decode cX8_tellsEachOnce 41 = .ok (.invokevirtual 36, 3) := by decide +kernel
theorem dX8_tellsEachOnce_44 : decode cX8_tellsEachOnce 44 = .ok (.aload_n 0, 1) := by decide +kernel
theorem dX8_tellsEachOnce_45 : decode cX8_tellsEachOnce 45 = .ok (.iload_n 3, 1) := by decide +kernel
theorem dX8_tellsEachOnce_46 : decode cX8_tellsEachOnce 46 = .ok (.invokevirtual 36, 3) := by decide +kernel
theorem dX8_tellsEachOnce_49 : decode cX8_tellsEachOnce 49 = .ok (.lcmp, 1) := by decide +kernel
theorem dX8_tellsEachOnce_50 : decode cX8_tellsEachOnce 50 = .ok (.ifCond .ne 5, 3) := by decide +kernel
theorem dX8_tellsEachOnce_53 : decode cX8_tellsEachOnce 53 = .ok (.iconst 0, 1) := by decide +kernel
theorem dX8_tellsEachOnce_54 : decode cX8_tellsEachOnce 54 = .ok (.ireturn, 1) := by decide +kernel
theorem dX8_tellsEachOnce_55 : decode cX8_tellsEachOnce 55 = .ok (.iinc 3 1, 3) := by decide +kernel
theorem dX8_tellsEachOnce_58 : decode cX8_tellsEachOnce 58 = .ok (.goto (-24), 3) := by decide +kernel
theorem dX8_tellsEachOnce_61 : decode cX8_tellsEachOnce 61 = .ok (.iinc 2 1, 3) := by decide +kernel
theorem dX8_tellsEachOnce_64 : decode cX8_tellsEachOnce 64 = .ok (.goto (-40), 3) := by decide +kernel
theorem dX8_tellsEachOnce_67 : decode cX8_tellsEachOnce 67 = .ok (.iconst 1, 1) := by decide +kernel
theorem dX8_tellsEachOnce_68 : decode cX8_tellsEachOnce 68 = .ok (.ireturn, 1) := by decide +kernel
theorem dX9_init_0 : decode cX9_init 0 = .ok (.aload_n 0, 1) := by decide +kernel
theorem dX9_init_1 : decode cX9_init 1 = .ok (.invokespecial 3, 3) := by decide +kernel
theorem dX9_init_4 : decode cX9_init 4 = .ok (.aload_n 0, 1) := by decide +kernel
theorem dX9_init_5 : decode cX9_init 5 = .ok (.sipush 1024, 3) := by decide +kernel
theorem dX9_init_8 : decode cX9_init 8 = .ok (.newarray .int, 2) := by decide +kernel
theorem dX9_init_10 : decode cX9_init 10 = .ok (.putfield 11, 3) := by decide +kernel
theorem dX9_init_13 : decode cX9_init 13 = .ok (.aload_n 0, 1) := by decide +kernel
theorem dX9_init_14 : decode cX9_init 14 = .ok (.sipush 1024, 3) := by decide +kernel
theorem dX9_init_17 : decode cX9_init 17 = .ok (.newarray .int, 2) := by decide +kernel
theorem dX9_init_19 : decode cX9_init 19 = .ok (.putfield 15, 3) := by decide +kernel
theorem dX9_init_22 : decode cX9_init 22 = .ok (.aload_n 0, 1) := by decide +kernel
theorem dX9_init_23 : decode cX9_init 23 = .ok (.sipush 1024, 3) := by decide +kernel
theorem dX9_init_26 : decode cX9_init 26 = .ok (.newarray .int, 2) := by decide +kernel
theorem dX9_init_28 : decode cX9_init 28 = .ok (.putfield 18, 3) := by decide +kernel
theorem dX9_init_31 : decode cX9_init 31 = .ok (.aload_n 0, 1) := by decide +kernel
theorem dX9_init_32 : decode cX9_init 32 = .ok (.sipush 1024, 3) := by decide +kernel
theorem dX9_init_35 : decode cX9_init 35 = .ok (.newarray .int, 2) := by decide +kernel
theorem dX9_init_37 : decode cX9_init 37 = .ok (.putfield 21, 3) := by decide +kernel
theorem dX9_init_40 : decode cX9_init 40 = .ok (.aload_n 0, 1) := by decide +kernel
theorem dX9_init_41 : decode cX9_init 41 = .ok (.sipush 1024, 3) := by decide +kernel
theorem dX9_init_44 : decode cX9_init 44 = .ok (.newarray .int, 2) := by decide +kernel
theorem dX9_init_46 : decode cX9_init 46 = .ok (.putfield 24, 3) := by decide +kernel
theorem dX9_init_49 : decode cX9_init 49 = .ok (.aload_n 0, 1) := by decide +kernel
theorem dX9_init_50 : decode cX9_init 50 = .ok (.sipush 1024, 3) := by decide +kernel
theorem dX9_init_53 : decode cX9_init 53 = .ok (.newarray .int, 2) := by decide +kernel
theorem dX9_init_55 : decode cX9_init 55 = .ok (.putfield 27, 3) := by decide +kernel
theorem dX9_init_58 : decode cX9_init 58 = .ok (.aload_n 0, 1) := by decide +kernel
theorem dX9_init_59 : decode cX9_init 59 = .ok (.sipush 1024, 3) := by decide +kernel
theorem dX9_init_62 : decode cX9_init 62 = .ok (.newarray .int, 2) := by decide +kernel
theorem dX9_init_64 : decode cX9_init 64 = .ok (.putfield 30, 3) := by decide +kernel
theorem dX9_init_67 : decode cX9_init 67 = .ok (.aload_n 0, 1) := by decide +kernel
theorem dX9_init_68 : decode cX9_init 68 = .ok (.sipush 1024, 3) := by decide +kernel
theorem dX9_init_71 : decode cX9_init 71 = .ok (.newarray .int, 2) := by decide +kernel
theorem dX9_init_73 : decode cX9_init 73 = .ok (.putfield 33, 3) := by decide +kernel
theorem dX9_init_76 : decode cX9_init 76 = .ok (.aload_n 0, 1) := by decide +kernel
theorem dX9_init_77 : decode cX9_init 77 = .ok (.sipush 2048, 3) := by decide +kernel
theorem dX9_init_80 : decode cX9_init 80 = .ok (.newarray .int, 2) := by decide +kernel
theorem dX9_init_82 : decode cX9_init 82 = .ok (.putfield 36, 3) := by decide +kernel
theorem dX9_init_85 : decode cX9_init 85 = .ok (.aload_n 0, 1) := by decide +kernel
theorem dX9_init_86 : decode cX9_init 86 = .ok (.new 39, 3) := by decide +kernel
theorem dX9_init_89 : decode cX9_init 89 = .ok (.dup, 1) := by decide +kernel
theorem dX9_init_90 : decode cX9_init 90 = .ok (.invokespecial 41, 3) := by decide +kernel
theorem dX9_init_93 : decode cX9_init 93 = .ok (.putfield 42, 3) := by decide +kernel
theorem dX9_init_96 : decode cX9_init 96 = .ok (.aload_n 0, 1) := by decide +kernel
theorem dX9_init_97 : decode cX9_init 97 = .ok (.new 39, 3) := by decide +kernel
theorem dX9_init_100 : decode cX9_init 100 = .ok (.dup, 1) := by decide +kernel
theorem dX9_init_101 : decode cX9_init 101 = .ok (.invokespecial 41, 3) := by decide +kernel
theorem dX9_init_104 : decode cX9_init 104 = .ok (.putfield 46, 3) := by decide +kernel
theorem dX9_init_107 : decode cX9_init 107 = .ok (.aload_n 0, 1) := by decide +kernel
theorem dX9_init_108 : decode cX9_init 108 = .ok (.iconst 0, 1) := by decide +kernel
theorem dX9_init_109 : decode cX9_init 109 = .ok (.putfield 49, 3) := by decide +kernel
theorem dX9_init_112 : decode cX9_init 112 = .ok (.aload_n 0, 1) := by decide +kernel
theorem dX9_init_113 : decode cX9_init 113 = .ok (.iconst 0, 1) := by decide +kernel
theorem dX9_init_114 : decode cX9_init 114 = .ok (.putfield 53, 3) := by decide +kernel
theorem dX9_init_117 : decode cX9_init 117 = .ok (.return_, 1) := by decide +kernel
theorem dX9_grow_0 : decode cX9_grow 0 = .ok (.aload_n 0, 1) := by decide +kernel
theorem dX9_grow_1 : decode cX9_grow 1 = .ok (.getfield 53, 3) := by decide +kernel
theorem dX9_grow_4 : decode cX9_grow 4 = .ok (.ifCond .le 27, 3) := by decide +kernel
theorem dX9_grow_7 : decode cX9_grow 7 = .ok (.aload_n 0, 1) := by decide +kernel
theorem dX9_grow_8 : decode cX9_grow 8 = .ok (.getfield 49, 3) := by decide +kernel
theorem dX9_grow_11 : decode cX9_grow 11 = .ok (.aload_n 1, 1) := by decide +kernel
theorem dX9_grow_12 : decode cX9_grow 12 = .ok (.invokevirtual 56, 3) := by decide +kernel
theorem dX9_grow_15 : decode cX9_grow 15 = .ok (.if_icmp .ne 16, 3) := by decide +kernel
theorem dX9_grow_18 : decode cX9_grow 18 = .ok (.aload_n 0, 1) := by decide +kernel
theorem dX9_grow_19 : decode cX9_grow 19 = .ok (.iconst 0, 1) := by decide +kernel
theorem dX9_grow_20 : decode cX9_grow 20 = .ok (.invokevirtual 59, 3) := by decide +kernel
theorem dX9_grow_23 : decode cX9_grow 23 = .ok (.aload_n 1, 1) := by decide +kernel
theorem dX9_grow_24 : decode cX9_grow 24 = .ok (.invokevirtual 63, 3) := by decide +kernel
theorem dX9_grow_27 : decode cX9_grow 27 = .ok (.if_icmp .ne 4, 3) := by decide +kernel
theorem dX9_grow_30 : decode cX9_grow 30 = .ok (.return_, 1) := by decide +kernel
theorem dX9_grow_31 : decode cX9_grow 31 = .ok (.aload_n 0, 1) := by decide +kernel
theorem dX9_grow_32 : decode cX9_grow 32 = .ok (.aload_n 1, 1) := by decide +kernel
theorem dX9_grow_33 : decode cX9_grow 33 = .ok (.invokevirtual 56, 3) := by decide +kernel
theorem dX9_grow_36 : decode cX9_grow 36 = .ok (.putfield 49, 3) := by decide +kernel
theorem dX9_grow_39 : decode cX9_grow 39 = .ok (.aload_n 0, 1) := by decide +kernel
theorem dX9_grow_40 : decode cX9_grow 40 = .ok (.iconst 0, 1) := by decide +kernel
theorem dX9_grow_41 : decode cX9_grow 41 = .ok (.putfield 53, 3) := by decide +kernel
theorem dX9_grow_44 : decode cX9_grow 44 = .ok (.aload_n 0, 1) := by decide +kernel
theorem dX9_grow_45 : decode cX9_grow 45 = .ok (.getfield 36, 3) := by decide +kernel
theorem dX9_grow_48 : decode cX9_grow 48 = .ok (.iconst (-1), 1) := by decide +kernel
theorem dX9_grow_49 : decode cX9_grow 49 = .ok (.invokestatic 66, 3) := by decide +kernel
theorem dX9_grow_52 : decode cX9_grow 52 = .ok (.aload_n 0, 1) := by decide +kernel
theorem dX9_grow_53 : decode cX9_grow 53 = .ok (.aload_n 1, 1) := by decide +kernel
theorem dX9_grow_54 : decode cX9_grow 54 = .ok (.invokevirtual 63, 3) := by decide +kernel
theorem dX9_grow_57 : decode cX9_grow 57 = .ok (.iconst (-1), 1) := by decide +kernel
theorem dX9_grow_58 : decode cX9_grow 58 = .ok (.iconst (-1), 1) := by decide +kernel
theorem dX9_grow_59 : decode cX9_grow 59 = .ok (.invokevirtual 72, 3) := by decide +kernel
theorem dX9_grow_62 : decode cX9_grow 62 = .ok (.iconst 0, 1) := by decide +kernel
theorem dX9_grow_63 : decode cX9_grow 63 = .ok (.istore_n 2, 1) := by decide +kernel
theorem dX9_grow_64 : decode cX9_grow 64 = .ok (.iload_n 2, 1) := by decide +kernel
theorem dX9_grow_65 : decode cX9_grow 65 = .ok (.aload_n 0, 1) := by decide +kernel
theorem dX9_grow_66 : decode cX9_grow 66 = .ok (.getfield 53, 3) := by decide +kernel
theorem dX9_grow_69 : decode cX9_grow 69 = .ok (.if_icmp .ge 21, 3) := by decide +kernel
theorem dX9_grow_72 : decode cX9_grow 72 = .ok (.iload_n 2, 1) := by decide +kernel
theorem dX9_grow_73 : decode cX9_grow 73 = .ok (.sipush 1024, 3) := by decide +kernel
theorem dX9_grow_76 : decode cX9_grow 76 = .ok (.if_icmp .ge 14, 3) := by decide +kernel
theorem dX9_grow_79 : decode cX9_grow 79 = .ok (.aload_n 0, 1) := by decide +kernel
theorem dX9_grow_80 : decode cX9_grow 80 = .ok (.iload_n 2, 1) := by decide +kernel
theorem dX9_grow_81 : decode cX9_grow 81 = .ok (.invokevirtual 76, 3) := by decide +kernel
theorem dX9_grow_84 : decode cX9_grow 84 = .ok (.iinc 2 1, 3) := by decide +kernel
theorem dX9_grow_87 : decode cX9_grow 87 = .ok (.goto (-23), 3) := by decide +kernel
theorem dX9_grow_90 : decode cX9_grow 90 = .ok (.return_, 1) := by decide +kernel
theorem dX9_growFrom_0 : decode cX9_growFrom 0 = .ok (.aload_n 0, 1) := by decide +kernel
theorem dX9_growFrom_1 : decode cX9_growFrom 1 = .ok (.iload_n 1, 1) := by decide +kernel
theorem dX9_growFrom_2 : decode cX9_growFrom 2 = .ok (.invokevirtual 80, 3) := by decide +kernel
theorem dX9_growFrom_5 : decode cX9_growFrom 5 = .ok (.astore_n 2, 1) := by decide +kernel
theorem dX9_growFrom_6 : decode cX9_growFrom 6 = .ok (.iconst 1, 1) := by decide +kernel
theorem dX9_growFrom_7 : decode cX9_growFrom 7 = .ok (.istore_n 3, 1) := by decide +kernel
theorem dX9_growFrom_8 : decode cX9_growFrom 8 = .ok (.iload_n 3, 1) := by decide +kernel
theorem dX9_growFrom_9 : decode cX9_growFrom 9 = .ok (.aload_n 2, 1) := by decide +kernel
theorem dX9_growFrom_10 : decode cX9_growFrom 10 = .ok (.getfield 84, 3) := by decide +kernel
theorem dX9_growFrom_13 : decode cX9_growFrom 13 = .ok (.if_icmp .ge 54, 3) := by decide +kernel
theorem dX9_growFrom_16 : decode cX9_growFrom 16 = .ok (.iconst 0, 1) := by decide +kernel
theorem dX9_growFrom_17 : decode cX9_growFrom 17 = .ok (.istore 4, 2) := by decide +kernel
theorem dX9_growFrom_19 : decode cX9_growFrom 19 = .ok (.iload 4, 2) := by decide +kernel
theorem dX9_growFrom_21 : decode cX9_growFrom 21 = .ok (.iconst 4, 1) := by decide +kernel
theorem dX9_growFrom_22 : decode cX9_growFrom 22 = .ok (.if_icmp .ge 39, 3) := by decide +kernel
theorem dX9_growFrom_25 : decode cX9_growFrom 25 = .ok (.aload_n 0, 1) := by decide +kernel
theorem dX9_growFrom_26 : decode cX9_growFrom 26 = .ok (.getfield 46, 3) := by decide +kernel
theorem dX9_growFrom_29 : decode cX9_growFrom 29 = .ok (.aload_n 2, 1) := by decide +kernel
theorem dX9_growFrom_30 : decode cX9_growFrom 30 = .ok (.iload_n 3, 1) := by decide +kernel
theorem dX9_growFrom_31 : decode cX9_growFrom 31 = .ok (.iload 4, 2) := by decide +kernel
theorem dX9_growFrom_33 : decode cX9_growFrom 33 = .ok (.invokevirtual 87, 3) := by decide +kernel
theorem dX9_growFrom_36 : decode cX9_growFrom 36 = .ok (.aload_n 0, 1) := by decide +kernel
theorem dX9_growFrom_37 : decode cX9_growFrom 37 = .ok (.aload_n 0, 1) := by decide +kernel
theorem dX9_growFrom_38 : decode cX9_growFrom 38 = .ok (.getfield 46, 3) := by decide +kernel
theorem dX9_growFrom_41 : decode cX9_growFrom 41 = .ok (.invokevirtual 63, 3) := by decide +kernel
theorem dX9_growFrom_44 : decode cX9_growFrom 44 = .ok (.iload_n 1, 1) := by decide +kernel
theorem dX9_growFrom_45 : decode cX9_growFrom 45 = .ok (.bipush 10, 2) := by decide +kernel
theorem dX9_growFrom_47 : decode cX9_growFrom 47 = .ok (.iload_n 3, 1) := by decide +kernel
theorem dX9_growFrom_48 : decode cX9_growFrom 48 = .ok (.imul, 1) := by decide +kernel
theorem dX9_growFrom_49 : decode cX9_growFrom 49 = .ok (.iload 4, 2) := by decide +kernel
theorem dX9_growFrom_51 : decode cX9_growFrom 51 = .ok (.iadd, 1) := by decide +kernel
theorem dX9_growFrom_52 : decode cX9_growFrom 52 = .ok (.invokevirtual 72, 3) := by decide +kernel
theorem dX9_growFrom_55 : decode cX9_growFrom 55 = .ok (.iinc 4 1, 3) := by decide +kernel
theorem dX9_growFrom_58 : decode cX9_growFrom 58 = .ok (.goto (-39), 3) := by decide +kernel
theorem dX9_growFrom_61 : decode cX9_growFrom 61 = .ok (.iinc 3 1, 3) := by decide +kernel
theorem dX9_growFrom_64 : decode cX9_growFrom 64 = .ok (.goto (-56), 3) := by decide +kernel
theorem dX9_growFrom_67 : decode cX9_growFrom 67 = .ok (.return_, 1) := by decide +kernel
theorem dX9_add_0 : decode cX9_add 0 = .ok (.aload_n 0, 1) := by decide +kernel
theorem dX9_add_1 : decode cX9_add 1 = .ok (.iload_n 1, 1) := by decide +kernel
theorem dX9_add_2 : decode cX9_add 2 = .ok (.invokevirtual 91, 3) := by decide +kernel
theorem dX9_add_5 : decode cX9_add 5 = .ok (.istore 4, 2) := by decide +kernel
theorem dX9_add_7 : decode cX9_add 7 = .ok (.aload_n 0, 1) := by decide +kernel
theorem dX9_add_8 : decode cX9_add 8 = .ok (.getfield 36, 3) := by decide +kernel
theorem dX9_add_11 : decode cX9_add 11 = .ok (.iload 4, 2) := by decide +kernel
theorem dX9_add_13 : decode cX9_add 13 = .ok (.invokestatic 94, 3) := by decide +kernel
theorem dX9_add_16 : decode cX9_add 16 = .ok (.istore 5, 2) := by decide +kernel
theorem dX9_add_18 : decode cX9_add 18 = .ok (.iload_n 2, 1) := by decide +kernel
theorem dX9_add_19 : decode cX9_add 19 = .ok (.iconst (-1), 1) := by decide +kernel
theorem dX9_add_20 : decode cX9_add 20 = .ok (.if_icmp .ne 7, 3) := by decide +kernel
theorem dX9_add_23 : decode cX9_add 23 = .ok (.iconst 0, 1) := by decide +kernel
theorem dX9_add_24 : decode cX9_add 24 = .ok (.goto 10, 3) := by decide +kernel
theorem dX9_add_27 : decode cX9_add 27 = .ok (.aload_n 0, 1) := by decide +kernel
theorem dX9_add_28 : decode cX9_add 28 = .ok (.iload_n 2, 1) := by decide +kernel
theorem dX9_add_29 : decode cX9_add 29 = .ok (.invokevirtual 98, 3) := by decide +kernel
theorem dX9_add_32 : decode cX9_add 32 = .ok (.iconst 1, 1) := by decide +kernel
theorem dX9_add_33 : decode cX9_add 33 = .ok (.iadd, 1) := by decide +kernel
theorem dX9_add_34 : decode cX9_add 34 = .ok (.istore 6, 2) := by decide +kernel
theorem dX9_add_36 : decode cX9_add 36 = .ok (.iload_n 2, 1) := by decide +kernel
theorem dX9_add_37 : decode cX9_add 37 = .ok (.iconst (-1), 1) := by decide +kernel
theorem dX9_add_38 : decode cX9_add 38 = .ok (.if_icmp .ne 7, 3) := by decide +kernel
theorem dX9_add_41 : decode cX9_add 41 = .ok (.iconst 1, 1) := by decide +kernel
theorem dX9_add_42 : decode cX9_add 42 = .ok (.goto 8, 3) := by decide +kernel
theorem dX9_add_45 : decode cX9_add 45 = .ok (.aload_n 0, 1) := by decide +kernel
theorem dX9_add_46 : decode cX9_add 46 = .ok (.iload_n 2, 1) := by decide +kernel
theorem dX9_add_47 : decode cX9_add 47 = .ok (.invokevirtual 101, 3) := by decide +kernel
theorem dX9_add_50 : decode cX9_add 50 = .ok (.istore 7, 2) := by decide +kernel
theorem dX9_add_52 : decode cX9_add 52 = .ok (.iload 5, 2) := by decide +kernel
theorem dX9_add_54 : decode cX9_add 54 = .ok (.iconst (-1), 1) := by decide +kernel
theorem dX9_add_55 : decode cX9_add 55 = .ok (.if_icmp .ne 7, 3) := by decide +kernel
theorem dX9_add_58 : decode cX9_add 58 = .ok (.iconst (-1), 1) := by decide +kernel
theorem dX9_add_59 : decode cX9_add 59 = .ok (.goto 12, 3) := by decide +kernel
theorem dX9_add_62 : decode cX9_add 62 = .ok (.aload_n 0, 1) := by decide +kernel
theorem dX9_add_63 : decode cX9_add 63 = .ok (.getfield 30, 3) := by decide +kernel
theorem dX9_add_66 : decode cX9_add 66 = .ok (.iload 5, 2) := by decide +kernel
theorem dX9_add_68 : decode cX9_add 68 = .ok (.invokestatic 94, 3) := by decide +kernel
theorem dX9_add_71 : decode cX9_add 71 = .ok (.istore 8, 2) := by decide +kernel
theorem dX9_add_73 : decode cX9_add 73 = .ok (.iload 8, 2) := by decide +kernel
theorem dX9_add_75 : decode cX9_add 75 = .ok (.iconst (-1), 1) := by decide +kernel
theorem dX9_add_76 : decode cX9_add 76 = .ok (.if_icmp .eq 33, 3) := by decide +kernel
theorem dX9_add_79 : decode cX9_add 79 = .ok (.aload_n 0, 1) := by decide +kernel
theorem dX9_add_80 : decode cX9_add 80 = .ok (.iload 8, 2) := by decide +kernel
theorem dX9_add_82 : decode cX9_add 82 = .ok (.invokevirtual 98, 3) := by decide +kernel
theorem dX9_add_85 : decode cX9_add 85 = .ok (.iload 6, 2) := by decide +kernel
theorem dX9_add_87 : decode cX9_add 87 = .ok (.if_icmp .ne 22, 3) := by decide +kernel
theorem dX9_add_90 : decode cX9_add 90 = .ok (.aload_n 0, 1) := by decide +kernel
theorem dX9_add_91 : decode cX9_add 91 = .ok (.getfield 24, 3) := by decide +kernel
theorem dX9_add_94 : decode cX9_add 94 = .ok (.iload 8, 2) := by decide +kernel
theorem dX9_add_96 : decode cX9_add 96 = .ok (.aload_n 0, 1) := by decide +kernel
theorem dX9_add_97 : decode cX9_add 97 = .ok (.iload 8, 2) := by decide +kernel
theorem dX9_add_99 : decode cX9_add 99 = .ok (.invokevirtual 101, 3) := by decide +kernel
theorem dX9_add_102 : decode cX9_add 102 = .ok (.iload 7, 2) := by decide +kernel
theorem dX9_add_104 : decode cX9_add 104 = .ok (.iadd, 1) := by decide +kernel
theorem dX9_add_105 : decode cX9_add 105 = .ok (.invokestatic 104, 3) := by decide +kernel
theorem dX9_add_108 : decode cX9_add 108 = .ok (.return_, 1) := by decide +kernel
theorem dX9_add_109 : decode cX9_add 109 = .ok (.aload_n 0, 1) := by decide +kernel
theorem dX9_add_110 : decode cX9_add 110 = .ok (.getfield 53, 3) := by decide +kernel
theorem dX9_add_113 : decode cX9_add 113 = .ok (.ifCond .lt 13, 3) := by decide +kernel
theorem dX9_add_116 : decode cX9_add 116 = .ok (.aload_n 0, 1) := by decide +kernel
theorem dX9_add_117 : decode cX9_add 117 = .ok (.getfield 53, 3) := by decide +kernel
theorem dX9_add_120 : decode cX9_add 120 = .ok (.sipush 1024, 3) := by decide +kernel
theorem dX9_add_123 : decode cX9_add 123 = .ok (.if_icmp .lt 4, 3) := by decide +kernel
theorem dX9_add_126 : decode cX9_add 126 = .ok (.return_, 1) := by decide +kernel
theorem dX9_add_127 : decode cX9_add 127 = .ok (.aload_n 0, 1) := by decide +kernel
theorem dX9_add_128 : decode cX9_add 128 = .ok (.getfield 53, 3) := by decide +kernel
theorem dX9_add_131 : decode cX9_add 131 = .ok (.istore 9, 2) := by decide +kernel
theorem dX9_add_133 : decode cX9_add 133 = .ok (.aload_n 0, 1) := by decide +kernel
theorem dX9_add_134 : decode cX9_add 134 = .ok (.dup, 1) := by decide +kernel
theorem dX9_add_135 : decode cX9_add 135 = .ok (.getfield 53, 3) := by decide +kernel
theorem dX9_add_138 : decode cX9_add 138 = .ok (.iconst 1, 1) := by decide +kernel
theorem dX9_add_139 : decode cX9_add 139 = .ok (.iadd, 1) := by decide +kernel
theorem dX9_add_140 : decode cX9_add 140 = .ok (.putfield 53, 3) := by decide +kernel
theorem dX9_add_143 : decode cX9_add 143 = .ok (.aload_n 0, 1) := by decide +kernel
theorem dX9_add_144 : decode cX9_add 144 = .ok (.getfield 11, 3) := by decide +kernel
theorem dX9_add_147 : decode cX9_add 147 = .ok (.iload 9, 2) := by decide +kernel
theorem dX9_add_149 : decode cX9_add 149 = .ok (.iload_n 1, 1) := by decide +kernel
theorem dX9_add_150 : decode cX9_add 150 = .ok (.invokestatic 104, 3) := by decide +kernel
theorem dX9_add_153 : decode cX9_add 153 = .ok (.aload_n 0, 1) := by decide +kernel
theorem dX9_add_154 : decode cX9_add 154 = .ok (.getfield 15, 3) := by decide +kernel
theorem dX9_add_157 : decode cX9_add 157 = .ok (.iload 9, 2) := by decide +kernel
theorem dX9_add_159 : decode cX9_add 159 = .ok (.iload_n 2, 1) := by decide +kernel
theorem dX9_add_160 : decode cX9_add 160 = .ok (.invokestatic 104, 3) := by decide +kernel
theorem dX9_add_163 : decode cX9_add 163 = .ok (.aload_n 0, 1) := by decide +kernel
theorem dX9_add_164 : decode cX9_add 164 = .ok (.getfield 18, 3) := by decide +kernel
theorem dX9_add_167 : decode cX9_add 167 = .ok (.iload 9, 2) := by decide +kernel
theorem dX9_add_169 : decode cX9_add 169 = .ok (.iload_n 3, 1) := by decide +kernel
theorem dX9_add_170 : decode cX9_add 170 = .ok (.invokestatic 104, 3) := by decide +kernel
theorem dX9_add_173 : decode cX9_add 173 = .ok (.aload_n 0, 1) := by decide +kernel
theorem dX9_add_174 : decode cX9_add 174 = .ok (.getfield 21, 3) := by decide +kernel
theorem dX9_add_177 : decode cX9_add 177 = .ok (.iload 9, 2) := by decide +kernel
theorem dX9_add_179 : decode cX9_add 179 = .ok (.iload 6, 2) := by decide +kernel
theorem dX9_add_181 : decode cX9_add 181 = .ok (.invokestatic 104, 3) := by decide +kernel
theorem dX9_add_184 : decode cX9_add 184 = .ok (.aload_n 0, 1) := by decide +kernel
theorem dX9_add_185 : decode cX9_add 185 = .ok (.getfield 24, 3) := by decide +kernel
theorem dX9_add_188 : decode cX9_add 188 = .ok (.iload 9, 2) := by decide +kernel
theorem dX9_add_190 : decode cX9_add 190 = .ok (.iload 7, 2) := by decide +kernel
theorem dX9_add_192 : decode cX9_add 192 = .ok (.invokestatic 104, 3) := by decide +kernel
theorem dX9_add_195 : decode cX9_add 195 = .ok (.aload_n 0, 1) := by decide +kernel
theorem dX9_add_196 : decode cX9_add 196 = .ok (.getfield 27, 3) := by decide +kernel
theorem dX9_add_199 : decode cX9_add 199 = .ok (.iload 9, 2) := by decide +kernel
theorem dX9_add_201 : decode cX9_add 201 = .ok (.iload 5, 2) := by decide +kernel
theorem dX9_add_203 : decode cX9_add 203 = .ok (.iconst (-1), 1) := by decide +kernel
theorem dX9_add_204 : decode cX9_add 204 = .ok (.if_icmp .ne 8, 3) := by decide +kernel
theorem dX9_add_207 : decode cX9_add 207 = .ok (.iload 9, 2) := by decide +kernel
theorem dX9_add_209 : decode cX9_add 209 = .ok (.goto 5, 3) := by decide +kernel
theorem dX9_add_212 : decode cX9_add 212 = .ok (.iload 5, 2) := by decide +kernel
theorem dX9_add_214 : decode cX9_add 214 = .ok (.invokestatic 104, 3) := by decide +kernel
theorem dX9_add_217 : decode cX9_add 217 = .ok (.aload_n 0, 1) := by decide +kernel
theorem dX9_add_218 : decode cX9_add 218 = .ok (.getfield 30, 3) := by decide +kernel
theorem dX9_add_221 : decode cX9_add 221 = .ok (.iload 5, 2) := by decide +kernel
theorem dX9_add_223 : decode cX9_add 223 = .ok (.iconst (-1), 1) := by decide +kernel
theorem dX9_add_224 : decode cX9_add 224 = .ok (.if_icmp .ne 8, 3) := by decide +kernel
theorem dX9_add_227 : decode cX9_add 227 = .ok (.iload 9, 2) := by decide +kernel
theorem dX9_add_229 : decode cX9_add 229 = .ok (.goto 5, 3) := by decide +kernel
theorem dX9_add_232 : decode cX9_add 232 = .ok (.iload 5, 2) := by decide +kernel
theorem dX9_add_234 : decode cX9_add 234 = .ok (.iload 9, 2) := by decide +kernel
theorem dX9_add_236 : decode cX9_add 236 = .ok (.invokestatic 104, 3) := by decide +kernel
theorem dX9_add_239 : decode cX9_add 239 = .ok (.iload 5, 2) := by decide +kernel
theorem dX9_add_241 : decode cX9_add 241 = .ok (.iconst (-1), 1) := by decide +kernel
theorem dX9_add_242 : decode cX9_add 242 = .ok (.if_icmp .ne 14, 3) := by decide +kernel
theorem dX9_add_245 : decode cX9_add 245 = .ok (.aload_n 0, 1) := by decide +kernel
theorem dX9_add_246 : decode cX9_add 246 = .ok (.getfield 36, 3) := by decide +kernel
theorem dX9_add_249 : decode cX9_add 249 = .ok (.iload 4, 2) := by decide +kernel
theorem dX9_add_251 : decode cX9_add 251 = .ok (.iload 9, 2) := by decide +kernel
theorem dX9_add_253 : decode cX9_add 253 = .ok (.invokestatic 104, 3) := by decide +kernel
theorem dX9_add_256 : decode cX9_add 256 = .ok (.return_, 1) := by decide +kernel
theorem dX9_slotOf_0 : decode cX9_slotOf 0 = .ok (.iload_n 1, 1) := by decide +kernel
theorem dX9_slotOf_1 : decode cX9_slotOf 1 = .ok (.ldc 108, 2) := by decide +kernel
theorem dX9_slotOf_3 : decode cX9_slotOf 3 = .ok (.imul, 1) := by decide +kernel
theorem dX9_slotOf_4 : decode cX9_slotOf 4 = .ok (.bipush 21, 2) := by decide +kernel
theorem dX9_slotOf_6 : decode cX9_slotOf 6 = .ok (.iushr, 1) := by decide +kernel
theorem dX9_slotOf_7 : decode cX9_slotOf 7 = .ok (.istore_n 2, 1) := by decide +kernel
theorem dX9_slotOf_8 : decode cX9_slotOf 8 = .ok (.iconst 0, 1) := by decide +kernel
theorem dX9_slotOf_9 : decode cX9_slotOf 9 = .ok (.istore_n 3, 1) := by decide +kernel
theorem dX9_slotOf_10 : decode cX9_slotOf 10 = .ok (.iload_n 3, 1) := by decide +kernel
theorem dX9_slotOf_11 : decode cX9_slotOf 11 = .ok (.sipush 2048, 3) := by decide +kernel
theorem dX9_slotOf_14 : decode cX9_slotOf 14 = .ok (.if_icmp .ge 45, 3) := by decide +kernel
theorem dX9_slotOf_17 : decode cX9_slotOf 17 = .ok (.aload_n 0, 1) := by decide +kernel
theorem dX9_slotOf_18 : decode cX9_slotOf 18 = .ok (.getfield 36, 3) := by decide +kernel
theorem dX9_slotOf_21 : decode cX9_slotOf 21 = .ok (.iload_n 2, 1) := by decide +kernel
theorem dX9_slotOf_22 : decode cX9_slotOf 22 = .ok (.invokestatic 94, 3) := by decide +kernel
theorem dX9_slotOf_25 : decode cX9_slotOf 25 = .ok (.istore 4, 2) := by decide +kernel
theorem dX9_slotOf_27 : decode cX9_slotOf 27 = .ok (.iload 4, 2) := by decide +kernel
theorem dX9_slotOf_29 : decode cX9_slotOf 29 = .ok (.iconst (-1), 1) := by decide +kernel
theorem dX9_slotOf_30 : decode cX9_slotOf 30 = .ok (.if_icmp .eq 13, 3) := by decide +kernel
theorem dX9_slotOf_33 : decode cX9_slotOf 33 = .ok (.aload_n 0, 1) := by decide +kernel
theorem dX9_slotOf_34 : decode cX9_slotOf 34 = .ok (.iload 4, 2) := by decide +kernel
theorem dX9_slotOf_36 : decode cX9_slotOf 36 = .ok (.invokevirtual 59, 3) := by decide +kernel
theorem dX9_slotOf_39 : decode cX9_slotOf 39 = .ok (.iload_n 1, 1) := by decide +kernel
theorem dX9_slotOf_40 : decode cX9_slotOf 40 = .ok (.if_icmp .ne 5, 3) := by decide +kernel
theorem dX9_slotOf_43 : decode cX9_slotOf 43 = .ok (.iload_n 2, 1) := by decide +kernel
theorem dX9_slotOf_44 : decode cX9_slotOf 44 = .ok (.ireturn, 1) := by decide +kernel
theorem dX9_slotOf_45 : decode cX9_slotOf 45 = .ok (.iload_n 2, 1) := by decide +kernel
theorem dX9_slotOf_46 : decode cX9_slotOf 46 = .ok (.iconst 1, 1) := by decide +kernel
theorem dX9_slotOf_47 : decode cX9_slotOf 47 = .ok (.iadd, 1) := by decide +kernel
theorem dX9_slotOf_48 : decode cX9_slotOf 48 = .ok (.sipush 2047, 3) := by decide +kernel
theorem dX9_slotOf_51 : decode cX9_slotOf 51 = .ok (.iand, 1) := by decide +kernel
theorem dX9_slotOf_52 : decode cX9_slotOf 52 = .ok (.istore_n 2, 1) := by decide +kernel
theorem dX9_slotOf_53 : decode cX9_slotOf 53 = .ok (.iinc 3 1, 3) := by decide +kernel
theorem dX9_slotOf_56 : decode cX9_slotOf 56 = .ok (.goto (-46), 3) := by decide +kernel
theorem dX9_slotOf_59 : decode cX9_slotOf 59 = .ok (.iload_n 2, 1) := by decide +kernel
theorem dX9_slotOf_60 : decode cX9_slotOf 60 = .ok (.ireturn, 1) := by decide +kernel
theorem dX9_valueAt_0 : decode cX9_valueAt 0 = .ok (.iload_n 1, 1) := by decide +kernel
theorem dX9_valueAt_1 : decode cX9_valueAt 1 = .ok (.ifCond .lt 15, 3) := by decide +kernel
theorem dX9_valueAt_4 : decode cX9_valueAt 4 = .ok (.iload_n 1, 1) := by decide +kernel
theorem dX9_valueAt_5 : decode cX9_valueAt 5 = .ok (.aload_n 0, 1) := by decide +kernel
theorem dX9_valueAt_6 : decode cX9_valueAt 6 = .ok (.arraylength, 1) := by decide +kernel
theorem dX9_valueAt_7 : decode cX9_valueAt 7 = .ok (.if_icmp .ge 9, 3) := by decide +kernel
theorem dX9_valueAt_10 : decode cX9_valueAt 10 = .ok (.aload_n 0, 1) := by decide +kernel
theorem dX9_valueAt_11 : decode cX9_valueAt 11 = .ok (.iload_n 1, 1) := by decide +kernel
theorem dX9_valueAt_12 : decode cX9_valueAt 12 = .ok (.iaload, 1) := by decide +kernel
theorem dX9_valueAt_13 : decode cX9_valueAt 13 = .ok (.goto 4, 3) := by decide +kernel
theorem dX9_valueAt_16 : decode cX9_valueAt 16 = .ok (.iconst (-1), 1) := by decide +kernel
theorem dX9_valueAt_17 : decode cX9_valueAt 17 = .ok (.ireturn, 1) := by decide +kernel
theorem dX9_put_0 : decode cX9_put 0 = .ok (.iload_n 1, 1) := by decide +kernel
theorem dX9_put_1 : decode cX9_put 1 = .ok (.ifCond .lt 13, 3) := by decide +kernel
theorem dX9_put_4 : decode cX9_put 4 = .ok (.iload_n 1, 1) := by decide +kernel
theorem dX9_put_5 : decode cX9_put 5 = .ok (.aload_n 0, 1) := by decide +kernel
theorem dX9_put_6 : decode cX9_put 6 = .ok (.arraylength, 1) := by decide +kernel
theorem dX9_put_7 : decode cX9_put 7 = .ok (.if_icmp .ge 7, 3) := by decide +kernel
theorem dX9_put_10 : decode cX9_put 10 = .ok (.aload_n 0, 1) := by decide +kernel
theorem dX9_put_11 : decode cX9_put 11 = .ok (.iload_n 1, 1) := by decide +kernel
theorem dX9_put_12 : decode cX9_put 12 = .ok (.iload_n 2, 1) := by decide +kernel
theorem dX9_put_13 : decode cX9_put 13 = .ok (.iastore, 1) := by decide +kernel
theorem dX9_put_14 : decode cX9_put 14 = .ok (.return_, 1) := by decide +kernel
theorem dX9_keyOf_0 : decode cX9_keyOf 0 = .ok (.aload_n 0, 1) := by decide +kernel
theorem dX9_keyOf_1 : decode cX9_keyOf 1 = .ok (.getfield 11, 3) := by decide +kernel
theorem dX9_keyOf_4 : decode cX9_keyOf 4 = .ok (.iload_n 1, 1) := by decide +kernel
theorem dX9_keyOf_5 : decode cX9_keyOf 5 = .ok (.invokestatic 94, 3) := by decide +kernel
theorem dX9_keyOf_8 : decode cX9_keyOf 8 = .ok (.ireturn, 1) := by decide +kernel
theorem dX9_layOf_0 : decode cX9_layOf 0 = .ok (.aload_n 0, 1) := by decide +kernel
theorem dX9_layOf_1 : decode cX9_layOf 1 = .ok (.getfield 42, 3) := by decide +kernel
theorem dX9_layOf_4 : decode cX9_layOf 4 = .ok (.aload_n 0, 1) := by decide +kernel
theorem dX9_layOf_5 : decode cX9_layOf 5 = .ok (.iload_n 1, 1) := by decide +kernel
theorem dX9_layOf_6 : decode cX9_layOf 6 = .ok (.invokevirtual 59, 3) := by decide +kernel
theorem dX9_layOf_9 : decode cX9_layOf 9 = .ok (.aload_n 0, 1) := by decide +kernel
theorem dX9_layOf_10 : decode cX9_layOf 10 = .ok (.getfield 49, 3) := by decide +kernel
theorem dX9_layOf_13 : decode cX9_layOf 13 = .ok (.invokevirtual 109, 3) := by decide +kernel
theorem dX9_layOf_16 : decode cX9_layOf 16 = .ok (.aload_n 0, 1) := by decide +kernel
theorem dX9_layOf_17 : decode cX9_layOf 17 = .ok (.getfield 42, 3) := by decide +kernel
theorem dX9_layOf_20 : decode cX9_layOf 20 = .ok (.areturn, 1) := by decide +kernel
theorem dX9_depthOf_0 : decode cX9_depthOf 0 = .ok (.aload_n 0, 1) := by decide +kernel
theorem dX9_depthOf_1 : decode cX9_depthOf 1 = .ok (.getfield 21, 3) := by decide +kernel
theorem dX9_depthOf_4 : decode cX9_depthOf 4 = .ok (.iload_n 1, 1) := by decide +kernel
theorem dX9_depthOf_5 : decode cX9_depthOf 5 = .ok (.invokestatic 94, 3) := by decide +kernel
theorem dX9_depthOf_8 : decode cX9_depthOf 8 = .ok (.ireturn, 1) := by decide +kernel
theorem dX9_rowsTo_0 : decode cX9_rowsTo 0 = .ok (.aload_n 0, 1) := by decide +kernel
theorem dX9_rowsTo_1 : decode cX9_rowsTo 1 = .ok (.getfield 24, 3) := by decide +kernel
theorem dX9_rowsTo_4 : decode cX9_rowsTo 4 = .ok (.iload_n 1, 1) := by decide +kernel
theorem dX9_rowsTo_5 : decode cX9_rowsTo 5 = .ok (.invokestatic 94, 3) := by decide +kernel
theorem dX9_rowsTo_8 : decode cX9_rowsTo 8 = .ok (.ireturn, 1) := by decide +kernel
theorem dX9_foldOf_0 : decode cX9_foldOf 0 = .ok (.aload_n 0, 1) := by decide +kernel
theorem dX9_foldOf_1 : decode cX9_foldOf 1 = .ok (.iload_n 1, 1) := by decide +kernel
theorem dX9_foldOf_2 : decode cX9_foldOf 2 = .ok (.invokevirtual 98, 3) := by decide +kernel
theorem dX9_foldOf_5 : decode cX9_foldOf 5 = .ok (.istore_n 3, 1) := by decide +kernel
theorem dX9_foldOf_6 : decode cX9_foldOf 6 = .ok (.iload_n 2, 1) := by decide +kernel
theorem dX9_foldOf_7 : decode cX9_foldOf 7 = .ok (.ifCond .lt 8, 3) := by decide +kernel
theorem dX9_foldOf_10 : decode cX9_foldOf 10 = .ok (.iload_n 2, 1) := by decide +kernel
theorem dX9_foldOf_11 : decode cX9_foldOf 11 = .ok (.iload_n 3, 1) := by decide +kernel
theorem dX9_foldOf_12 : decode cX9_foldOf 12 = .ok (.if_icmp .lt 5, 3) := by decide +kernel
theorem dX9_foldOf_15 : decode cX9_foldOf 15 = .ok (.iconst (-1), 1) := by decide +kernel
theorem dX9_foldOf_16 : decode cX9_foldOf 16 = .ok (.ireturn, 1) := by decide +kernel
theorem dX9_foldOf_17 : decode cX9_foldOf 17 = .ok (.iload_n 1, 1) := by decide +kernel
theorem dX9_foldOf_18 : decode cX9_foldOf 18 = .ok (.istore 4, 2) := by decide +kernel
theorem dX9_foldOf_20 : decode cX9_foldOf 20 = .ok (.iload_n 3, 1) := by decide +kernel
theorem dX9_foldOf_21 : decode cX9_foldOf 21 = .ok (.iconst 1, 1) := by decide +kernel
theorem dX9_foldOf_22 : decode cX9_foldOf 22 = .ok (.isub, 1) := by decide +kernel
theorem dX9_foldOf_23 : decode cX9_foldOf 23 = .ok (.istore 5, 2) := by decide +kernel
theorem dX9_foldOf_25 : decode cX9_foldOf 25 = .ok (.iload 5, 2) := by decide +kernel
theorem dX9_foldOf_27 : decode cX9_foldOf 27 = .ok (.iload_n 2, 1) := by decide +kernel
theorem dX9_foldOf_28 : decode cX9_foldOf 28 = .ok (.if_icmp .le 20, 3) := by decide +kernel
theorem dX9_foldOf_31 : decode cX9_foldOf 31 = .ok (.aload_n 0, 1) := by decide +kernel
theorem dX9_foldOf_32 : decode cX9_foldOf 32 = .ok (.getfield 15, 3) := by decide +kernel
theorem dX9_foldOf_35 : decode cX9_foldOf 35 = .ok (.iload 4, 2) := by decide +kernel
theorem dX9_foldOf_37 : decode cX9_foldOf 37 = .ok (.invokestatic 94, 3) := by decide +kernel
theorem dX9_foldOf_40 : decode cX9_foldOf 40 = .ok (.istore 4, 2) := by decide +kernel
theorem dX9_foldOf_42 : decode cX9_foldOf 42 = .ok (.iinc 5 (-1), 3) := by decide +kernel
theorem dX9_foldOf_45 : decode cX9_foldOf 45 = .ok (.goto (-20), 3) := by decide +kernel
theorem dX9_foldOf_48 : decode cX9_foldOf 48 = .ok (.aload_n 0, 1) := by decide +kernel
theorem dX9_foldOf_49 : decode cX9_foldOf 49 = .ok (.getfield 18, 3) := by decide +kernel
theorem dX9_foldOf_52 : decode cX9_foldOf 52 = .ok (.iload 4, 2) := by decide +kernel
theorem dX9_foldOf_54 : decode cX9_foldOf 54 = .ok (.invokestatic 94, 3) := by decide +kernel
theorem dX9_foldOf_57 : decode cX9_foldOf 57 = .ok (.ireturn, 1) := by decide +kernel
theorem dX9_forgetMet_0 : decode cX9_forgetMet 0 = .ok (.aload_n 0, 1) := by decide +kernel
theorem dX9_forgetMet_1 : decode cX9_forgetMet 1 = .ok (.getfield 33, 3) := by decide +kernel
theorem dX9_forgetMet_4 : decode cX9_forgetMet 4 = .ok (.iconst 0, 1) := by decide +kernel
theorem dX9_forgetMet_5 : decode cX9_forgetMet 5 = .ok (.invokestatic 66, 3) := by decide +kernel
theorem dX9_forgetMet_8 : decode cX9_forgetMet 8 = .ok (.return_, 1) := by decide +kernel
theorem dX9_meet_0 : decode cX9_meet 0 = .ok (.aload_n 0, 1) := by decide +kernel
theorem dX9_meet_1 : decode cX9_meet 1 = .ok (.getfield 27, 3) := by decide +kernel
theorem dX9_meet_4 : decode cX9_meet 4 = .ok (.iload_n 1, 1) := by decide +kernel
theorem dX9_meet_5 : decode cX9_meet 5 = .ok (.invokestatic 94, 3) := by decide +kernel
theorem dX9_meet_8 : decode cX9_meet 8 = .ok (.istore_n 2, 1) := by decide +kernel
theorem dX9_meet_9 : decode cX9_meet 9 = .ok (.aload_n 0, 1) := by decide +kernel
theorem dX9_meet_10 : decode cX9_meet 10 = .ok (.getfield 33, 3) := by decide +kernel
theorem dX9_meet_13 : decode cX9_meet 13 = .ok (.iload_n 2, 1) := by decide +kernel
theorem dX9_meet_14 : decode cX9_meet 14 = .ok (.invokestatic 94, 3) := by decide +kernel
theorem dX9_meet_17 : decode cX9_meet 17 = .ok (.ifCond .ne 7, 3) := by decide +kernel
theorem dX9_meet_20 : decode cX9_meet 20 = .ok (.iconst 1, 1) := by decide +kernel
theorem dX9_meet_21 : decode cX9_meet 21 = .ok (.goto 4, 3) := by decide +kernel
theorem dX9_meet_24 : decode cX9_meet 24 = .ok (.iconst 0, 1) := by decide +kernel
theorem dX9_meet_25 : decode cX9_meet 25 = .ok (.istore_n 3, 1) := by decide +kernel
theorem dX9_meet_26 : decode cX9_meet 26 = .ok (.aload_n 0, 1) := by decide +kernel
theorem dX9_meet_27 : decode cX9_meet 27 = .ok (.getfield 33, 3) := by decide +kernel
theorem dX9_meet_30 : decode cX9_meet 30 = .ok (.iload_n 2, 1) := by decide +kernel
theorem dX9_meet_31 : decode cX9_meet 31 = .ok (.iconst 1, 1) := by decide +kernel
theorem dX9_meet_32 : decode cX9_meet 32 = .ok (.invokestatic 104, 3) := by decide +kernel
theorem dX9_meet_35 : decode cX9_meet 35 = .ok (.iload_n 3, 1) := by decide +kernel
theorem dX9_meet_36 : decode cX9_meet 36 = .ok (.ireturn, 1) := by decide +kernel
theorem dX10_isOfLikesAlone_0 : decode cX10_isOfLikesAlone 0 = .ok (.aload_n 0, 1) := by decide +kernel
theorem dX10_isOfLikesAlone_1 : decode cX10_isOfLikesAlone 1 = .ok (.getstatic 12, 3) := by decide +kernel
theorem dX10_isOfLikesAlone_4 : decode cX10_isOfLikesAlone 4 = .ok (.if_acmp .eq 10, 3) := by decide +kernel
theorem dX10_isOfLikesAlone_7 : decode cX10_isOfLikesAlone 7 = .ok (.aload_n 0, 1) := by decide +kernel
theorem dX10_isOfLikesAlone_8 : decode cX10_isOfLikesAlone 8 = .ok (.getstatic 51, 3) := by decide +kernel
theorem dX10_isOfLikesAlone_11 : decode cX10_isOfLikesAlone 11 = .ok (.if_acmp .ne 7, 3) := by decide +kernel
theorem dX10_isOfLikesAlone_14 : decode cX10_isOfLikesAlone 14 = .ok (.iconst 1, 1) := by decide +kernel
theorem dX10_isOfLikesAlone_15 : decode cX10_isOfLikesAlone 15 = .ok (.goto 4, 3) := by decide +kernel
theorem dX10_isOfLikesAlone_18 : decode cX10_isOfLikesAlone 18 = .ok (.iconst 0, 1) := by decide +kernel
theorem dX10_isOfLikesAlone_19 : decode cX10_isOfLikesAlone 19 = .ok (.ireturn, 1) := by decide +kernel
theorem dX11_init_0 : decode cX11_init 0 = .ok (.aload_n 0, 1) := by decide +kernel
theorem dX11_init_1 : decode cX11_init 1 = .ok (.invokespecial 1, 3) := by decide +kernel
theorem dX11_init_4 : decode cX11_init 4 = .ok (.aload_n 0, 1) := by decide +kernel
theorem dX11_init_5 : decode cX11_init 5 = .ok (.sipush 900, 3) := by decide +kernel
theorem dX11_init_8 : decode cX11_init 8 = .ok (.newarray .byte, 2) := by decide +kernel
theorem dX11_init_10 : decode cX11_init 10 = .ok (.putfield 9, 3) := by decide +kernel
theorem dX11_init_13 : decode cX11_init 13 = .ok (.aload_n 0, 1) := by decide +kernel
theorem dX11_init_14 : decode cX11_init 14 = .ok (.iconst 0, 1) := by decide +kernel
theorem dX11_init_15 : decode cX11_init 15 = .ok (.putfield 13, 3) := by decide +kernel
theorem dX11_init_18 : decode cX11_init 18 = .ok (.aload_n 0, 1) := by decide +kernel
theorem dX11_init_19 : decode cX11_init 19 = .ok (.iconst 0, 1) := by decide +kernel
theorem dX11_init_20 : decode cX11_init 20 = .ok (.putfield 17, 3) := by decide +kernel
theorem dX11_init_23 : decode cX11_init 23 = .ok (.aload_n 0, 1) := by decide +kernel
theorem dX11_init_24 : decode cX11_init 24 = .ok (.iconst (-1), 1) := by decide +kernel
theorem dX11_init_25 : decode cX11_init 25 = .ok (.putfield 20, 3) := by decide +kernel
theorem dX11_init_28 : decode cX11_init 28 = .ok (.aload_n 0, 1) := by decide +kernel
theorem dX11_init_29 : decode cX11_init 29 = .ok (.new 23, 3) := by decide +kernel
theorem dX11_init_32 : decode cX11_init 32 = .ok (.dup, 1) := by decide +kernel
theorem dX11_init_33 : decode cX11_init 33 = .ok (.invokespecial 25, 3) := by decide +kernel
theorem dX11_init_36 : decode cX11_init 36 = .ok (.putfield 26, 3) := by decide +kernel
theorem dX11_init_39 : decode cX11_init 39 = .ok (.aload_n 0, 1) := by decide +kernel
theorem dX11_init_40 : decode cX11_init 40 = .ok (.new 30, 3) := by decide +kernel
theorem dX11_init_43 : decode cX11_init 43 = .ok (.dup, 1) := by decide +kernel
theorem dX11_init_44 : decode cX11_init 44 = .ok (.invokespecial 32, 3) := by decide +kernel
theorem dX11_init_47 : decode cX11_init 47 = .ok (.putfield 33, 3) := by decide +kernel
theorem dX11_init_50 : decode cX11_init 50 = .ok (.aload_n 0, 1) := by decide +kernel
theorem dX11_init_51 : decode cX11_init 51 = .ok (.iconst 3, 1) := by decide +kernel
theorem dX11_init_52 : decode cX11_init 52 = .ok (.anewarray 30, 3) := by decide +kernel
theorem dX11_init_55 : decode cX11_init 55 = .ok (.putfield 37, 3) := by decide +kernel
theorem dX11_init_58 : decode cX11_init 58 = .ok (.aload_n 0, 1) := by decide +kernel
theorem dX11_init_59 : decode cX11_init 59 = .ok (.iconst 4, 1) := by decide +kernel
theorem dX11_init_60 : decode cX11_init 60 = .ok (.anewarray 41, 3) := by decide +kernel
theorem dX11_init_63 : decode cX11_init 63 = .ok (.putfield 43, 3) := by decide +kernel
theorem dX11_init_66 : decode cX11_init 66 = .ok (.aload_n 0, 1) := by decide +kernel
theorem dX11_init_67 : decode cX11_init 67 = .ok (.new 47, 3) := by decide +kernel
theorem dX11_init_70 : decode cX11_init 70 = .ok (.dup, 1) := by decide +kernel
theorem dX11_init_71 : decode cX11_init 71 = .ok (.invokespecial 49, 3) := by decide +kernel
theorem dX11_init_74 : decode cX11_init 74 = .ok (.putfield 50, 3) := by decide +kernel
theorem dX11_init_77 : decode cX11_init 77 = .ok (.aload_n 0, 1) := by decide +kernel
theorem dX11_init_78 : decode cX11_init 78 = .ok (.new 54, 3) := by decide +kernel
theorem dX11_init_81 : decode cX11_init 81 = .ok (.dup, 1) := by decide +kernel
theorem dX11_init_82 : decode cX11_init 82 = .ok (.invokespecial 56, 3) := by decide +kernel
theorem dX11_init_85 : decode cX11_init 85 = .ok (.putfield 57, 3) := by decide +kernel
theorem dX11_init_88 : decode cX11_init 88 = .ok (.aload_n 0, 1) := by decide +kernel
theorem dX11_init_89 : decode cX11_init 89 = .ok (.new 54, 3) := by decide +kernel
theorem dX11_init_92 : decode cX11_init 92 = .ok (.dup, 1) := by decide +kernel
theorem dX11_init_93 : decode cX11_init 93 = .ok (.invokespecial 56, 3) := by decide +kernel
theorem dX11_init_96 : decode cX11_init 96 = .ok (.putfield 61, 3) := by decide +kernel
theorem dX11_init_99 : decode cX11_init 99 = .ok (.aload_n 0, 1) := by decide +kernel
theorem dX11_init_100 : decode cX11_init 100 = .ok (.new 64, 3) := by decide +kernel
theorem dX11_init_103 : decode cX11_init 103 = .ok (.dup, 1) := by decide +kernel
theorem dX11_init_104 : decode cX11_init 104 = .ok (.invokespecial 66, 3) := by decide +kernel
theorem dX11_init_107 : decode cX11_init 107 = .ok (.putfield 67, 3) := by decide +kernel
theorem dX11_init_110 : decode cX11_init 110 = .ok (.aload_n 0, 1) := by decide +kernel
theorem dX11_init_111 : decode cX11_init 111 = .ok (.new 64, 3) := by decide +kernel
theorem dX11_init_114 : decode cX11_init 114 = .ok (.dup, 1) := by decide +kernel
theorem dX11_init_115 : decode cX11_init 115 = .ok (.invokespecial 66, 3) := by decide +kernel
theorem dX11_init_118 : decode cX11_init 118 = .ok (.putfield 71, 3) := by decide +kernel
theorem dX11_init_121 : decode cX11_init 121 = .ok (.aload_n 0, 1) := by decide +kernel
theorem dX11_init_122 : decode cX11_init 122 = .ok (.new 74, 3) := by decide +kernel
theorem dX11_init_125 : decode cX11_init 125 = .ok (.dup, 1) := by decide +kernel
theorem dX11_init_126 : decode cX11_init 126 = .ok (.invokespecial 76, 3) := by decide +kernel
theorem dX11_init_129 : decode cX11_init 129 = .ok (.putfield 77, 3) := by decide +kernel
theorem dX11_init_132 : decode cX11_init 132 = .ok (.aload_n 0, 1) := by decide +kernel
theorem dX11_init_133 : decode cX11_init 133 = .ok (.bipush 6, 2) := by decide +kernel
theorem dX11_init_135 : decode cX11_init 135 = .ok (.newarray .int, 2) := by decide +kernel
theorem dX11_init_137 : decode cX11_init 137 = .ok (.putfield 81, 3) := by decide +kernel
theorem dX11_init_140 : decode cX11_init 140 = .ok (.aload_n 0, 1) := by decide +kernel
theorem dX11_init_141 : decode cX11_init 141 = .ok (.iconst 4, 1) := by decide +kernel
theorem dX11_init_142 : decode cX11_init 142 = .ok (.newarray .int, 2) := by decide +kernel
theorem dX11_init_144 : decode cX11_init 144 = .ok (.putfield 85, 3) := by decide +kernel
theorem dX11_init_147 : decode cX11_init 147 = .ok (.aload_n 0, 1) := by decide +kernel
theorem dX11_init_148 : decode cX11_init 148 = .ok (.bipush 100, 2) := by decide +kernel
theorem dX11_init_150 : decode cX11_init 150 = .ok (.newarray .int, 2) := by decide +kernel
theorem dX11_init_152 : decode cX11_init 152 = .ok (.putfield 88, 3) := by decide +kernel
theorem dX11_init_155 : decode cX11_init 155 = .ok (.aload_n 0, 1) := by decide +kernel
theorem dX11_init_156 : decode cX11_init 156 = .ok (.sipush 720, 3) := by decide +kernel
theorem dX11_init_159 : decode cX11_init 159 = .ok (.newarray .int, 2) := by decide +kernel
theorem dX11_init_161 : decode cX11_init 161 = .ok (.putfield 91, 3) := by decide +kernel
theorem dX11_init_164 : decode cX11_init 164 = .ok (.iconst 0, 1) := by decide +kernel
theorem dX11_init_165 : decode cX11_init 165 = .ok (.istore_n 1, 1) := by decide +kernel
theorem dX11_init_166 : decode cX11_init 166 = .ok (.iload_n 1, 1) := by decide +kernel
theorem dX11_init_167 : decode cX11_init 167 = .ok (.aload_n 0, 1) := by decide +kernel
theorem dX11_init_168 : decode cX11_init 168 = .ok (.getfield 37, 3) := by decide +kernel
theorem dX11_init_171 : decode cX11_init 171 = .ok (.arraylength, 1) := by decide +kernel
theorem dX11_init_172 : decode cX11_init 172 = .ok (.if_icmp .ge 22, 3) := by decide +kernel
theorem dX11_init_175 : decode cX11_init 175 = .ok (.aload_n 0, 1) := by decide +kernel
theorem dX11_init_176 : decode cX11_init 176 = .ok (.getfield 37, 3) := by decide +kernel
theorem dX11_init_179 : decode cX11_init 179 = .ok (.iload_n 1, 1) := by decide +kernel
theorem dX11_init_180 : decode cX11_init 180 = .ok (.new 30, 3) := by decide +kernel
theorem dX11_init_183 : decode cX11_init 183 = .ok (.dup, 1) := by decide +kernel
theorem dX11_init_184 : decode cX11_init 184 = .ok (.invokespecial 32, 3) := by decide +kernel
theorem dX11_init_187 : decode cX11_init 187 = .ok (.aastore, 1) := by decide +kernel
theorem dX11_init_188 : decode cX11_init 188 = .ok (.iinc 1 1, 3) := by decide +kernel
theorem dX11_init_191 : decode cX11_init 191 = .ok (.goto (-25), 3) := by decide +kernel
theorem dX11_init_194 : decode cX11_init 194 = .ok (.iconst 0, 1) := by decide +kernel
theorem dX11_init_195 : decode cX11_init 195 = .ok (.istore_n 1, 1) := by decide +kernel
theorem dX11_init_196 : decode cX11_init 196 = .ok (.iload_n 1, 1) := by decide +kernel
theorem dX11_init_197 : decode cX11_init 197 = .ok (.aload_n 0, 1) := by decide +kernel
theorem dX11_init_198 : decode cX11_init 198 = .ok (.getfield 43, 3) := by decide +kernel
theorem dX11_init_201 : decode cX11_init 201 = .ok (.arraylength, 1) := by decide +kernel
theorem dX11_init_202 : decode cX11_init 202 = .ok (.if_icmp .ge 22, 3) := by decide +kernel
theorem dX11_init_205 : decode cX11_init 205 = .ok (.aload_n 0, 1) := by decide +kernel
theorem dX11_init_206 : decode cX11_init 206 = .ok (.getfield 43, 3) := by decide +kernel
theorem dX11_init_209 : decode cX11_init 209 = .ok (.iload_n 1, 1) := by decide +kernel
theorem dX11_init_210 : decode cX11_init 210 = .ok (.new 41, 3) := by decide +kernel
theorem dX11_init_213 : decode cX11_init 213 = .ok (.dup, 1) := by decide +kernel
theorem dX11_init_214 : decode cX11_init 214 = .ok (.invokespecial 94, 3) := by decide +kernel
theorem dX11_init_217 : decode cX11_init 217 = .ok (.aastore, 1) := by decide +kernel
theorem dX11_init_218 : decode cX11_init 218 = .ok (.iinc 1 1, 3) := by decide +kernel
theorem dX11_init_221 : decode cX11_init 221 = .ok (.goto (-25), 3) := by decide +kernel
theorem dX11_init_224 : decode cX11_init 224 = .ok (.return_, 1) := by decide +kernel
theorem dX11_feed_0 : decode cX11_feed 0 = .ok (.aload_n 0, 1) := by decide +kernel
theorem dX11_feed_1 : decode cX11_feed 1 = .ok (.getfield 13, 3) := by decide +kernel
theorem dX11_feed_4 : decode cX11_feed 4 = .ok (.bipush 20, 2) := by decide +kernel
theorem dX11_feed_6 : decode cX11_feed 6 = .ok (.iadd, 1) := by decide +kernel
theorem dX11_feed_7 : decode cX11_feed 7 = .ok (.sipush 900, 3) := by decide +kernel
theorem dX11_feed_10 : decode cX11_feed 10 = .ok (.if_icmp .le 5, 3) := by decide +kernel
theorem dX11_feed_13 : decode cX11_feed 13 = .ok (.iconst (-1), 1) := by decide +kernel
theorem dX11_feed_14 : decode cX11_feed 14 = .ok (.ireturn, 1) := by decide +kernel
theorem dX11_feed_15 : decode cX11_feed 15 = .ok (.aload_n 0, 1) := by decide +kernel
theorem dX11_feed_16 : decode cX11_feed 16 = .ok (.iload_n 1, 1) := by decide +kernel
theorem dX11_feed_17 : decode cX11_feed 17 = .ok (.invokevirtual 95, 3) := by decide +kernel
theorem dX11_feed_20 : decode cX11_feed 20 = .ok (.aload_n 0, 1) := by decide +kernel
theorem dX11_feed_21 : decode cX11_feed 21 = .ok (.iload_n 2, 1) := by decide +kernel
theorem dX11_feed_22 : decode cX11_feed 22 = .ok (.invokevirtual 95, 3) := by decide +kernel
theorem dX11_feed_25 : decode cX11_feed 25 = .ok (.aload_n 0, 1) := by decide +kernel
theorem dX11_feed_26 : decode cX11_feed 26 = .ok (.iload_n 3, 1) := by decide +kernel
theorem dX11_feed_27 : decode cX11_feed 27 = .ok (.invokevirtual 95, 3) := by decide +kernel
theorem dX11_feed_30 : decode cX11_feed 30 = .ok (.aload_n 0, 1) := by decide +kernel
theorem dX11_feed_31 : decode cX11_feed 31 = .ok (.iload 4, 2) := by decide +kernel
theorem dX11_feed_33 : decode cX11_feed 33 = .ok (.invokevirtual 95, 3) := by decide +kernel
theorem dX11_feed_36 : decode cX11_feed 36 = .ok (.aload_n 0, 1) := by decide +kernel
theorem dX11_feed_37 : decode cX11_feed 37 = .ok (.iload 5, 2) := by decide +kernel
theorem dX11_feed_39 : decode cX11_feed 39 = .ok (.invokevirtual 95, 3) := by decide +kernel
theorem dX11_feed_42 : decode cX11_feed 42 = .ok (.aload_n 0, 1) := by decide +kernel
theorem dX11_feed_43 : decode cX11_feed 43 = .ok (.getfield 13, 3) := by decide +kernel
theorem dX11_feed_46 : decode cX11_feed 46 = .ok (.ireturn, 1) := by decide +kernel
theorem dX11_putOnTape_0 : decode cX11_putOnTape 0 = .ok (.bipush 24, 2) := by decide +kernel
theorem dX11_putOnTape_2 : decode cX11_putOnTape 2 = .ok (.istore_n 2, 1) := by decide +kernel
theorem dX11_putOnTape_3 : decode cX11_putOnTape 3 = .ok (.iload_n 2, 1) := by decide +kernel
theorem dX11_putOnTape_4 : decode cX11_putOnTape 4 = .ok (.ifCond .lt 51, 3) := by decide +kernel
theorem dX11_putOnTape_7 : decode cX11_putOnTape 7 = .ok (.aload_n 0, 1) := by decide +kernel
theorem dX11_putOnTape_8 : decode cX11_putOnTape 8 = .ok (.getfield 13, 3) := by decide +kernel
theorem dX11_putOnTape_11 : decode cX11_putOnTape 11 = .ok (.ifCond .lt 38, 3) := by decide +kernel
theorem dX11_putOnTape_14 : decode cX11_putOnTape 14 = .ok (.aload_n 0, 1) := by decide +kernel
theorem dX11_putOnTape_15 : decode cX11_putOnTape 15 = .ok (.getfield 13, 3) := by decide +kernel
theorem dX11_putOnTape_18 : decode cX11_putOnTape 18 = .ok (.aload_n 0, 1) := by decide +kernel
theorem dX11_putOnTape_19 : decode cX11_putOnTape 19 = .ok (.getfield 9, 3) := by decide +kernel
theorem dX11_putOnTape_22 : decode cX11_putOnTape 22 = .ok (.arraylength, 1) := by decide +kernel
theorem dX11_putOnTape_23 : decode cX11_putOnTape 23 = .ok (.if_icmp .ge 26, 3) := by decide +kernel
theorem dX11_putOnTape_26 : decode cX11_putOnTape 26 = .ok (.aload_n 0, 1) := by decide +kernel
theorem dX11_putOnTape_27 : decode cX11_putOnTape 27 = .ok (.getfield 9, 3) := by decide +kernel
theorem dX11_putOnTape_30 : decode cX11_putOnTape 30 = .ok (.aload_n 0, 1) := by decide +kernel
theorem dX11_putOnTape_31 : decode cX11_putOnTape 31 = .ok (.getfield 13, 3) := by decide +kernel
theorem dX11_putOnTape_34 : decode cX11_putOnTape 34 = .ok (.iload_n 1, 1) := by decide +kernel
theorem dX11_putOnTape_35 : decode cX11_putOnTape 35 = .ok (.iload_n 2, 1) := by decide +kernel
theorem dX11_putOnTape_36 : decode cX11_putOnTape 36 = .ok (.ishr, 1) := by decide +kernel
theorem dX11_putOnTape_37 : decode cX11_putOnTape 37 = .ok (.i2b, 1) := by decide +kernel
theorem dX11_putOnTape_38 : decode cX11_putOnTape 38 = .ok (.bastore, 1) := by decide +kernel
theorem dX11_putOnTape_39 : decode cX11_putOnTape 39 = .ok (.aload_n 0, 1) := by decide +kernel
theorem dX11_putOnTape_40 : decode cX11_putOnTape 40 = .ok (.dup, 1) := by decide +kernel
theorem dX11_putOnTape_41 : decode cX11_putOnTape 41 = .ok (.getfield 13, 3) := by decide +kernel
theorem dX11_putOnTape_44 : decode cX11_putOnTape 44 = .ok (.iconst 1, 1) := by decide +kernel
theorem dX11_putOnTape_45 : decode cX11_putOnTape 45 = .ok (.iadd, 1) := by decide +kernel
theorem dX11_putOnTape_46 : decode cX11_putOnTape 46 = .ok (.putfield 13, 3) := by decide +kernel
theorem dX11_putOnTape_49 : decode cX11_putOnTape 49 = .ok (.iinc 2 (-8), 3) := by decide +kernel
theorem dX11_putOnTape_52 : decode cX11_putOnTape 52 = .ok (.goto (-49), 3) := by decide +kernel
theorem dX11_putOnTape_55 : decode cX11_putOnTape 55 = .ok (.return_, 1) := by decide +kernel
theorem dX11_napkin_0 : decode cX11_napkin 0 = .ok (.iload_n 1, 1) := by decide +kernel
theorem dX11_napkin_1 : decode cX11_napkin 1 = .ok (.ifCond .lt 11, 3) := by decide +kernel
theorem dX11_napkin_4 : decode cX11_napkin 4 = .ok (.iload_n 1, 1) := by decide +kernel
theorem dX11_napkin_5 : decode cX11_napkin 5 = .ok (.aload_n 0, 1) := by decide +kernel
theorem dX11_napkin_6 : decode cX11_napkin 6 = .ok (.getfield 13, 3) := by decide +kernel
theorem dX11_napkin_9 : decode cX11_napkin 9 = .ok (.if_icmp .le 13, 3) := by decide +kernel
theorem dX11_napkin_12 : decode cX11_napkin 12 = .ok (.new 99, 3) := by decide +kernel
theorem dX11_napkin_15 : decode cX11_napkin 15 = .ok (.dup, 1) := by decide +kernel
theorem dX11_napkin_16 : decode cX11_napkin 16 = .ok (.ldc 101, 2) := by decide +kernel
theorem dX11_napkin_18 : decode cX11_napkin 18 = .ok (.invokespecial 103, 3) := by decide +kernel
theorem dX11_napkin_21 : decode cX11_napkin 21 = .ok (.athrow, 1) := by decide +kernel
theorem dX11_napkin_22 : decode cX11_napkin 22 = .ok (.aload_n 0, 1) := by decide +kernel
theorem dX11_napkin_23 : decode cX11_napkin 23 = .ok (.getfield 26, 3) := by decide +kernel
theorem dX11_napkin_26 : decode cX11_napkin 26 = .ok (.aload_n 0, 1) := by decide +kernel
theorem dX11_napkin_27 : decode cX11_napkin 27 = .ok (.getfield 9, 3) := by decide +kernel
theorem dX11_napkin_30 : decode cX11_napkin 30 = .ok (.iload_n 1, 1) := by decide +kernel
theorem dX11_napkin_31 : decode cX11_napkin 31 = .ok (.invokevirtual 106, 3) := by decide +kernel
theorem dX11_napkin_34 : decode cX11_napkin 34 = .ok (.astore_n 2, 1) := by decide +kernel
theorem dX11_napkin_35 : decode cX11_napkin 35 = .ok (.aload_n 0, 1) := by decide +kernel
theorem dX11_napkin_36 : decode cX11_napkin 36 = .ok (.iconst 0, 1) := by decide +kernel
theorem dX11_napkin_37 : decode cX11_napkin 37 = .ok (.putfield 13, 3) := by decide +kernel
theorem dX11_napkin_40 : decode cX11_napkin 40 = .ok (.aload_n 0, 1) := by decide +kernel
theorem dX11_napkin_41 : decode cX11_napkin 41 = .ok (.aload_n 0, 1) := by decide +kernel
theorem dX11_napkin_42 : decode cX11_napkin 42 = .ok (.getfield 26, 3) := by decide +kernel
theorem dX11_napkin_45 : decode cX11_napkin 45 = .ok (.getfield 110, 3) := by decide +kernel
theorem dX11_napkin_48 : decode cX11_napkin 48 = .ok (.putfield 17, 3) := by decide +kernel
theorem dX11_napkin_51 : decode cX11_napkin 51 = .ok (.aload_n 0, 1) := by decide +kernel
theorem dX11_napkin_52 : decode cX11_napkin 52 = .ok (.aload_n 0, 1) := by decide +kernel
theorem dX11_napkin_53 : decode cX11_napkin 53 = .ok (.getfield 26, 3) := by decide +kernel
theorem dX11_napkin_56 : decode cX11_napkin 56 = .ok (.getfield 111, 3) := by decide +kernel
theorem dX11_napkin_59 : decode cX11_napkin 59 = .ok (.putfield 20, 3) := by decide +kernel
theorem dX11_napkin_62 : decode cX11_napkin 62 = .ok (.aload_n 2, 1) := by decide +kernel
theorem dX11_napkin_63 : decode cX11_napkin 63 = .ok (.ifnonnull 11, 3) := by decide +kernel
theorem dX11_napkin_66 : decode cX11_napkin 66 = .ok (.bipush (-10), 2) := by decide +kernel
theorem dX11_napkin_68 : decode cX11_napkin 68 = .ok (.aload_n 0, 1) := by decide +kernel
theorem dX11_napkin_69 : decode cX11_napkin 69 = .ok (.getfield 17, 3) := by decide +kernel
theorem dX11_napkin_72 : decode cX11_napkin 72 = .ok (.isub, 1) := by decide +kernel
theorem dX11_napkin_73 : decode cX11_napkin 73 = .ok (.ireturn, 1) := by decide +kernel
theorem dX11_napkin_74 : decode cX11_napkin 74 = .ok (.aload_n 0, 1) := by decide +kernel
theorem dX11_napkin_75 : decode cX11_napkin 75 = .ok (.getfield 33, 3) := by decide +kernel
theorem dX11_napkin_78 : decode cX11_napkin 78 = .ok (.aload_n 2, 1) := by decide +kernel
theorem dX11_napkin_79 : decode cX11_napkin 79 = .ok (.invokevirtual 114, 3) := by decide +kernel
theorem dX11_napkin_82 : decode cX11_napkin 82 = .ok (.aload_n 2, 1) := by decide +kernel
theorem dX11_napkin_83 : decode cX11_napkin 83 = .ok (.getfield 118, 3) := by decide +kernel
theorem dX11_napkin_86 : decode cX11_napkin 86 = .ok (.ireturn, 1) := by decide +kernel
theorem dX11_fault_0 : decode cX11_fault 0 = .ok (.iload_n 1, 1) := by decide +kernel
theorem dX11_fault_1 : decode cX11_fault 1 = .ok (.ifCond .ne 8, 3) := by decide +kernel
theorem dX11_fault_4 : decode cX11_fault 4 = .ok (.aload_n 0, 1) := by decide +kernel
theorem dX11_fault_5 : decode cX11_fault 5 = .ok (.getfield 17, 3) := by decide +kernel
theorem dX11_fault_8 : decode cX11_fault 8 = .ok (.ireturn, 1) := by decide +kernel
theorem dX11_fault_9 : decode cX11_fault 9 = .ok (.iload_n 1, 1) := by decide +kernel
theorem dX11_fault_10 : decode cX11_fault 10 = .ok (.iconst 1, 1) := by decide +kernel
theorem dX11_fault_11 : decode cX11_fault 11 = .ok (.if_icmp .ne 10, 3) := by decide +kernel
theorem dX11_fault_14 : decode cX11_fault 14 = .ok (.aload_n 0, 1) := by decide +kernel
theorem dX11_fault_15 : decode cX11_fault 15 = .ok (.getfield 20, 3) := by decide +kernel
theorem dX11_fault_18 : decode cX11_fault 18 = .ok (.goto 4, 3) := by decide +kernel
theorem dX11_fault_21 : decode cX11_fault 21 = .ok (.iconst (-1), 1) := by decide +kernel
theorem dX11_fault_22 : decode cX11_fault 22 = .ok (.ireturn, 1) := by decide +kernel
theorem dX11_cell_0 : decode cX11_cell 0 = .ok (.aload_n 0, 1) := by decide +kernel
theorem dX11_cell_1 : decode cX11_cell 1 = .ok (.iload_n 1, 1) := by decide +kernel
theorem dX11_cell_2 : decode cX11_cell 2 = .ok (.i2l, 1) := by decide +kernel
theorem dX11_cell_3 : decode cX11_cell 3 = .ok (.invokevirtual 123, 3) := by decide +kernel
theorem dX11_cell_6 : decode cX11_cell 6 = .ok (.ifCond .ne 13, 3) := by decide +kernel
theorem dX11_cell_9 : decode cX11_cell 9 = .ok (.new 127, 3) := by decide +kernel
theorem dX11_cell_12 : decode cX11_cell 12 = .ok (.dup, 1) := by decide +kernel
theorem dX11_cell_13 : decode cX11_cell 13 = .ok (.ldc 129, 2) := by decide +kernel
theorem dX11_cell_15 : decode cX11_cell 15 = .ok (.invokespecial 131, 3) := by decide +kernel
theorem dX11_cell_18 : decode cX11_cell 18 = .ok (.athrow, 1) := by decide +kernel
theorem dX11_cell_19 : decode cX11_cell 19 = .ok (.iload_n 2, 1) := by decide +kernel
theorem dX11_cell_20 : decode cX11_cell 20 = .ok (.ifCond .lt 8, 3) := by decide +kernel
theorem dX11_cell_23 : decode cX11_cell 23 = .ok (.iload_n 2, 1) := by decide +kernel
theorem dX11_cell_24 : decode cX11_cell 24 = .ok (.iconst 4, 1) := by decide +kernel
theorem dX11_cell_25 : decode cX11_cell 25 = .ok (.if_icmp .le 13, 3) := by decide +kernel
theorem dX11_cell_28 : decode cX11_cell 28 = .ok (.new 99, 3) := by decide +kernel
theorem dX11_cell_31 : decode cX11_cell 31 = .ok (.dup, 1) := by decide +kernel
theorem dX11_cell_32 : decode cX11_cell 32 = .ok (.ldc 132, 2) := by decide +kernel
theorem dX11_cell_34 : decode cX11_cell 34 = .ok (.invokespecial 103, 3) := by decide +kernel
theorem dX11_cell_37 : decode cX11_cell 37 = .ok (.athrow, 1) := by decide +kernel
theorem dX11_cell_38 : decode cX11_cell 38 = .ok (.aload_n 0, 1) := by decide +kernel
theorem dX11_cell_39 : decode cX11_cell 39 = .ok (.invokevirtual 134, 3) := by decide +kernel
theorem dX11_cell_42 : decode cX11_cell 42 = .ok (.astore_n 3, 1) := by decide +kernel
theorem dX11_cell_43 : decode cX11_cell 43 = .ok (.iload_n 2, 1) := by decide +kernel
theorem dX11_cell_44 : decode cX11_cell 44 = .ok (.tableswitch 80 0 3 #[32, 45, 58, 64], 32) := by decide +kernel
theorem dX11_cell_76 : decode cX11_cell 76 = .ok (.aload_n 0, 1) := by decide +kernel
theorem dX11_cell_77 : decode cX11_cell 77 = .ok (.getfield 33, 3) := by decide +kernel
theorem dX11_cell_80 : decode cX11_cell 80 = .ok (.getfield 138, 3) := by decide +kernel
theorem dX11_cell_83 : decode cX11_cell 83 = .ok (.iload_n 1, 1) := by decide +kernel
theorem dX11_cell_84 : decode cX11_cell 84 = .ok (.iconst 0, 1) := by decide +kernel
theorem dX11_cell_85 : decode cX11_cell 85 = .ok (.invokevirtual 141, 3) := by decide +kernel
theorem dX11_cell_88 : decode cX11_cell 88 = .ok (.ireturn, 1) := by decide +kernel
theorem dX11_cell_89 : decode cX11_cell 89 = .ok (.aload_n 0, 1) := by decide +kernel
theorem dX11_cell_90 : decode cX11_cell 90 = .ok (.getfield 33, 3) := by decide +kernel
theorem dX11_cell_93 : decode cX11_cell 93 = .ok (.getfield 138, 3) := by decide +kernel
theorem dX11_cell_96 : decode cX11_cell 96 = .ok (.iload_n 1, 1) := by decide +kernel
theorem dX11_cell_97 : decode cX11_cell 97 = .ok (.iconst 1, 1) := by decide +kernel
theorem dX11_cell_98 : decode cX11_cell 98 = .ok (.invokevirtual 141, 3) := by decide +kernel
theorem dX11_cell_101 : decode cX11_cell 101 = .ok (.ireturn, 1) := by decide +kernel
theorem dX11_cell_102 : decode cX11_cell 102 = .ok (.aload_n 3, 1) := by decide +kernel
theorem dX11_cell_103 : decode cX11_cell 103 = .ok (.iload_n 1, 1) := by decide +kernel
theorem dX11_cell_104 : decode cX11_cell 104 = .ok (.invokevirtual 145, 3) := by decide +kernel
theorem dX11_cell_107 : decode cX11_cell 107 = .ok (.ireturn, 1) := by decide +kernel
theorem dX11_cell_108 : decode cX11_cell 108 = .ok (.aload_n 3, 1) := by decide +kernel
theorem dX11_cell_109 : decode cX11_cell 109 = .ok (.iload_n 1, 1) := by decide +kernel
theorem dX11_cell_110 : decode cX11_cell 110 = .ok (.invokevirtual 149, 3) := by decide +kernel
theorem dX11_cell_113 : decode cX11_cell 113 = .ok (.aload_n 3, 1) := by decide +kernel
theorem dX11_cell_114 : decode cX11_cell 114 = .ok (.aload_n 3, 1) := by decide +kernel
theorem dX11_cell_115 : decode cX11_cell 115 = .ok (.iload_n 1, 1) := by decide +kernel
theorem dX11_cell_116 : decode cX11_cell 116 = .ok (.invokevirtual 145, 3) := by decide +kernel
theorem dX11_cell_119 : decode cX11_cell 119 = .ok (.invokevirtual 152, 3) := by decide +kernel
theorem dX11_cell_122 : decode cX11_cell 122 = .ok (.isub, 1) := by decide +kernel
theorem dX11_cell_123 : decode cX11_cell 123 = .ok (.ireturn, 1) := by decide +kernel
theorem dX11_cell_124 : decode cX11_cell 124 = .ok (.aload_n 3, 1) := by decide +kernel
theorem dX11_cell_125 : decode cX11_cell 125 = .ok (.aload_n 3, 1) := by decide +kernel
theorem dX11_cell_126 : decode cX11_cell 126 = .ok (.iload_n 1, 1) := by decide +kernel
theorem dX11_cell_127 : decode cX11_cell 127 = .ok (.invokevirtual 149, 3) := by decide +kernel
theorem dX11_cell_130 : decode cX11_cell 130 = .ok (.invokevirtual 155, 3) := by decide +kernel
theorem dX11_cell_133 : decode cX11_cell 133 = .ok (.ifCond .eq 7, 3) := by decide +kernel
theorem dX11_cell_136 : decode cX11_cell 136 = .ok (.iconst 1, 1) := by decide +kernel
theorem dX11_cell_137 : decode cX11_cell 137 = .ok (.goto 4, 3) := by decide +kernel
theorem dX11_cell_140 : decode cX11_cell 140 = .ok (.iconst 0, 1) := by decide +kernel
theorem dX11_cell_141 : decode cX11_cell 141 = .ok (.ireturn, 1) := by decide +kernel
theorem dX11_high_0 : decode cX11_high 0 = .ok (.aload_n 0, 1) := by decide +kernel
theorem dX11_high_1 : decode cX11_high 1 = .ok (.iload_n 1, 1) := by decide +kernel
theorem dX11_high_2 : decode cX11_high 2 = .ok (.invokevirtual 159, 3) := by decide +kernel
theorem dX11_high_5 : decode cX11_high 5 = .ok (.iload_n 1, 1) := by decide +kernel
theorem dX11_high_6 : decode cX11_high 6 = .ok (.invokevirtual 163, 3) := by decide +kernel
theorem dX11_high_9 : decode cX11_high 9 = .ok (.ireturn, 1) := by decide +kernel
theorem dX11_layer_0 : decode cX11_layer 0 = .ok (.aload_n 0, 1) := by decide +kernel
theorem dX11_layer_1 : decode cX11_layer 1 = .ok (.iload_n 1, 1) := by decide +kernel
theorem dX11_layer_2 : decode cX11_layer 2 = .ok (.invokevirtual 159, 3) := by decide +kernel
theorem dX11_layer_5 : decode cX11_layer 5 = .ok (.astore_n 3, 1) := by decide +kernel
theorem dX11_layer_6 : decode cX11_layer 6 = .ok (.iload_n 2, 1) := by decide +kernel
theorem dX11_layer_7 : decode cX11_layer 7 = .ok (.ifCond .ge 13, 3) := by decide +kernel
theorem dX11_layer_10 : decode cX11_layer 10 = .ok (.new 99, 3) := by decide +kernel
theorem dX11_layer_13 : decode cX11_layer 13 = .ok (.dup, 1) := by decide +kernel
theorem dX11_layer_14 : decode cX11_layer 14 = .ok (.ldc 166, 2) := by decide +kernel
theorem dX11_layer_16 : decode cX11_layer 16 = .ok (.invokespecial 103, 3) := by decide +kernel
theorem dX11_layer_19 : decode cX11_layer 19 = .ok (.athrow, 1) := by decide +kernel
theorem dX11_layer_20 : decode cX11_layer 20 = .ok (.iload_n 2, 1) := by decide +kernel
theorem dX11_layer_21 : decode cX11_layer 21 = .ok (.aload_n 3, 1) := by decide +kernel
theorem dX11_layer_22 : decode cX11_layer 22 = .ok (.iload_n 1, 1) := by decide +kernel
theorem dX11_layer_23 : decode cX11_layer 23 = .ok (.invokevirtual 163, 3) := by decide +kernel
theorem dX11_layer_26 : decode cX11_layer 26 = .ok (.if_icmp .ge 17, 3) := by decide +kernel
theorem dX11_layer_29 : decode cX11_layer 29 = .ok (.aload_n 3, 1) := by decide +kernel
theorem dX11_layer_30 : decode cX11_layer 30 = .ok (.aload_n 3, 1) := by decide +kernel
theorem dX11_layer_31 : decode cX11_layer 31 = .ok (.iload_n 1, 1) := by decide +kernel
theorem dX11_layer_32 : decode cX11_layer 32 = .ok (.invokevirtual 152, 3) := by decide +kernel
theorem dX11_layer_35 : decode cX11_layer 35 = .ok (.iload_n 2, 1) := by decide +kernel
theorem dX11_layer_36 : decode cX11_layer 36 = .ok (.iadd, 1) := by decide +kernel
theorem dX11_layer_37 : decode cX11_layer 37 = .ok (.invokevirtual 168, 3) := by decide +kernel
theorem dX11_layer_40 : decode cX11_layer 40 = .ok (.goto 4, 3) := by decide +kernel
theorem dX11_layer_43 : decode cX11_layer 43 = .ok (.iconst (-1), 1) := by decide +kernel
theorem dX11_layer_44 : decode cX11_layer 44 = .ok (.ireturn, 1) := by decide +kernel
theorem dX11_above_0 : decode cX11_above 0 = .ok (.aload_n 0, 1) := by decide +kernel
theorem dX11_above_1 : decode cX11_above 1 = .ok (.iload_n 1, 1) := by decide +kernel
theorem dX11_above_2 : decode cX11_above 2 = .ok (.invokevirtual 159, 3) := by decide +kernel
theorem dX11_above_5 : decode cX11_above 5 = .ok (.iload_n 1, 1) := by decide +kernel
theorem dX11_above_6 : decode cX11_above 6 = .ok (.aload_n 0, 1) := by decide +kernel
theorem dX11_above_7 : decode cX11_above 7 = .ok (.getfield 33, 3) := by decide +kernel
theorem dX11_above_10 : decode cX11_above 10 = .ok (.getfield 138, 3) := by decide +kernel
theorem dX11_above_13 : decode cX11_above 13 = .ok (.getfield 171, 3) := by decide +kernel
theorem dX11_above_16 : decode cX11_above 16 = .ok (.invokevirtual 174, 3) := by decide +kernel
theorem dX11_above_19 : decode cX11_above 19 = .ok (.ireturn, 1) := by decide +kernel
theorem dX11_beneath_0 : decode cX11_beneath 0 = .ok (.aload_n 0, 1) := by decide +kernel
theorem dX11_beneath_1 : decode cX11_beneath 1 = .ok (.iload_n 1, 1) := by decide +kernel
theorem dX11_beneath_2 : decode cX11_beneath 2 = .ok (.invokevirtual 159, 3) := by decide +kernel
theorem dX11_beneath_5 : decode cX11_beneath 5 = .ok (.iload_n 1, 1) := by decide +kernel
theorem dX11_beneath_6 : decode cX11_beneath 6 = .ok (.aload_n 0, 1) := by decide +kernel
theorem dX11_beneath_7 : decode cX11_beneath 7 = .ok (.getfield 33, 3) := by decide +kernel
theorem dX11_beneath_10 : decode cX11_beneath 10 = .ok (.getfield 138, 3) := by decide +kernel
theorem dX11_beneath_13 : decode cX11_beneath 13 = .ok (.getfield 171, 3) := by decide +kernel
theorem dX11_beneath_16 : decode cX11_beneath 16 = .ok (.invokevirtual 178, 3) := by decide +kernel
theorem dX11_beneath_19 : decode cX11_beneath 19 = .ok (.ireturn, 1) := by decide +kernel
theorem dX11_crease_0 : decode cX11_crease 0 = .ok (.iload_n 1, 1) := by decide +kernel
theorem dX11_crease_1 : decode cX11_crease 1 = .ok (.ifCond .lt 19, 3) := by decide +kernel
theorem dX11_crease_4 : decode cX11_crease 4 = .ok (.iload_n 1, 1) := by decide +kernel
theorem dX11_crease_5 : decode cX11_crease 5 = .ok (.aload_n 0, 1) := by decide +kernel
theorem dX11_crease_6 : decode cX11_crease 6 = .ok (.getfield 33, 3) := by decide +kernel
theorem dX11_crease_9 : decode cX11_crease 9 = .ok (.getfield 181, 3) := by decide +kernel
theorem dX11_crease_12 : decode cX11_crease 12 = .ok (.getfield 185, 3) := by decide +kernel
theorem dX11_crease_15 : decode cX11_crease 15 = .ok (.iconst 1, 1) := by decide +kernel
theorem dX11_crease_16 : decode cX11_crease 16 = .ok (.isub, 1) := by decide +kernel
theorem dX11_crease_17 : decode cX11_crease 17 = .ok (.if_icmp .lt 13, 3) := by decide +kernel
theorem dX11_crease_20 : decode cX11_crease 20 = .ok (.new 127, 3) := by decide +kernel
theorem dX11_crease_23 : decode cX11_crease 23 = .ok (.dup, 1) := by decide +kernel
theorem dX11_crease_24 : decode cX11_crease 24 = .ok (.ldc 188, 2) := by decide +kernel
theorem dX11_crease_26 : decode cX11_crease 26 = .ok (.invokespecial 131, 3) := by decide +kernel
theorem dX11_crease_29 : decode cX11_crease 29 = .ok (.athrow, 1) := by decide +kernel
theorem dX11_crease_30 : decode cX11_crease 30 = .ok (.aload_n 0, 1) := by decide +kernel
theorem dX11_crease_31 : decode cX11_crease 31 = .ok (.invokevirtual 134, 3) := by decide +kernel
theorem dX11_crease_34 : decode cX11_crease 34 = .ok (.iload_n 1, 1) := by decide +kernel
theorem dX11_crease_35 : decode cX11_crease 35 = .ok (.invokevirtual 190, 3) := by decide +kernel
theorem dX11_crease_38 : decode cX11_crease 38 = .ok (.ireturn, 1) := by decide +kernel
theorem dX11_folded_0 : decode cX11_folded 0 = .ok (.iload_n 1, 1) := by decide +kernel
theorem dX11_folded_1 : decode cX11_folded 1 = .ok (.ifCond .ge 13, 3) := by decide +kernel
theorem dX11_folded_4 : decode cX11_folded 4 = .ok (.new 99, 3) := by decide +kernel
theorem dX11_folded_7 : decode cX11_folded 7 = .ok (.dup, 1) := by decide +kernel
theorem dX11_folded_8 : decode cX11_folded 8 = .ok (.ldc 193, 2) := by decide +kernel
theorem dX11_folded_10 : decode cX11_folded 10 = .ok (.invokespecial 103, 3) := by decide +kernel
theorem dX11_folded_13 : decode cX11_folded 13 = .ok (.athrow, 1) := by decide +kernel
theorem dX11_folded_14 : decode cX11_folded 14 = .ok (.aload_n 0, 1) := by decide +kernel
theorem dX11_folded_15 : decode cX11_folded 15 = .ok (.getfield 33, 3) := by decide +kernel
theorem dX11_folded_18 : decode cX11_folded 18 = .ok (.getfield 138, 3) := by decide +kernel
theorem dX11_folded_21 : decode cX11_folded 21 = .ok (.iload_n 1, 1) := by decide +kernel
theorem dX11_folded_22 : decode cX11_folded 22 = .ok (.invokevirtual 195, 3) := by decide +kernel
theorem dX11_folded_25 : decode cX11_folded 25 = .ok (.ireturn, 1) := by decide +kernel
theorem dX11_worth_0 : decode cX11_worth 0 = .ok (.aload_n 0, 1) := by decide +kernel
theorem dX11_worth_1 : decode cX11_worth 1 = .ok (.invokevirtual 198, 3) := by decide +kernel
theorem dX11_worth_4 : decode cX11_worth 4 = .ok (.aload_n 0, 1) := by decide +kernel
theorem dX11_worth_5 : decode cX11_worth 5 = .ok (.invokevirtual 201, 3) := by decide +kernel
theorem dX11_worth_8 : decode cX11_worth 8 = .ok (.ireturn, 1) := by decide +kernel
theorem dX11_holds_0 : decode cX11_holds 0 = .ok (.aload_n 0, 1) := by decide +kernel
theorem dX11_holds_1 : decode cX11_holds 1 = .ok (.invokevirtual 198, 3) := by decide +kernel
theorem dX11_holds_4 : decode cX11_holds 4 = .ok (.aload_n 0, 1) := by decide +kernel
theorem dX11_holds_5 : decode cX11_holds 5 = .ok (.invokevirtual 205, 3) := by decide +kernel
theorem dX11_holds_8 : decode cX11_holds 8 = .ok (.ireturn, 1) := by decide +kernel
theorem dX11_likes_0 : decode cX11_likes 0 = .ok (.iload_n 1, 1) := by decide +kernel
theorem dX11_likes_1 : decode cX11_likes 1 = .ok (.ifCond .lt 17, 3) := by decide +kernel
theorem dX11_likes_4 : decode cX11_likes 4 = .ok (.iload_n 1, 1) := by decide +kernel
theorem dX11_likes_5 : decode cX11_likes 5 = .ok (.aload_n 0, 1) := by decide +kernel
theorem dX11_likes_6 : decode cX11_likes 6 = .ok (.getfield 33, 3) := by decide +kernel
theorem dX11_likes_9 : decode cX11_likes 9 = .ok (.getfield 181, 3) := by decide +kernel
theorem dX11_likes_12 : decode cX11_likes 12 = .ok (.getfield 209, 3) := by decide +kernel
theorem dX11_likes_15 : decode cX11_likes 15 = .ok (.if_icmp .lt 13, 3) := by decide +kernel
theorem dX11_likes_18 : decode cX11_likes 18 = .ok (.new 127, 3) := by decide +kernel
theorem dX11_likes_21 : decode cX11_likes 21 = .ok (.dup, 1) := by decide +kernel
theorem dX11_likes_22 : decode cX11_likes 22 = .ok (.ldc 212, 2) := by decide +kernel
theorem dX11_likes_24 : decode cX11_likes 24 = .ok (.invokespecial 131, 3) := by decide +kernel
theorem dX11_likes_27 : decode cX11_likes 27 = .ok (.athrow, 1) := by decide +kernel
theorem dX11_likes_28 : decode cX11_likes 28 = .ok (.aload_n 0, 1) := by decide +kernel
theorem dX11_likes_29 : decode cX11_likes 29 = .ok (.invokevirtual 198, 3) := by decide +kernel
theorem dX11_likes_32 : decode cX11_likes 32 = .ok (.aload_n 0, 1) := by decide +kernel
theorem dX11_likes_33 : decode cX11_likes 33 = .ok (.iload_n 1, 1) := by decide +kernel
theorem dX11_likes_34 : decode cX11_likes 34 = .ok (.invokevirtual 214, 3) := by decide +kernel
theorem dX11_likes_37 : decode cX11_likes 37 = .ok (.ireturn, 1) := by decide +kernel
theorem dX11_isCell_0 : decode cX11_isCell 0 = .ok (.lload_n 1, 1) := by decide +kernel
theorem dX11_isCell_1 : decode cX11_isCell 1 = .ok (.lconst 0, 1) := by decide +kernel
theorem dX11_isCell_2 : decode cX11_isCell 2 = .ok (.lcmp, 1) := by decide +kernel
theorem dX11_isCell_3 : decode cX11_isCell 3 = .ok (.ifCond .lt 23, 3) := by decide +kernel
theorem dX11_isCell_6 : decode cX11_isCell 6 = .ok (.lload_n 1, 1) := by decide +kernel
theorem dX11_isCell_7 : decode cX11_isCell 7 = .ok (.aload_n 0, 1) := by decide +kernel
theorem dX11_isCell_8 : decode cX11_isCell 8 = .ok (.getfield 33, 3) := by decide +kernel
theorem dX11_isCell_11 : decode cX11_isCell 11 = .ok (.getfield 181, 3) := by decide +kernel
theorem dX11_isCell_14 : decode cX11_isCell 14 = .ok (.getfield 185, 3) := by decide +kernel
theorem dX11_isCell_17 : decode cX11_isCell 17 = .ok (.i2l, 1) := by decide +kernel
theorem dX11_isCell_18 : decode cX11_isCell 18 = .ok (.lcmp, 1) := by decide +kernel
theorem dX11_isCell_19 : decode cX11_isCell 19 = .ok (.ifCond .ge 7, 3) := by decide +kernel
theorem dX11_isCell_22 : decode cX11_isCell 22 = .ok (.iconst 1, 1) := by decide +kernel
theorem dX11_isCell_23 : decode cX11_isCell 23 = .ok (.goto 4, 3) := by decide +kernel
theorem dX11_isCell_26 : decode cX11_isCell 26 = .ok (.iconst 0, 1) := by decide +kernel
theorem dX11_isCell_27 : decode cX11_isCell 27 = .ok (.ireturn, 1) := by decide +kernel
theorem dX11_layWith_0 : decode cX11_layWith 0 = .ok (.aload_n 0, 1) := by decide +kernel
theorem dX11_layWith_1 : decode cX11_layWith 1 = .ok (.invokevirtual 134, 3) := by decide +kernel
theorem dX11_layWith_4 : decode cX11_layWith 4 = .ok (.astore_n 2, 1) := by decide +kernel
theorem dX11_layWith_5 : decode cX11_layWith 5 = .ok (.iload_n 1, 1) := by decide +kernel
theorem dX11_layWith_6 : decode cX11_layWith 6 = .ok (.ifCond .lt 11, 3) := by decide +kernel
theorem dX11_layWith_9 : decode cX11_layWith 9 = .ok (.iload_n 1, 1) := by decide +kernel
theorem dX11_layWith_10 : decode cX11_layWith 10 = .ok (.aload_n 2, 1) := by decide +kernel
theorem dX11_layWith_11 : decode cX11_layWith 11 = .ok (.getfield 217, 3) := by decide +kernel
theorem dX11_layWith_14 : decode cX11_layWith 14 = .ok (.if_icmp .lt 13, 3) := by decide +kernel
theorem dX11_layWith_17 : decode cX11_layWith 17 = .ok (.new 127, 3) := by decide +kernel
theorem dX11_layWith_20 : decode cX11_layWith 20 = .ok (.dup, 1) := by decide +kernel
theorem dX11_layWith_21 : decode cX11_layWith 21 = .ok (.ldc 220, 2) := by decide +kernel
theorem dX11_layWith_23 : decode cX11_layWith 23 = .ok (.invokespecial 131, 3) := by decide +kernel
theorem dX11_layWith_26 : decode cX11_layWith 26 = .ok (.athrow, 1) := by decide +kernel
theorem dX11_layWith_27 : decode cX11_layWith 27 = .ok (.aload_n 2, 1) := by decide +kernel
theorem dX11_layWith_28 : decode cX11_layWith 28 = .ok (.areturn, 1) := by decide +kernel
theorem dX11_layNow_0 : decode cX11_layNow 0 = .ok (.aload_n 0, 1) := by decide +kernel
theorem dX11_layNow_1 : decode cX11_layNow 1 = .ok (.getfield 67, 3) := by decide +kernel
theorem dX11_layNow_4 : decode cX11_layNow 4 = .ok (.aload_n 0, 1) := by decide +kernel
theorem dX11_layNow_5 : decode cX11_layNow 5 = .ok (.getfield 33, 3) := by decide +kernel
theorem dX11_layNow_8 : decode cX11_layNow 8 = .ok (.getfield 181, 3) := by decide +kernel
theorem dX11_layNow_11 : decode cX11_layNow 11 = .ok (.getfield 185, 3) := by decide +kernel
theorem dX11_layNow_14 : decode cX11_layNow 14 = .ok (.invokevirtual 222, 3) := by decide +kernel
theorem dX11_layNow_17 : decode cX11_layNow 17 = .ok (.iconst 0, 1) := by decide +kernel
theorem dX11_layNow_18 : decode cX11_layNow 18 = .ok (.istore_n 1, 1) := by decide +kernel
theorem dX11_layNow_19 : decode cX11_layNow 19 = .ok (.iload_n 1, 1) := by decide +kernel
theorem dX11_layNow_20 : decode cX11_layNow 20 = .ok (.aload_n 0, 1) := by decide +kernel
theorem dX11_layNow_21 : decode cX11_layNow 21 = .ok (.getfield 33, 3) := by decide +kernel
theorem dX11_layNow_24 : decode cX11_layNow 24 = .ok (.getfield 138, 3) := by decide +kernel
theorem dX11_layNow_27 : decode cX11_layNow 27 = .ok (.getfield 225, 3) := by decide +kernel
theorem dX11_layNow_30 : decode cX11_layNow 30 = .ok (.if_icmp .ge 51, 3) := by decide +kernel
theorem dX11_layNow_33 : decode cX11_layNow 33 = .ok (.aload_n 0, 1) := by decide +kernel
theorem dX11_layNow_34 : decode cX11_layNow 34 = .ok (.getfield 33, 3) := by decide +kernel
theorem dX11_layNow_37 : decode cX11_layNow 37 = .ok (.getfield 138, 3) := by decide +kernel
theorem dX11_layNow_40 : decode cX11_layNow 40 = .ok (.iload_n 1, 1) := by decide +kernel
theorem dX11_layNow_41 : decode cX11_layNow 41 = .ok (.invokevirtual 195, 3) := by decide +kernel
theorem dX11_layNow_44 : decode cX11_layNow 44 = .ok (.istore_n 2, 1) := by decide +kernel
theorem dX11_layNow_45 : decode cX11_layNow 45 = .ok (.aload_n 0, 1) := by decide +kernel
theorem dX11_layNow_46 : decode cX11_layNow 46 = .ok (.getfield 71, 3) := by decide +kernel
theorem dX11_layNow_49 : decode cX11_layNow 49 = .ok (.aload_n 0, 1) := by decide +kernel
theorem dX11_layNow_50 : decode cX11_layNow 50 = .ok (.getfield 67, 3) := by decide +kernel
theorem dX11_layNow_53 : decode cX11_layNow 53 = .ok (.invokevirtual 228, 3) := by decide +kernel
theorem dX11_layNow_56 : decode cX11_layNow 56 = .ok (.aload_n 0, 1) := by decide +kernel
theorem dX11_layNow_57 : decode cX11_layNow 57 = .ok (.getfield 67, 3) := by decide +kernel
theorem dX11_layNow_60 : decode cX11_layNow 60 = .ok (.aload_n 0, 1) := by decide +kernel
theorem dX11_layNow_61 : decode cX11_layNow 61 = .ok (.getfield 71, 3) := by decide +kernel
theorem dX11_layNow_64 : decode cX11_layNow 64 = .ok (.iload_n 2, 1) := by decide +kernel
theorem dX11_layNow_65 : decode cX11_layNow 65 = .ok (.bipush 10, 2) := by decide +kernel
theorem dX11_layNow_67 : decode cX11_layNow 67 = .ok (.idiv, 1) := by decide +kernel
theorem dX11_layNow_68 : decode cX11_layNow 68 = .ok (.iload_n 2, 1) := by decide +kernel
theorem dX11_layNow_69 : decode cX11_layNow 69 = .ok (.bipush 10, 2) := by decide +kernel
theorem dX11_layNow_71 : decode cX11_layNow 71 = .ok (.irem, 1) := by decide +kernel
theorem dX11_layNow_72 : decode cX11_layNow 72 = .ok (.invokevirtual 232, 3) := by decide +kernel
theorem dX11_layNow_75 : decode cX11_layNow 75 = .ok (.iinc 1 1, 3) := by decide +kernel
theorem dX11_layNow_78 : decode cX11_layNow 78 = .ok (.goto (-59), 3) := by decide +kernel
theorem dX11_layNow_81 : decode cX11_layNow 81 = .ok (.aload_n 0, 1) := by decide +kernel
theorem dX11_layNow_82 : decode cX11_layNow 82 = .ok (.getfield 67, 3) := by decide +kernel
theorem dX11_layNow_85 : decode cX11_layNow 85 = .ok (.areturn, 1) := by decide +kernel
theorem dX11_viewNow_0 : decode cX11_viewNow 0 = .ok (.aload_n 0, 1) := by decide +kernel
theorem dX11_viewNow_1 : decode cX11_viewNow 1 = .ok (.getfield 50, 3) := by decide +kernel
theorem dX11_viewNow_4 : decode cX11_viewNow 4 = .ok (.aload_n 0, 1) := by decide +kernel
theorem dX11_viewNow_5 : decode cX11_viewNow 5 = .ok (.invokevirtual 134, 3) := by decide +kernel
theorem dX11_viewNow_8 : decode cX11_viewNow 8 = .ok (.aload_n 0, 1) := by decide +kernel
theorem dX11_viewNow_9 : decode cX11_viewNow 9 = .ok (.getfield 33, 3) := by decide +kernel
theorem dX11_viewNow_12 : decode cX11_viewNow 12 = .ok (.getfield 138, 3) := by decide +kernel
theorem dX11_viewNow_15 : decode cX11_viewNow 15 = .ok (.getfield 171, 3) := by decide +kernel
theorem dX11_viewNow_18 : decode cX11_viewNow 18 = .ok (.aload_n 0, 1) := by decide +kernel
theorem dX11_viewNow_19 : decode cX11_viewNow 19 = .ok (.getfield 33, 3) := by decide +kernel
theorem dX11_viewNow_22 : decode cX11_viewNow 22 = .ok (.getfield 138, 3) := by decide +kernel
theorem dX11_viewNow_25 : decode cX11_viewNow 25 = .ok (.getfield 225, 3) := by decide +kernel
theorem dX11_viewNow_28 : decode cX11_viewNow 28 = .ok (.invokevirtual 236, 3) := by decide +kernel
theorem dX11_viewNow_31 : decode cX11_viewNow 31 = .ok (.return_, 1) := by decide +kernel
theorem dX11_viewFlat_0 : decode cX11_viewFlat 0 = .ok (.aload_n 0, 1) := by decide +kernel
theorem dX11_viewFlat_1 : decode cX11_viewFlat 1 = .ok (.getfield 67, 3) := by decide +kernel
theorem dX11_viewFlat_4 : decode cX11_viewFlat 4 = .ok (.aload_n 0, 1) := by decide +kernel
theorem dX11_viewFlat_5 : decode cX11_viewFlat 5 = .ok (.getfield 33, 3) := by decide +kernel
theorem dX11_viewFlat_8 : decode cX11_viewFlat 8 = .ok (.getfield 181, 3) := by decide +kernel
theorem dX11_viewFlat_11 : decode cX11_viewFlat 11 = .ok (.getfield 185, 3) := by decide +kernel
theorem dX11_viewFlat_14 : decode cX11_viewFlat 14 = .ok (.invokevirtual 222, 3) := by decide +kernel
theorem dX11_viewFlat_17 : decode cX11_viewFlat 17 = .ok (.aload_n 0, 1) := by decide +kernel
theorem dX11_viewFlat_18 : decode cX11_viewFlat 18 = .ok (.getfield 50, 3) := by decide +kernel
theorem dX11_viewFlat_21 : decode cX11_viewFlat 21 = .ok (.aload_n 0, 1) := by decide +kernel
theorem dX11_viewFlat_22 : decode cX11_viewFlat 22 = .ok (.getfield 67, 3) := by decide +kernel
theorem dX11_viewFlat_25 : decode cX11_viewFlat 25 = .ok (.aload_n 0, 1) := by decide +kernel
theorem dX11_viewFlat_26 : decode cX11_viewFlat 26 = .ok (.getfield 33, 3) := by decide +kernel
theorem dX11_viewFlat_29 : decode cX11_viewFlat 29 = .ok (.getfield 138, 3) := by decide +kernel
theorem dX11_viewFlat_32 : decode cX11_viewFlat 32 = .ok (.getfield 171, 3) := by decide +kernel
theorem dX11_viewFlat_35 : decode cX11_viewFlat 35 = .ok (.iconst 0, 1) := by decide +kernel
theorem dX11_viewFlat_36 : decode cX11_viewFlat 36 = .ok (.invokevirtual 236, 3) := by decide +kernel
theorem dX11_viewFlat_39 : decode cX11_viewFlat 39 = .ok (.return_, 1) := by decide +kernel
theorem dX11_holdsInView_0 : decode cX11_holdsInView 0 = .ok (.aload_n 0, 1) := by decide +kernel
theorem dX11_holdsInView_1 : decode cX11_holdsInView 1 = .ok (.getfield 50, 3) := by decide +kernel
theorem dX11_holdsInView_4 : decode cX11_holdsInView 4 = .ok (.aload_n 0, 1) := by decide +kernel
theorem dX11_holdsInView_5 : decode cX11_holdsInView 5 = .ok (.getfield 33, 3) := by decide +kernel
theorem dX11_holdsInView_8 : decode cX11_holdsInView 8 = .ok (.getfield 181, 3) := by decide +kernel
theorem dX11_holdsInView_11 : decode cX11_holdsInView 11 = .ok (.getfield 240, 3) := by decide +kernel
theorem dX11_holdsInView_14 : decode cX11_holdsInView 14 = .ok (.invokevirtual 243, 3) := by decide +kernel
theorem dX11_holdsInView_17 : decode cX11_holdsInView 17 = .ok (.ifCond .eq 7, 3) := by decide +kernel
theorem dX11_holdsInView_20 : decode cX11_holdsInView 20 = .ok (.iconst 1, 1) := by decide +kernel
theorem dX11_holdsInView_21 : decode cX11_holdsInView 21 = .ok (.goto 4, 3) := by decide +kernel
theorem dX11_holdsInView_24 : decode cX11_holdsInView 24 = .ok (.iconst 0, 1) := by decide +kernel
theorem dX11_holdsInView_25 : decode cX11_holdsInView 25 = .ok (.ireturn, 1) := by decide +kernel
theorem dX11_worthInView_0 : decode cX11_worthInView 0 = .ok (.aload_n 0, 1) := by decide +kernel
theorem dX11_worthInView_1 : decode cX11_worthInView 1 = .ok (.getfield 50, 3) := by decide +kernel
theorem dX11_worthInView_4 : decode cX11_worthInView 4 = .ok (.aload_n 0, 1) := by decide +kernel
theorem dX11_worthInView_5 : decode cX11_worthInView 5 = .ok (.getfield 33, 3) := by decide +kernel
theorem dX11_worthInView_8 : decode cX11_worthInView 8 = .ok (.getfield 181, 3) := by decide +kernel
theorem dX11_worthInView_11 : decode cX11_worthInView 11 = .ok (.getfield 247, 3) := by decide +kernel
theorem dX11_worthInView_14 : decode cX11_worthInView 14 = .ok (.invokevirtual 243, 3) := by decide +kernel
theorem dX11_worthInView_17 : decode cX11_worthInView 17 = .ok (.ireturn, 1) := by decide +kernel
theorem dX11_likingInView_0 : decode cX11_likingInView 0 = .ok (.aload_n 0, 1) := by decide +kernel
theorem dX11_likingInView_1 : decode cX11_likingInView 1 = .ok (.getfield 50, 3) := by decide +kernel
theorem dX11_likingInView_4 : decode cX11_likingInView 4 = .ok (.iload_n 1, 1) := by decide +kernel
theorem dX11_likingInView_5 : decode cX11_likingInView 5 = .ok (.aload_n 0, 1) := by decide +kernel
theorem dX11_likingInView_6 : decode cX11_likingInView 6 = .ok (.getfield 33, 3) := by decide +kernel
theorem dX11_likingInView_9 : decode cX11_likingInView 9 = .ok (.getfield 181, 3) := by decide +kernel
theorem dX11_likingInView_12 : decode cX11_likingInView 12 = .ok (.iload_n 1, 1) := by decide +kernel
theorem dX11_likingInView_13 : decode cX11_likingInView 13 = .ok (.invokevirtual 250, 3) := by decide +kernel
theorem dX11_likingInView_16 : decode cX11_likingInView 16 = .ok (.invokevirtual 253, 3) := by decide +kernel
theorem dX11_likingInView_19 : decode cX11_likingInView 19 = .ok (.aload_n 0, 1) := by decide +kernel
theorem dX11_likingInView_20 : decode cX11_likingInView 20 = .ok (.getfield 50, 3) := by decide +kernel
theorem dX11_likingInView_23 : decode cX11_likingInView 23 = .ok (.aload_n 0, 1) := by decide +kernel
theorem dX11_likingInView_24 : decode cX11_likingInView 24 = .ok (.getfield 33, 3) := by decide +kernel
theorem dX11_likingInView_27 : decode cX11_likingInView 27 = .ok (.getfield 181, 3) := by decide +kernel
theorem dX11_likingInView_30 : decode cX11_likingInView 30 = .ok (.getfield 257, 3) := by decide +kernel
theorem dX11_likingInView_33 : decode cX11_likingInView 33 = .ok (.invokevirtual 243, 3) := by decide +kernel
theorem dX11_likingInView_36 : decode cX11_likingInView 36 = .ok (.ireturn, 1) := by decide +kernel
theorem dX11_leastLikingInView_0 : decode cX11_leastLikingInView 0 = .ok (.iconst 0, 1) := by decide +kernel
theorem dX11_leastLikingInView_1 : decode cX11_leastLikingInView 1 = .ok (.istore_n 1, 1) := by decide +kernel
theorem dX11_leastLikingInView_2 : decode cX11_leastLikingInView 2 = .ok (.iconst 0, 1) := by decide +kernel
theorem dX11_leastLikingInView_3 : decode cX11_leastLikingInView 3 = .ok (.istore_n 2, 1) := by decide +kernel
theorem dX11_leastLikingInView_4 : decode cX11_leastLikingInView 4 = .ok (.iload_n 2, 1) := by decide +kernel
theorem dX11_leastLikingInView_5 : decode cX11_leastLikingInView 5 = .ok (.aload_n 0, 1) := by decide +kernel
theorem dX11_leastLikingInView_6 : decode cX11_leastLikingInView 6 = .ok (.getfield 33, 3) := by decide +kernel
theorem dX11_leastLikingInView_9 : decode cX11_leastLikingInView 9 = .ok (.getfield 181, 3) := by decide +kernel
theorem dX11_leastLikingInView_12 : decode cX11_leastLikingInView 12 = .ok (.getfield 209, 3) := by decide +kernel
theorem dX11_leastLikingInView_15 : decode cX11_leastLikingInView 15 = .ok (.if_icmp .ge 26, 3) := by decide +kernel
theorem dX11_leastLikingInView_18 : decode cX11_leastLikingInView 18 = .ok (.aload_n 0, 1) := by decide +kernel
theorem dX11_leastLikingInView_19 : decode cX11_leastLikingInView 19 = .ok (.iload_n 2, 1) := by decide +kernel
theorem dX11_leastLikingInView_20 : decode cX11_leastLikingInView 20 = .ok (.invokevirtual 214, 3) := by decide +kernel
theorem dX11_leastLikingInView_23 : decode cX11_leastLikingInView 23 = .ok (.istore_n 3, 1) := by decide +kernel
theorem dX11_leastLikingInView_24 : decode cX11_leastLikingInView 24 = .ok (.iload_n 2, 1) := by decide +kernel
theorem dX11_leastLikingInView_25 : decode cX11_leastLikingInView 25 = .ok (.ifCond .eq 8, 3) := by decide +kernel
theorem dX11_leastLikingInView_28 : decode cX11_leastLikingInView 28 = .ok (.iload_n 3, 1) := by decide +kernel
theorem dX11_leastLikingInView_29 : decode cX11_leastLikingInView 29 = .ok (.iload_n 1, 1) := by decide +kernel
theorem dX11_leastLikingInView_30 : decode cX11_leastLikingInView 30 = .ok (.if_icmp .ge 5, 3) := by decide +kernel
theorem dX11_leastLikingInView_33 : decode cX11_leastLikingInView 33 = .ok (.iload_n 3, 1) := by decide +kernel
theorem dX11_leastLikingInView_34 : decode cX11_leastLikingInView 34 = .ok (.istore_n 1, 1) := by decide +kernel
theorem dX11_leastLikingInView_35 : decode cX11_leastLikingInView 35 = .ok (.iinc 2 1, 3) := by decide +kernel
theorem dX11_leastLikingInView_38 : decode cX11_leastLikingInView 38 = .ok (.goto (-34), 3) := by decide +kernel
theorem dX11_leastLikingInView_41 : decode cX11_leastLikingInView 41 = .ok (.iload_n 1, 1) := by decide +kernel
theorem dX11_leastLikingInView_42 : decode cX11_leastLikingInView 42 = .ok (.ireturn, 1) := by decide +kernel
theorem dX11_fold_0 : decode cX11_fold 0 = .ok (.aload_n 0, 1) := by decide +kernel
theorem dX11_fold_1 : decode cX11_fold 1 = .ok (.aload_n 0, 1) := by decide +kernel
theorem dX11_fold_2 : decode cX11_fold 2 = .ok (.getfield 33, 3) := by decide +kernel
theorem dX11_fold_5 : decode cX11_fold 5 = .ok (.getfield 138, 3) := by decide +kernel
theorem dX11_fold_8 : decode cX11_fold 8 = .ok (.invokevirtual 260, 3) := by decide +kernel
theorem dX11_fold_11 : decode cX11_fold 11 = .ok (.istore_n 3, 1) := by decide +kernel
theorem dX11_fold_12 : decode cX11_fold 12 = .ok (.iload_n 1, 1) := by decide +kernel
theorem dX11_fold_13 : decode cX11_fold 13 = .ok (.iconst 1, 1) := by decide +kernel
theorem dX11_fold_14 : decode cX11_fold 14 = .ok (.if_icmp .lt 17, 3) := by decide +kernel
theorem dX11_fold_17 : decode cX11_fold 17 = .ok (.iload_n 1, 1) := by decide +kernel
theorem dX11_fold_18 : decode cX11_fold 18 = .ok (.iload_n 3, 1) := by decide +kernel
theorem dX11_fold_19 : decode cX11_fold 19 = .ok (.if_icmp .ge 12, 3) := by decide +kernel
theorem dX11_fold_22 : decode cX11_fold 22 = .ok (.iload_n 2, 1) := by decide +kernel
theorem dX11_fold_23 : decode cX11_fold 23 = .ok (.ifCond .lt 8, 3) := by decide +kernel
theorem dX11_fold_26 : decode cX11_fold 26 = .ok (.iload_n 2, 1) := by decide +kernel
theorem dX11_fold_27 : decode cX11_fold 27 = .ok (.iconst 4, 1) := by decide +kernel
theorem dX11_fold_28 : decode cX11_fold 28 = .ok (.if_icmp .lt 5, 3) := by decide +kernel
theorem dX11_fold_31 : decode cX11_fold 31 = .ok (.iconst (-1), 1) := by decide +kernel
theorem dX11_fold_32 : decode cX11_fold 32 = .ok (.ireturn, 1) := by decide +kernel
theorem dX11_fold_33 : decode cX11_fold 33 = .ok (.aload_n 0, 1) := by decide +kernel
theorem dX11_fold_34 : decode cX11_fold 34 = .ok (.bipush 10, 2) := by decide +kernel
theorem dX11_fold_36 : decode cX11_fold 36 = .ok (.iload_n 1, 1) := by decide +kernel
theorem dX11_fold_37 : decode cX11_fold 37 = .ok (.imul, 1) := by decide +kernel
theorem dX11_fold_38 : decode cX11_fold 38 = .ok (.iload_n 2, 1) := by decide +kernel
theorem dX11_fold_39 : decode cX11_fold 39 = .ok (.iadd, 1) := by decide +kernel
theorem dX11_fold_40 : decode cX11_fold 40 = .ok (.invokevirtual 264, 3) := by decide +kernel
theorem dX11_fold_43 : decode cX11_fold 43 = .ok (.aload_n 0, 1) := by decide +kernel
theorem dX11_fold_44 : decode cX11_fold 44 = .ok (.aload_n 0, 1) := by decide +kernel
theorem dX11_fold_45 : decode cX11_fold 45 = .ok (.getfield 33, 3) := by decide +kernel
theorem dX11_fold_48 : decode cX11_fold 48 = .ok (.getfield 138, 3) := by decide +kernel
theorem dX11_fold_51 : decode cX11_fold 51 = .ok (.invokevirtual 260, 3) := by decide +kernel
theorem dX11_fold_54 : decode cX11_fold 54 = .ok (.ireturn, 1) := by decide +kernel
theorem dX11_unfold_0 : decode cX11_unfold 0 = .ok (.aload_n 0, 1) := by decide +kernel
theorem dX11_unfold_1 : decode cX11_unfold 1 = .ok (.invokevirtual 267, 3) := by decide +kernel
theorem dX11_unfold_4 : decode cX11_unfold 4 = .ok (.aload_n 0, 1) := by decide +kernel
theorem dX11_unfold_5 : decode cX11_unfold 5 = .ok (.bipush 100, 2) := by decide +kernel
theorem dX11_unfold_7 : decode cX11_unfold 7 = .ok (.invokevirtual 264, 3) := by decide +kernel
theorem dX11_unfold_10 : decode cX11_unfold 10 = .ok (.aload_n 0, 1) := by decide +kernel
theorem dX11_unfold_11 : decode cX11_unfold 11 = .ok (.aload_n 0, 1) := by decide +kernel
theorem dX11_unfold_12 : decode cX11_unfold 12 = .ok (.getfield 33, 3) := by decide +kernel
theorem dX11_unfold_15 : decode cX11_unfold 15 = .ok (.getfield 138, 3) := by decide +kernel
theorem dX11_unfold_18 : decode cX11_unfold 18 = .ok (.invokevirtual 260, 3) := by decide +kernel
theorem dX11_unfold_21 : decode cX11_unfold 21 = .ok (.ireturn, 1) := by decide +kernel
theorem dX11_shake_0 : decode cX11_shake 0 = .ok (.aload_n 0, 1) := by decide +kernel
theorem dX11_shake_1 : decode cX11_shake 1 = .ok (.invokevirtual 267, 3) := by decide +kernel
theorem dX11_shake_4 : decode cX11_shake 4 = .ok (.aload_n 0, 1) := by decide +kernel
theorem dX11_shake_5 : decode cX11_shake 5 = .ok (.getfield 33, 3) := by decide +kernel
theorem dX11_shake_8 : decode cX11_shake 8 = .ok (.getfield 138, 3) := by decide +kernel
theorem dX11_shake_11 : decode cX11_shake 11 = .ok (.getfield 225, 3) := by decide +kernel
theorem dX11_shake_14 : decode cX11_shake 14 = .ok (.istore_n 1, 1) := by decide +kernel
theorem dX11_shake_15 : decode cX11_shake 15 = .ok (.aload_n 0, 1) := by decide +kernel
theorem dX11_shake_16 : decode cX11_shake 16 = .ok (.sipush 200, 3) := by decide +kernel
theorem dX11_shake_19 : decode cX11_shake 19 = .ok (.invokevirtual 264, 3) := by decide +kernel
theorem dX11_shake_22 : decode cX11_shake 22 = .ok (.iload_n 1, 1) := by decide +kernel
theorem dX11_shake_23 : decode cX11_shake 23 = .ok (.ireturn, 1) := by decide +kernel
theorem dX11_amend_0 : decode cX11_amend 0 = .ok (.aload_n 0, 1) := by decide +kernel
theorem dX11_amend_1 : decode cX11_amend 1 = .ok (.iload_n 1, 1) := by decide +kernel
theorem dX11_amend_2 : decode cX11_amend 2 = .ok (.i2l, 1) := by decide +kernel
theorem dX11_amend_3 : decode cX11_amend 3 = .ok (.invokevirtual 123, 3) := by decide +kernel
theorem dX11_amend_6 : decode cX11_amend 6 = .ok (.ifCond .ne 13, 3) := by decide +kernel
theorem dX11_amend_9 : decode cX11_amend 9 = .ok (.new 127, 3) := by decide +kernel
theorem dX11_amend_12 : decode cX11_amend 12 = .ok (.dup, 1) := by decide +kernel
theorem dX11_amend_13 : decode cX11_amend 13 = .ok (.ldc 129, 2) := by decide +kernel
theorem dX11_amend_15 : decode cX11_amend 15 = .ok (.invokespecial 131, 3) := by decide +kernel
theorem dX11_amend_18 : decode cX11_amend 18 = .ok (.athrow, 1) := by decide +kernel
theorem dX11_amend_19 : decode cX11_amend 19 = .ok (.iload_n 2, 1) := by decide +kernel
theorem dX11_amend_20 : decode cX11_amend 20 = .ok (.ifCond .lt 18, 3) := by decide +kernel
theorem dX11_amend_23 : decode cX11_amend 23 = .ok (.iload_n 2, 1) := by decide +kernel
theorem dX11_amend_24 : decode cX11_amend 24 = .ok (.iconst 1, 1) := by decide +kernel
theorem dX11_amend_25 : decode cX11_amend 25 = .ok (.if_icmp .gt 13, 3) := by decide +kernel
theorem dX11_amend_28 : decode cX11_amend 28 = .ok (.iload_n 3, 1) := by decide +kernel
theorem dX11_amend_29 : decode cX11_amend 29 = .ok (.ifCond .lt 9, 3) := by decide +kernel
theorem dX11_amend_32 : decode cX11_amend 32 = .ok (.iload_n 3, 1) := by decide +kernel
theorem dX11_amend_33 : decode cX11_amend 33 = .ok (.bipush 99, 2) := by decide +kernel
theorem dX11_amend_35 : decode cX11_amend 35 = .ok (.if_icmp .le 14, 3) := by decide +kernel
theorem dX11_amend_38 : decode cX11_amend 38 = .ok (.new 99, 3) := by decide +kernel
theorem dX11_amend_41 : decode cX11_amend 41 = .ok (.dup, 1) := by decide +kernel
theorem dX11_amend_42 : decode cX11_amend 42 = .ok (.ldc_w 270, 3) := by decide +kernel
theorem dX11_amend_45 : decode cX11_amend 45 = .ok (.invokespecial 103, 3) := by decide +kernel
theorem dX11_amend_48 : decode cX11_amend 48 = .ok (.athrow, 1) := by decide +kernel
theorem dX11_amend_49 : decode cX11_amend 49 = .ok (.aload_n 0, 1) := by decide +kernel
theorem dX11_amend_50 : decode cX11_amend 50 = .ok (.getfield 33, 3) := by decide +kernel
theorem dX11_amend_53 : decode cX11_amend 53 = .ok (.getfield 138, 3) := by decide +kernel
theorem dX11_amend_56 : decode cX11_amend 56 = .ok (.iload_n 1, 1) := by decide +kernel
theorem dX11_amend_57 : decode cX11_amend 57 = .ok (.iload_n 2, 1) := by decide +kernel
theorem dX11_amend_58 : decode cX11_amend 58 = .ok (.invokevirtual 141, 3) := by decide +kernel
theorem dX11_amend_61 : decode cX11_amend 61 = .ok (.istore 4, 2) := by decide +kernel
theorem dX11_amend_63 : decode cX11_amend 63 = .ok (.aload_n 0, 1) := by decide +kernel
theorem dX11_amend_64 : decode cX11_amend 64 = .ok (.iload_n 2, 1) := by decide +kernel
theorem dX11_amend_65 : decode cX11_amend 65 = .ok (.ifCond .ne 9, 3) := by decide +kernel
theorem dX11_amend_68 : decode cX11_amend 68 = .ok (.sipush 1000, 3) := by decide +kernel
theorem dX11_amend_71 : decode cX11_amend 71 = .ok (.goto 6, 3) := by decide +kernel
theorem dX11_amend_74 : decode cX11_amend 74 = .ok (.sipush 2000, 3) := by decide +kernel
theorem dX11_amend_77 : decode cX11_amend 77 = .ok (.bipush 100, 2) := by decide +kernel
theorem dX11_amend_79 : decode cX11_amend 79 = .ok (.iload_n 1, 1) := by decide +kernel
theorem dX11_amend_80 : decode cX11_amend 80 = .ok (.imul, 1) := by decide +kernel
theorem dX11_amend_81 : decode cX11_amend 81 = .ok (.iadd, 1) := by decide +kernel
theorem dX11_amend_82 : decode cX11_amend 82 = .ok (.iload_n 3, 1) := by decide +kernel
theorem dX11_amend_83 : decode cX11_amend 83 = .ok (.iadd, 1) := by decide +kernel
theorem dX11_amend_84 : decode cX11_amend 84 = .ok (.invokevirtual 264, 3) := by decide +kernel
theorem dX11_amend_87 : decode cX11_amend 87 = .ok (.iload 4, 2) := by decide +kernel
theorem dX11_amend_89 : decode cX11_amend 89 = .ok (.ireturn, 1) := by decide +kernel
theorem dX11_undo_0 : decode cX11_undo 0 = .ok (.iload_n 1, 1) := by decide +kernel
theorem dX11_undo_1 : decode cX11_undo 1 = .ok (.iconst 1, 1) := by decide +kernel
theorem dX11_undo_2 : decode cX11_undo 2 = .ok (.if_icmp .lt 14, 3) := by decide +kernel
theorem dX11_undo_5 : decode cX11_undo 5 = .ok (.iload_n 1, 1) := by decide +kernel
theorem dX11_undo_6 : decode cX11_undo 6 = .ok (.aload_n 0, 1) := by decide +kernel
theorem dX11_undo_7 : decode cX11_undo 7 = .ok (.getfield 33, 3) := by decide +kernel
theorem dX11_undo_10 : decode cX11_undo 10 = .ok (.getfield 272, 3) := by decide +kernel
theorem dX11_undo_13 : decode cX11_undo 13 = .ok (.if_icmp .le 14, 3) := by decide +kernel
theorem dX11_undo_16 : decode cX11_undo 16 = .ok (.new 99, 3) := by decide +kernel
theorem dX11_undo_19 : decode cX11_undo 19 = .ok (.dup, 1) := by decide +kernel
theorem dX11_undo_20 : decode cX11_undo 20 = .ok (.ldc_w 275, 3) := by decide +kernel
theorem dX11_undo_23 : decode cX11_undo 23 = .ok (.invokespecial 103, 3) := by decide +kernel
theorem dX11_undo_26 : decode cX11_undo 26 = .ok (.athrow, 1) := by decide +kernel
theorem dX11_undo_27 : decode cX11_undo 27 = .ok (.aload_n 0, 1) := by decide +kernel
theorem dX11_undo_28 : decode cX11_undo 28 = .ok (.getfield 33, 3) := by decide +kernel
theorem dX11_undo_31 : decode cX11_undo 31 = .ok (.iload_n 1, 1) := by decide +kernel
theorem dX11_undo_32 : decode cX11_undo 32 = .ok (.invokevirtual 277, 3) := by decide +kernel
theorem dX11_undo_35 : decode cX11_undo 35 = .ok (.aload_n 0, 1) := by decide +kernel
theorem dX11_undo_36 : decode cX11_undo 36 = .ok (.getfield 33, 3) := by decide +kernel
theorem dX11_undo_39 : decode cX11_undo 39 = .ok (.getfield 272, 3) := by decide +kernel
theorem dX11_undo_42 : decode cX11_undo 42 = .ok (.ireturn, 1) := by decide +kernel
theorem dX11_judge_0 : decode cX11_judge 0 = .ok (.aload_n 0, 1) := by decide +kernel
theorem dX11_judge_1 : decode cX11_judge 1 = .ok (.iload_n 1, 1) := by decide +kernel
theorem dX11_judge_2 : decode cX11_judge 2 = .ok (.invokevirtual 280, 3) := by decide +kernel
theorem dX11_judge_5 : decode cX11_judge 5 = .ok (.astore_n 3, 1) := by decide +kernel
theorem dX11_judge_6 : decode cX11_judge 6 = .ok (.iload_n 2, 1) := by decide +kernel
theorem dX11_judge_7 : decode cX11_judge 7 = .ok (.ifCond .lt 8, 3) := by decide +kernel
theorem dX11_judge_10 : decode cX11_judge 10 = .ok (.iload_n 2, 1) := by decide +kernel
theorem dX11_judge_11 : decode cX11_judge 11 = .ok (.iconst 3, 1) := by decide +kernel
theorem dX11_judge_12 : decode cX11_judge 12 = .ok (.if_icmp .le 14, 3) := by decide +kernel
theorem dX11_judge_15 : decode cX11_judge 15 = .ok (.new 99, 3) := by decide +kernel
theorem dX11_judge_18 : decode cX11_judge 18 = .ok (.dup, 1) := by decide +kernel
theorem dX11_judge_19 : decode cX11_judge 19 = .ok (.ldc_w 284, 3) := by decide +kernel
theorem dX11_judge_22 : decode cX11_judge 22 = .ok (.invokespecial 103, 3) := by decide +kernel
theorem dX11_judge_25 : decode cX11_judge 25 = .ok (.athrow, 1) := by decide +kernel
theorem dX11_judge_26 : decode cX11_judge 26 = .ok (.aload_n 0, 1) := by decide +kernel
theorem dX11_judge_27 : decode cX11_judge 27 = .ok (.getfield 77, 3) := by decide +kernel
theorem dX11_judge_30 : decode cX11_judge 30 = .ok (.aload_n 0, 1) := by decide +kernel
theorem dX11_judge_31 : decode cX11_judge 31 = .ok (.getfield 33, 3) := by decide +kernel
theorem dX11_judge_34 : decode cX11_judge 34 = .ok (.getfield 138, 3) := by decide +kernel
theorem dX11_judge_37 : decode cX11_judge 37 = .ok (.invokevirtual 286, 3) := by decide +kernel
theorem dX11_judge_40 : decode cX11_judge 40 = .ok (.iconst 0, 1) := by decide +kernel
theorem dX11_judge_41 : decode cX11_judge 41 = .ok (.istore 4, 2) := by decide +kernel
theorem dX11_judge_43 : decode cX11_judge 43 = .ok (.iconst 0, 1) := by decide +kernel
theorem dX11_judge_44 : decode cX11_judge 44 = .ok (.istore 5, 2) := by decide +kernel
theorem dX11_judge_46 : decode cX11_judge 46 = .ok (.iload 5, 2) := by decide +kernel
theorem dX11_judge_48 : decode cX11_judge 48 = .ok (.aload_n 3, 1) := by decide +kernel
theorem dX11_judge_49 : decode cX11_judge 49 = .ok (.getfield 289, 3) := by decide +kernel
theorem dX11_judge_52 : decode cX11_judge 52 = .ok (.if_icmp .ge 26, 3) := by decide +kernel
theorem dX11_judge_55 : decode cX11_judge 55 = .ok (.iload 4, 2) := by decide +kernel
theorem dX11_judge_57 : decode cX11_judge 57 = .ok (.ifCond .ne 21, 3) := by decide +kernel
theorem dX11_judge_60 : decode cX11_judge 60 = .ok (.aload_n 0, 1) := by decide +kernel
theorem dX11_judge_61 : decode cX11_judge 61 = .ok (.aload_n 3, 1) := by decide +kernel
theorem dX11_judge_62 : decode cX11_judge 62 = .ok (.iload 5, 2) := by decide +kernel
theorem dX11_judge_64 : decode cX11_judge 64 = .ok (.invokevirtual 292, 3) := by decide +kernel
theorem dX11_judge_67 : decode cX11_judge 67 = .ok (.invokevirtual 296, 3) := by decide +kernel
theorem dX11_judge_70 : decode cX11_judge 70 = .ok (.istore 4, 2) := by decide +kernel
theorem dX11_judge_72 : decode cX11_judge 72 = .ok (.iinc 5 1, 3) := by decide +kernel
theorem dX11_judge_75 : decode cX11_judge 75 = .ok (.goto (-29), 3) := by decide +kernel
theorem dX11_judge_78 : decode cX11_judge 78 = .ok (.iload_n 2, 1) := by decide +kernel
theorem dX11_judge_79 : decode cX11_judge 79 = .ok (.tableswitch 51 0 2 #[25, 39, 42], 25) := by decide +kernel
theorem dX11_judge_104 : decode cX11_judge 104 = .ok (.iload 4, 2) := by decide +kernel
theorem dX11_judge_106 : decode cX11_judge 106 = .ok (.ifCond .ne 7, 3) := by decide +kernel
theorem dX11_judge_109 : decode cX11_judge 109 = .ok (.iconst (-1), 1) := by decide +kernel
theorem dX11_judge_110 : decode cX11_judge 110 = .ok (.goto 7, 3) := by decide +kernel
theorem dX11_judge_113 : decode cX11_judge 113 = .ok (.iload 5, 2) := by decide +kernel
theorem dX11_judge_115 : decode cX11_judge 115 = .ok (.iconst 1, 1) := by decide +kernel
theorem dX11_judge_116 : decode cX11_judge 116 = .ok (.isub, 1) := by decide +kernel
theorem dX11_judge_117 : decode cX11_judge 117 = .ok (.ireturn, 1) := by decide +kernel
theorem dX11_judge_118 : decode cX11_judge 118 = .ok (.iload 4, 2) := by decide +kernel
theorem dX11_judge_120 : decode cX11_judge 120 = .ok (.ireturn, 1) := by decide +kernel
theorem dX11_judge_121 : decode cX11_judge 121 = .ok (.aload_n 0, 1) := by decide +kernel
theorem dX11_judge_122 : decode cX11_judge 122 = .ok (.aload_n 0, 1) := by decide +kernel
theorem dX11_judge_123 : decode cX11_judge 123 = .ok (.getfield 77, 3) := by decide +kernel
theorem dX11_judge_126 : decode cX11_judge 126 = .ok (.invokevirtual 260, 3) := by decide +kernel
theorem dX11_judge_129 : decode cX11_judge 129 = .ok (.ireturn, 1) := by decide +kernel
theorem dX11_judge_130 : decode cX11_judge 130 = .ok (.aload_n 0, 1) := by decide +kernel
theorem dX11_judge_131 : decode cX11_judge 131 = .ok (.getfield 77, 3) := by decide +kernel
theorem dX11_judge_134 : decode cX11_judge 134 = .ok (.getfield 225, 3) := by decide +kernel
theorem dX11_judge_137 : decode cX11_judge 137 = .ok (.ireturn, 1) := by decide +kernel
theorem dX11_tryDeed_0 : decode cX11_tryDeed 0 = .ok (.aload_n 0, 1) := by decide +kernel
theorem dX11_tryDeed_1 : decode cX11_tryDeed 1 = .ok (.aload_n 0, 1) := by decide +kernel
theorem dX11_tryDeed_2 : decode cX11_tryDeed 2 = .ok (.getfield 77, 3) := by decide +kernel
theorem dX11_tryDeed_5 : decode cX11_tryDeed 5 = .ok (.lload_n 1, 1) := by decide +kernel
theorem dX11_tryDeed_6 : decode cX11_tryDeed 6 = .ok (.invokevirtual 300, 3) := by decide +kernel
theorem dX11_tryDeed_9 : decode cX11_tryDeed 9 = .ok (.istore_n 3, 1) := by decide +kernel
theorem dX11_tryDeed_10 : decode cX11_tryDeed 10 = .ok (.iload_n 3, 1) := by decide +kernel
theorem dX11_tryDeed_11 : decode cX11_tryDeed 11 = .ok (.ifCond .ne 20, 3) := by decide +kernel
theorem dX11_tryDeed_14 : decode cX11_tryDeed 14 = .ok (.lload_n 1, 1) := by decide +kernel
theorem dX11_tryDeed_15 : decode cX11_tryDeed 15 = .ok (.ldc2_w 304, 3) := by decide +kernel
theorem dX11_tryDeed_18 : decode cX11_tryDeed 18 = .ok (.lcmp, 1) := by decide +kernel
theorem dX11_tryDeed_19 : decode cX11_tryDeed 19 = .ok (.ifCond .eq 12, 3) := by decide +kernel
theorem dX11_tryDeed_22 : decode cX11_tryDeed 22 = .ok (.aload_n 0, 1) := by decide +kernel
theorem dX11_tryDeed_23 : decode cX11_tryDeed 23 = .ok (.getfield 77, 3) := by decide +kernel
theorem dX11_tryDeed_26 : decode cX11_tryDeed 26 = .ok (.lload_n 1, 1) := by decide +kernel
theorem dX11_tryDeed_27 : decode cX11_tryDeed 27 = .ok (.l2i, 1) := by decide +kernel
theorem dX11_tryDeed_28 : decode cX11_tryDeed 28 = .ok (.invokevirtual 306, 3) := by decide +kernel
theorem dX11_tryDeed_31 : decode cX11_tryDeed 31 = .ok (.iload_n 3, 1) := by decide +kernel
theorem dX11_tryDeed_32 : decode cX11_tryDeed 32 = .ok (.ireturn, 1) := by decide +kernel
theorem dX11_perform_0 : decode cX11_perform 0 = .ok (.aload_n 0, 1) := by decide +kernel
theorem dX11_perform_1 : decode cX11_perform 1 = .ok (.iload_n 1, 1) := by decide +kernel
theorem dX11_perform_2 : decode cX11_perform 2 = .ok (.invokevirtual 280, 3) := by decide +kernel
theorem dX11_perform_5 : decode cX11_perform 5 = .ok (.astore_n 2, 1) := by decide +kernel
theorem dX11_perform_6 : decode cX11_perform 6 = .ok (.iconst 0, 1) := by decide +kernel
theorem dX11_perform_7 : decode cX11_perform 7 = .ok (.istore_n 3, 1) := by decide +kernel
theorem dX11_perform_8 : decode cX11_perform 8 = .ok (.iload_n 3, 1) := by decide +kernel
theorem dX11_perform_9 : decode cX11_perform 9 = .ok (.aload_n 2, 1) := by decide +kernel
theorem dX11_perform_10 : decode cX11_perform 10 = .ok (.getfield 289, 3) := by decide +kernel
theorem dX11_perform_13 : decode cX11_perform 13 = .ok (.if_icmp .ge 50, 3) := by decide +kernel
theorem dX11_perform_16 : decode cX11_perform 16 = .ok (.aload_n 2, 1) := by decide +kernel
theorem dX11_perform_17 : decode cX11_perform 17 = .ok (.iload_n 3, 1) := by decide +kernel
theorem dX11_perform_18 : decode cX11_perform 18 = .ok (.invokevirtual 292, 3) := by decide +kernel
theorem dX11_perform_21 : decode cX11_perform 21 = .ok (.lstore 4, 2) := by decide +kernel
theorem dX11_perform_23 : decode cX11_perform 23 = .ok (.aload_n 0, 1) := by decide +kernel
theorem dX11_perform_24 : decode cX11_perform 24 = .ok (.aload_n 0, 1) := by decide +kernel
theorem dX11_perform_25 : decode cX11_perform 25 = .ok (.getfield 33, 3) := by decide +kernel
theorem dX11_perform_28 : decode cX11_perform 28 = .ok (.getfield 138, 3) := by decide +kernel
theorem dX11_perform_31 : decode cX11_perform 31 = .ok (.lload 4, 2) := by decide +kernel
theorem dX11_perform_33 : decode cX11_perform 33 = .ok (.invokevirtual 300, 3) := by decide +kernel
theorem dX11_perform_36 : decode cX11_perform 36 = .ok (.ifCond .eq 5, 3) := by decide +kernel
theorem dX11_perform_39 : decode cX11_perform 39 = .ok (.iload_n 3, 1) := by decide +kernel
theorem dX11_perform_40 : decode cX11_perform 40 = .ok (.ireturn, 1) := by decide +kernel
theorem dX11_perform_41 : decode cX11_perform 41 = .ok (.lload 4, 2) := by decide +kernel
theorem dX11_perform_43 : decode cX11_perform 43 = .ok (.ldc2_w 304, 3) := by decide +kernel
theorem dX11_perform_46 : decode cX11_perform 46 = .ok (.lcmp, 1) := by decide +kernel
theorem dX11_perform_47 : decode cX11_perform 47 = .ok (.ifCond .eq 10, 3) := by decide +kernel
theorem dX11_perform_50 : decode cX11_perform 50 = .ok (.aload_n 0, 1) := by decide +kernel
theorem dX11_perform_51 : decode cX11_perform 51 = .ok (.lload 4, 2) := by decide +kernel
theorem dX11_perform_53 : decode cX11_perform 53 = .ok (.l2i, 1) := by decide +kernel
theorem dX11_perform_54 : decode cX11_perform 54 = .ok (.invokevirtual 264, 3) := by decide +kernel
theorem dX11_perform_57 : decode cX11_perform 57 = .ok (.iinc 3 1, 3) := by decide +kernel
theorem dX11_perform_60 : decode cX11_perform 60 = .ok (.goto (-52), 3) := by decide +kernel
theorem dX11_perform_63 : decode cX11_perform 63 = .ok (.aload_n 2, 1) := by decide +kernel
theorem dX11_perform_64 : decode cX11_perform 64 = .ok (.getfield 289, 3) := by decide +kernel
theorem dX11_perform_67 : decode cX11_perform 67 = .ok (.ireturn, 1) := by decide +kernel
theorem dX11_evening_0 : decode cX11_evening 0 = .ok (.iload_n 2, 1) := by decide +kernel
theorem dX11_evening_1 : decode cX11_evening 1 = .ok (.iconst 1, 1) := by decide +kernel
theorem dX11_evening_2 : decode cX11_evening 2 = .ok (.if_icmp .lt 9, 3) := by decide +kernel
theorem dX11_evening_5 : decode cX11_evening 5 = .ok (.iload_n 2, 1) := by decide +kernel
theorem dX11_evening_6 : decode cX11_evening 6 = .ok (.bipush 30, 2) := by decide +kernel
theorem dX11_evening_8 : decode cX11_evening 8 = .ok (.if_icmp .le 14, 3) := by decide +kernel
theorem dX11_evening_11 : decode cX11_evening 11 = .ok (.new 99, 3) := by decide +kernel
theorem dX11_evening_14 : decode cX11_evening 14 = .ok (.dup, 1) := by decide +kernel
theorem dX11_evening_15 : decode cX11_evening 15 = .ok (.ldc_w 309, 3) := by decide +kernel
theorem dX11_evening_18 : decode cX11_evening 18 = .ok (.invokespecial 103, 3) := by decide +kernel
theorem dX11_evening_21 : decode cX11_evening 21 = .ok (.athrow, 1) := by decide +kernel
theorem dX11_evening_22 : decode cX11_evening 22 = .ok (.new 311, 3) := by decide +kernel
theorem dX11_evening_25 : decode cX11_evening 25 = .ok (.dup, 1) := by decide +kernel
theorem dX11_evening_26 : decode cX11_evening 26 = .ok (.iload_n 1, 1) := by decide +kernel
theorem dX11_evening_27 : decode cX11_evening 27 = .ok (.invokespecial 313, 3) := by decide +kernel
theorem dX11_evening_30 : decode cX11_evening 30 = .ok (.astore_n 3, 1) := by decide +kernel
theorem dX11_evening_31 : decode cX11_evening 31 = .ok (.iconst 0, 1) := by decide +kernel
theorem dX11_evening_32 : decode cX11_evening 32 = .ok (.istore 4, 2) := by decide +kernel
theorem dX11_evening_34 : decode cX11_evening 34 = .ok (.iconst 0, 1) := by decide +kernel
theorem dX11_evening_35 : decode cX11_evening 35 = .ok (.istore 5, 2) := by decide +kernel
theorem dX11_evening_37 : decode cX11_evening 37 = .ok (.iload 5, 2) := by decide +kernel
theorem dX11_evening_39 : decode cX11_evening 39 = .ok (.iload_n 2, 1) := by decide +kernel
theorem dX11_evening_40 : decode cX11_evening 40 = .ok (.if_icmp .ge 41, 3) := by decide +kernel
theorem dX11_evening_43 : decode cX11_evening 43 = .ok (.aload_n 3, 1) := by decide +kernel
theorem dX11_evening_44 : decode cX11_evening 44 = .ok (.invokestatic 315, 3) := by decide +kernel
theorem dX11_evening_47 : decode cX11_evening 47 = .ok (.istore 6, 2) := by decide +kernel
theorem dX11_evening_49 : decode cX11_evening 49 = .ok (.aload_n 0, 1) := by decide +kernel
theorem dX11_evening_50 : decode cX11_evening 50 = .ok (.aload_n 0, 1) := by decide +kernel
theorem dX11_evening_51 : decode cX11_evening 51 = .ok (.getfield 33, 3) := by decide +kernel
theorem dX11_evening_54 : decode cX11_evening 54 = .ok (.getfield 138, 3) := by decide +kernel
theorem dX11_evening_57 : decode cX11_evening 57 = .ok (.iload 6, 2) := by decide +kernel
theorem dX11_evening_59 : decode cX11_evening 59 = .ok (.i2l, 1) := by decide +kernel
theorem dX11_evening_60 : decode cX11_evening 60 = .ok (.invokevirtual 300, 3) := by decide +kernel
theorem dX11_evening_63 : decode cX11_evening 63 = .ok (.ifCond .ne 12, 3) := by decide +kernel
theorem dX11_evening_66 : decode cX11_evening 66 = .ok (.aload_n 0, 1) := by decide +kernel
theorem dX11_evening_67 : decode cX11_evening 67 = .ok (.iload 6, 2) := by decide +kernel
theorem dX11_evening_69 : decode cX11_evening 69 = .ok (.invokevirtual 264, 3) := by decide +kernel
theorem dX11_evening_72 : decode cX11_evening 72 = .ok (.iinc 4 1, 3) := by decide +kernel
theorem dX11_evening_75 : decode cX11_evening 75 = .ok (.iinc 5 1, 3) := by decide +kernel
theorem dX11_evening_78 : decode cX11_evening 78 = .ok (.goto (-41), 3) := by decide +kernel
theorem dX11_evening_81 : decode cX11_evening 81 = .ok (.iload 4, 2) := by decide +kernel
theorem dX11_evening_83 : decode cX11_evening 83 = .ok (.ireturn, 1) := by decide +kernel
theorem dX11_drawDeed_0 : decode cX11_drawDeed 0 = .ok (.aload_n 0, 1) := by decide +kernel
theorem dX11_drawDeed_1 : decode cX11_drawDeed 1 = .ok (.invokevirtual 319, 3) := by decide +kernel
theorem dX11_drawDeed_4 : decode cX11_drawDeed 4 = .ok (.iconst 4, 1) := by decide +kernel
theorem dX11_drawDeed_5 : decode cX11_drawDeed 5 = .ok (.irem, 1) := by decide +kernel
theorem dX11_drawDeed_6 : decode cX11_drawDeed 6 = .ok (.istore_n 1, 1) := by decide +kernel
theorem dX11_drawDeed_7 : decode cX11_drawDeed 7 = .ok (.iload_n 1, 1) := by decide +kernel
theorem dX11_drawDeed_8 : decode cX11_drawDeed 8 = .ok (.iconst 2, 1) := by decide +kernel
theorem dX11_drawDeed_9 : decode cX11_drawDeed 9 = .ok (.if_icmp .ne 6, 3) := by decide +kernel
theorem dX11_drawDeed_12 : decode cX11_drawDeed 12 = .ok (.bipush 100, 2) := by decide +kernel
theorem dX11_drawDeed_14 : decode cX11_drawDeed 14 = .ok (.ireturn, 1) := by decide +kernel
theorem dX11_drawDeed_15 : decode cX11_drawDeed 15 = .ok (.iload_n 1, 1) := by decide +kernel
theorem dX11_drawDeed_16 : decode cX11_drawDeed 16 = .ok (.iconst 3, 1) := by decide +kernel
theorem dX11_drawDeed_17 : decode cX11_drawDeed 17 = .ok (.if_icmp .ne 28, 3) := by decide +kernel
theorem dX11_drawDeed_20 : decode cX11_drawDeed 20 = .ok (.aload_n 0, 1) := by decide +kernel
theorem dX11_drawDeed_21 : decode cX11_drawDeed 21 = .ok (.invokevirtual 319, 3) := by decide +kernel
theorem dX11_drawDeed_24 : decode cX11_drawDeed 24 = .ok (.bipush 6, 2) := by decide +kernel
theorem dX11_drawDeed_26 : decode cX11_drawDeed 26 = .ok (.irem, 1) := by decide +kernel
theorem dX11_drawDeed_27 : decode cX11_drawDeed 27 = .ok (.istore_n 2, 1) := by decide +kernel
theorem dX11_drawDeed_28 : decode cX11_drawDeed 28 = .ok (.sipush 1000, 3) := by decide +kernel
theorem dX11_drawDeed_31 : decode cX11_drawDeed 31 = .ok (.bipush 100, 2) := by decide +kernel
theorem dX11_drawDeed_33 : decode cX11_drawDeed 33 = .ok (.iload_n 2, 1) := by decide +kernel
theorem dX11_drawDeed_34 : decode cX11_drawDeed 34 = .ok (.imul, 1) := by decide +kernel
theorem dX11_drawDeed_35 : decode cX11_drawDeed 35 = .ok (.iadd, 1) := by decide +kernel
theorem dX11_drawDeed_36 : decode cX11_drawDeed 36 = .ok (.aload_n 0, 1) := by decide +kernel
theorem dX11_drawDeed_37 : decode cX11_drawDeed 37 = .ok (.invokevirtual 319, 3) := by decide +kernel
theorem dX11_drawDeed_40 : decode cX11_drawDeed 40 = .ok (.bipush 100, 2) := by decide +kernel
theorem dX11_drawDeed_42 : decode cX11_drawDeed 42 = .ok (.irem, 1) := by decide +kernel
theorem dX11_drawDeed_43 : decode cX11_drawDeed 43 = .ok (.iadd, 1) := by decide +kernel
theorem dX11_drawDeed_44 : decode cX11_drawDeed 44 = .ok (.ireturn, 1) := by decide +kernel
theorem dX11_drawDeed_45 : decode cX11_drawDeed 45 = .ok (.iconst 1, 1) := by decide +kernel
theorem dX11_drawDeed_46 : decode cX11_drawDeed 46 = .ok (.aload_n 0, 1) := by decide +kernel
theorem dX11_drawDeed_47 : decode cX11_drawDeed 47 = .ok (.invokevirtual 319, 3) := by decide +kernel
theorem dX11_drawDeed_50 : decode cX11_drawDeed 50 = .ok (.iconst 5, 1) := by decide +kernel
theorem dX11_drawDeed_51 : decode cX11_drawDeed 51 = .ok (.irem, 1) := by decide +kernel
theorem dX11_drawDeed_52 : decode cX11_drawDeed 52 = .ok (.iadd, 1) := by decide +kernel
theorem dX11_drawDeed_53 : decode cX11_drawDeed 53 = .ok (.istore_n 2, 1) := by decide +kernel
theorem dX11_drawDeed_54 : decode cX11_drawDeed 54 = .ok (.bipush 10, 2) := by decide +kernel
theorem dX11_drawDeed_56 : decode cX11_drawDeed 56 = .ok (.iload_n 2, 1) := by decide +kernel
theorem dX11_drawDeed_57 : decode cX11_drawDeed 57 = .ok (.imul, 1) := by decide +kernel
theorem dX11_drawDeed_58 : decode cX11_drawDeed 58 = .ok (.aload_n 0, 1) := by decide +kernel
theorem dX11_drawDeed_59 : decode cX11_drawDeed 59 = .ok (.invokevirtual 319, 3) := by decide +kernel
theorem dX11_drawDeed_62 : decode cX11_drawDeed 62 = .ok (.iconst 4, 1) := by decide +kernel
theorem dX11_drawDeed_63 : decode cX11_drawDeed 63 = .ok (.irem, 1) := by decide +kernel
theorem dX11_drawDeed_64 : decode cX11_drawDeed 64 = .ok (.iadd, 1) := by decide +kernel
theorem dX11_drawDeed_65 : decode cX11_drawDeed 65 = .ok (.ireturn, 1) := by decide +kernel
theorem dX11_needFold_0 : decode cX11_needFold 0 = .ok (.aload_n 0, 1) := by decide +kernel
theorem dX11_needFold_1 : decode cX11_needFold 1 = .ok (.getfield 33, 3) := by decide +kernel
theorem dX11_needFold_4 : decode cX11_needFold 4 = .ok (.getfield 138, 3) := by decide +kernel
theorem dX11_needFold_7 : decode cX11_needFold 7 = .ok (.getfield 225, 3) := by decide +kernel
theorem dX11_needFold_10 : decode cX11_needFold 10 = .ok (.ifCond .ne 14, 3) := by decide +kernel
theorem dX11_needFold_13 : decode cX11_needFold 13 = .ok (.new 322, 3) := by decide +kernel
theorem dX11_needFold_16 : decode cX11_needFold 16 = .ok (.dup, 1) := by decide +kernel
theorem dX11_needFold_17 : decode cX11_needFold 17 = .ok (.ldc_w 324, 3) := by decide +kernel
theorem dX11_needFold_20 : decode cX11_needFold 20 = .ok (.invokespecial 326, 3) := by decide +kernel
theorem dX11_needFold_23 : decode cX11_needFold 23 = .ok (.athrow, 1) := by decide +kernel
theorem dX11_needFold_24 : decode cX11_needFold 24 = .ok (.return_, 1) := by decide +kernel
theorem dX11_doDeed_0 : decode cX11_doDeed 0 = .ok (.aload_n 0, 1) := by decide +kernel
theorem dX11_doDeed_1 : decode cX11_doDeed 1 = .ok (.getfield 33, 3) := by decide +kernel
theorem dX11_doDeed_4 : decode cX11_doDeed 4 = .ok (.invokevirtual 327, 3) := by decide +kernel
theorem dX11_doDeed_7 : decode cX11_doDeed 7 = .ok (.aload_n 0, 1) := by decide +kernel
theorem dX11_doDeed_8 : decode cX11_doDeed 8 = .ok (.getfield 33, 3) := by decide +kernel
theorem dX11_doDeed_11 : decode cX11_doDeed 11 = .ok (.getfield 138, 3) := by decide +kernel
theorem dX11_doDeed_14 : decode cX11_doDeed 14 = .ok (.iload_n 1, 1) := by decide +kernel
theorem dX11_doDeed_15 : decode cX11_doDeed 15 = .ok (.invokevirtual 306, 3) := by decide +kernel
theorem dX11_doDeed_18 : decode cX11_doDeed 18 = .ok (.return_, 1) := by decide +kernel
theorem dX11_hindrance_0 : decode cX11_hindrance 0 = .ok (.lload_n 2, 1) := by decide +kernel
theorem dX11_hindrance_1 : decode cX11_hindrance 1 = .ok (.ldc2_w 304, 3) := by decide +kernel
theorem dX11_hindrance_4 : decode cX11_hindrance 4 = .ok (.lcmp, 1) := by decide +kernel
theorem dX11_hindrance_5 : decode cX11_hindrance 5 = .ok (.ifCond .ne 5, 3) := by decide +kernel
theorem dX11_hindrance_8 : decode cX11_hindrance 8 = .ok (.iconst 0, 1) := by decide +kernel
theorem dX11_hindrance_9 : decode cX11_hindrance 9 = .ok (.ireturn, 1) := by decide +kernel
theorem dX11_hindrance_10 : decode cX11_hindrance 10 = .ok (.lload_n 2, 1) := by decide +kernel
theorem dX11_hindrance_11 : decode cX11_hindrance 11 = .ok (.ldc2_w 330, 3) := by decide +kernel
theorem dX11_hindrance_14 : decode cX11_hindrance 14 = .ok (.lcmp, 1) := by decide +kernel
theorem dX11_hindrance_15 : decode cX11_hindrance 15 = .ok (.ifCond .eq 11, 3) := by decide +kernel
theorem dX11_hindrance_18 : decode cX11_hindrance 18 = .ok (.lload_n 2, 1) := by decide +kernel
theorem dX11_hindrance_19 : decode cX11_hindrance 19 = .ok (.ldc2_w 332, 3) := by decide +kernel
theorem dX11_hindrance_22 : decode cX11_hindrance 22 = .ok (.lcmp, 1) := by decide +kernel
theorem dX11_hindrance_23 : decode cX11_hindrance 23 = .ok (.ifCond .ne 16, 3) := by decide +kernel
theorem dX11_hindrance_26 : decode cX11_hindrance 26 = .ok (.aload_n 1, 1) := by decide +kernel
theorem dX11_hindrance_27 : decode cX11_hindrance 27 = .ok (.getfield 225, 3) := by decide +kernel
theorem dX11_hindrance_30 : decode cX11_hindrance 30 = .ok (.ifCond .le 7, 3) := by decide +kernel
theorem dX11_hindrance_33 : decode cX11_hindrance 33 = .ok (.iconst 0, 1) := by decide +kernel
theorem dX11_hindrance_34 : decode cX11_hindrance 34 = .ok (.goto 4, 3) := by decide +kernel
theorem dX11_hindrance_37 : decode cX11_hindrance 37 = .ok (.iconst 2, 1) := by decide +kernel
theorem dX11_hindrance_38 : decode cX11_hindrance 38 = .ok (.ireturn, 1) := by decide +kernel
theorem dX11_hindrance_39 : decode cX11_hindrance 39 = .ok (.lload_n 2, 1) := by decide +kernel
theorem dX11_hindrance_40 : decode cX11_hindrance 40 = .ok (.lconst 0, 1) := by decide +kernel
theorem dX11_hindrance_41 : decode cX11_hindrance 41 = .ok (.lcmp, 1) := by decide +kernel
theorem dX11_hindrance_42 : decode cX11_hindrance 42 = .ok (.ifCond .lt 67, 3) := by decide +kernel
theorem dX11_hindrance_45 : decode cX11_hindrance 45 = .ok (.lload_n 2, 1) := by decide +kernel
theorem dX11_hindrance_46 : decode cX11_hindrance 46 = .ok (.ldc2_w 330, 3) := by decide +kernel
theorem dX11_hindrance_49 : decode cX11_hindrance 49 = .ok (.lcmp, 1) := by decide +kernel
theorem dX11_hindrance_50 : decode cX11_hindrance 50 = .ok (.ifCond .ge 59, 3) := by decide +kernel
theorem dX11_hindrance_53 : decode cX11_hindrance 53 = .ok (.lload_n 2, 1) := by decide +kernel
theorem dX11_hindrance_54 : decode cX11_hindrance 54 = .ok (.ldc2_w 334, 3) := by decide +kernel
theorem dX11_hindrance_57 : decode cX11_hindrance 57 = .ok (.ldiv, 1) := by decide +kernel
theorem dX11_hindrance_58 : decode cX11_hindrance 58 = .ok (.lstore 4, 2) := by decide +kernel
theorem dX11_hindrance_60 : decode cX11_hindrance 60 = .ok (.lload 4, 2) := by decide +kernel
theorem dX11_hindrance_62 : decode cX11_hindrance 62 = .ok (.lconst 1, 1) := by decide +kernel
theorem dX11_hindrance_63 : decode cX11_hindrance 63 = .ok (.lcmp, 1) := by decide +kernel
theorem dX11_hindrance_64 : decode cX11_hindrance 64 = .ok (.ifCond .lt 31, 3) := by decide +kernel
theorem dX11_hindrance_67 : decode cX11_hindrance 67 = .ok (.lload 4, 2) := by decide +kernel
theorem dX11_hindrance_69 : decode cX11_hindrance 69 = .ok (.aload_n 0, 1) := by decide +kernel
theorem dX11_hindrance_70 : decode cX11_hindrance 70 = .ok (.aload_n 1, 1) := by decide +kernel
theorem dX11_hindrance_71 : decode cX11_hindrance 71 = .ok (.invokevirtual 260, 3) := by decide +kernel
theorem dX11_hindrance_74 : decode cX11_hindrance 74 = .ok (.i2l, 1) := by decide +kernel
theorem dX11_hindrance_75 : decode cX11_hindrance 75 = .ok (.lcmp, 1) := by decide +kernel
theorem dX11_hindrance_76 : decode cX11_hindrance 76 = .ok (.ifCond .ge 19, 3) := by decide +kernel
theorem dX11_hindrance_79 : decode cX11_hindrance 79 = .ok (.lload_n 2, 1) := by decide +kernel
theorem dX11_hindrance_80 : decode cX11_hindrance 80 = .ok (.ldc2_w 334, 3) := by decide +kernel
theorem dX11_hindrance_83 : decode cX11_hindrance 83 = .ok (.lrem, 1) := by decide +kernel
theorem dX11_hindrance_84 : decode cX11_hindrance 84 = .ok (.ldc2_w 336, 3) := by decide +kernel
theorem dX11_hindrance_87 : decode cX11_hindrance 87 = .ok (.lcmp, 1) := by decide +kernel
theorem dX11_hindrance_88 : decode cX11_hindrance 88 = .ok (.ifCond .ge 7, 3) := by decide +kernel
theorem dX11_hindrance_91 : decode cX11_hindrance 91 = .ok (.iconst 1, 1) := by decide +kernel
theorem dX11_hindrance_92 : decode cX11_hindrance 92 = .ok (.goto 4, 3) := by decide +kernel
theorem dX11_hindrance_95 : decode cX11_hindrance 95 = .ok (.iconst 0, 1) := by decide +kernel
theorem dX11_hindrance_96 : decode cX11_hindrance 96 = .ok (.istore 6, 2) := by decide +kernel
theorem dX11_hindrance_98 : decode cX11_hindrance 98 = .ok (.iload 6, 2) := by decide +kernel
theorem dX11_hindrance_100 : decode cX11_hindrance 100 = .ok (.ifCond .eq 7, 3) := by decide +kernel
theorem dX11_hindrance_103 : decode cX11_hindrance 103 = .ok (.iconst 0, 1) := by decide +kernel
theorem dX11_hindrance_104 : decode cX11_hindrance 104 = .ok (.goto 4, 3) := by decide +kernel
theorem dX11_hindrance_107 : decode cX11_hindrance 107 = .ok (.iconst 1, 1) := by decide +kernel
theorem dX11_hindrance_108 : decode cX11_hindrance 108 = .ok (.ireturn, 1) := by decide +kernel
theorem dX11_hindrance_109 : decode cX11_hindrance 109 = .ok (.lload_n 2, 1) := by decide +kernel
theorem dX11_hindrance_110 : decode cX11_hindrance 110 = .ok (.ldc2_w 338, 3) := by decide +kernel
theorem dX11_hindrance_113 : decode cX11_hindrance 113 = .ok (.lcmp, 1) := by decide +kernel
theorem dX11_hindrance_114 : decode cX11_hindrance 114 = .ok (.ifCond .lt 33, 3) := by decide +kernel
theorem dX11_hindrance_117 : decode cX11_hindrance 117 = .ok (.lload_n 2, 1) := by decide +kernel
theorem dX11_hindrance_118 : decode cX11_hindrance 118 = .ok (.ldc2_w 340, 3) := by decide +kernel
theorem dX11_hindrance_121 : decode cX11_hindrance 121 = .ok (.lcmp, 1) := by decide +kernel
theorem dX11_hindrance_122 : decode cX11_hindrance 122 = .ok (.ifCond .ge 25, 3) := by decide +kernel
theorem dX11_hindrance_125 : decode cX11_hindrance 125 = .ok (.aload_n 0, 1) := by decide +kernel
theorem dX11_hindrance_126 : decode cX11_hindrance 126 = .ok (.lload_n 2, 1) := by decide +kernel
theorem dX11_hindrance_127 : decode cX11_hindrance 127 = .ok (.ldc2_w 338, 3) := by decide +kernel
theorem dX11_hindrance_130 : decode cX11_hindrance 130 = .ok (.lsub, 1) := by decide +kernel
theorem dX11_hindrance_131 : decode cX11_hindrance 131 = .ok (.ldc2_w 330, 3) := by decide +kernel
theorem dX11_hindrance_134 : decode cX11_hindrance 134 = .ok (.ldiv, 1) := by decide +kernel
theorem dX11_hindrance_135 : decode cX11_hindrance 135 = .ok (.invokevirtual 123, 3) := by decide +kernel
theorem dX11_hindrance_138 : decode cX11_hindrance 138 = .ok (.ifCond .eq 7, 3) := by decide +kernel
theorem dX11_hindrance_141 : decode cX11_hindrance 141 = .ok (.iconst 0, 1) := by decide +kernel
theorem dX11_hindrance_142 : decode cX11_hindrance 142 = .ok (.goto 4, 3) := by decide +kernel
theorem dX11_hindrance_145 : decode cX11_hindrance 145 = .ok (.iconst 1, 1) := by decide +kernel
theorem dX11_hindrance_146 : decode cX11_hindrance 146 = .ok (.ireturn, 1) := by decide +kernel
theorem dX11_hindrance_147 : decode cX11_hindrance 147 = .ok (.lload_n 2, 1) := by decide +kernel
theorem dX11_hindrance_148 : decode cX11_hindrance 148 = .ok (.ldc2_w 342, 3) := by decide +kernel
theorem dX11_hindrance_151 : decode cX11_hindrance 151 = .ok (.lcmp, 1) := by decide +kernel
theorem dX11_hindrance_152 : decode cX11_hindrance 152 = .ok (.ifCond .lt 33, 3) := by decide +kernel
theorem dX11_hindrance_155 : decode cX11_hindrance 155 = .ok (.lload_n 2, 1) := by decide +kernel
theorem dX11_hindrance_156 : decode cX11_hindrance 156 = .ok (.ldc2_w 344, 3) := by decide +kernel
theorem dX11_hindrance_159 : decode cX11_hindrance 159 = .ok (.lcmp, 1) := by decide +kernel
theorem dX11_hindrance_160 : decode cX11_hindrance 160 = .ok (.ifCond .ge 25, 3) := by decide +kernel
theorem dX11_hindrance_163 : decode cX11_hindrance 163 = .ok (.aload_n 0, 1) := by decide +kernel
theorem dX11_hindrance_164 : decode cX11_hindrance 164 = .ok (.lload_n 2, 1) := by decide +kernel
theorem dX11_hindrance_165 : decode cX11_hindrance 165 = .ok (.ldc2_w 342, 3) := by decide +kernel
theorem dX11_hindrance_168 : decode cX11_hindrance 168 = .ok (.lsub, 1) := by decide +kernel
theorem dX11_hindrance_169 : decode cX11_hindrance 169 = .ok (.ldc2_w 330, 3) := by decide +kernel
theorem dX11_hindrance_172 : decode cX11_hindrance 172 = .ok (.ldiv, 1) := by decide +kernel
theorem dX11_hindrance_173 : decode cX11_hindrance 173 = .ok (.invokevirtual 123, 3) := by decide +kernel
theorem dX11_hindrance_176 : decode cX11_hindrance 176 = .ok (.ifCond .eq 7, 3) := by decide +kernel
theorem dX11_hindrance_179 : decode cX11_hindrance 179 = .ok (.iconst 0, 1) := by decide +kernel
theorem dX11_hindrance_180 : decode cX11_hindrance 180 = .ok (.goto 4, 3) := by decide +kernel
theorem dX11_hindrance_183 : decode cX11_hindrance 183 = .ok (.iconst 1, 1) := by decide +kernel
theorem dX11_hindrance_184 : decode cX11_hindrance 184 = .ok (.ireturn, 1) := by decide +kernel
theorem dX11_hindrance_185 : decode cX11_hindrance 185 = .ok (.iconst 1, 1) := by decide +kernel
theorem dX11_hindrance_186 : decode cX11_hindrance 186 = .ok (.ireturn, 1) := by decide +kernel
theorem dX11_columnsOf_0 : decode cX11_columnsOf 0 = .ok (.aload_n 0, 1) := by decide +kernel
theorem dX11_columnsOf_1 : decode cX11_columnsOf 1 = .ok (.getfield 33, 3) := by decide +kernel
theorem dX11_columnsOf_4 : decode cX11_columnsOf 4 = .ok (.getfield 181, 3) := by decide +kernel
theorem dX11_columnsOf_7 : decode cX11_columnsOf 7 = .ok (.getfield 185, 3) := by decide +kernel
theorem dX11_columnsOf_10 : decode cX11_columnsOf 10 = .ok (.istore_n 2, 1) := by decide +kernel
theorem dX11_columnsOf_11 : decode cX11_columnsOf 11 = .ok (.iconst 0, 1) := by decide +kernel
theorem dX11_columnsOf_12 : decode cX11_columnsOf 12 = .ok (.istore_n 3, 1) := by decide +kernel
theorem dX11_columnsOf_13 : decode cX11_columnsOf 13 = .ok (.iload_n 3, 1) := by decide +kernel
theorem dX11_columnsOf_14 : decode cX11_columnsOf 14 = .ok (.aload_n 1, 1) := by decide +kernel
theorem dX11_columnsOf_15 : decode cX11_columnsOf 15 = .ok (.getfield 225, 3) := by decide +kernel
theorem dX11_columnsOf_18 : decode cX11_columnsOf 18 = .ok (.if_icmp .ge 29, 3) := by decide +kernel
theorem dX11_columnsOf_21 : decode cX11_columnsOf 21 = .ok (.aload_n 1, 1) := by decide +kernel
theorem dX11_columnsOf_22 : decode cX11_columnsOf 22 = .ok (.iload_n 3, 1) := by decide +kernel
theorem dX11_columnsOf_23 : decode cX11_columnsOf 23 = .ok (.invokevirtual 195, 3) := by decide +kernel
theorem dX11_columnsOf_26 : decode cX11_columnsOf 26 = .ok (.bipush 10, 2) := by decide +kernel
theorem dX11_columnsOf_28 : decode cX11_columnsOf 28 = .ok (.idiv, 1) := by decide +kernel
theorem dX11_columnsOf_29 : decode cX11_columnsOf 29 = .ok (.istore 4, 2) := by decide +kernel
theorem dX11_columnsOf_31 : decode cX11_columnsOf 31 = .ok (.iload 4, 2) := by decide +kernel
theorem dX11_columnsOf_33 : decode cX11_columnsOf 33 = .ok (.iload_n 2, 1) := by decide +kernel
theorem dX11_columnsOf_34 : decode cX11_columnsOf 34 = .ok (.iload 4, 2) := by decide +kernel
theorem dX11_columnsOf_36 : decode cX11_columnsOf 36 = .ok (.isub, 1) := by decide +kernel
theorem dX11_columnsOf_37 : decode cX11_columnsOf 37 = .ok (.invokestatic 346, 3) := by decide +kernel
theorem dX11_columnsOf_40 : decode cX11_columnsOf 40 = .ok (.istore_n 2, 1) := by decide +kernel
theorem dX11_columnsOf_41 : decode cX11_columnsOf 41 = .ok (.iinc 3 1, 3) := by decide +kernel
theorem dX11_columnsOf_44 : decode cX11_columnsOf 44 = .ok (.goto (-31), 3) := by decide +kernel
theorem dX11_columnsOf_47 : decode cX11_columnsOf 47 = .ok (.iload_n 2, 1) := by decide +kernel
theorem dX11_columnsOf_48 : decode cX11_columnsOf 48 = .ok (.ireturn, 1) := by decide +kernel
theorem dX11_rows_0 : decode cX11_rows 0 = .ok (.iload_n 1, 1) := by decide +kernel
theorem dX11_rows_1 : decode cX11_rows 1 = .ok (.invokestatic 351, 3) := by decide +kernel
theorem dX11_rows_4 : decode cX11_rows 4 = .ok (.aload_n 0, 1) := by decide +kernel
theorem dX11_rows_5 : decode cX11_rows 5 = .ok (.invokevirtual 354, 3) := by decide +kernel
theorem dX11_rows_8 : decode cX11_rows 8 = .ok (.astore_n 2, 1) := by decide +kernel
theorem dX11_rows_9 : decode cX11_rows 9 = .ok (.iconst 0, 1) := by decide +kernel
theorem dX11_rows_10 : decode cX11_rows 10 = .ok (.istore_n 3, 1) := by decide +kernel
theorem dX11_rows_11 : decode cX11_rows 11 = .ok (.iconst 0, 1) := by decide +kernel
theorem dX11_rows_12 : decode cX11_rows 12 = .ok (.istore 4, 2) := by decide +kernel
theorem dX11_rows_14 : decode cX11_rows 14 = .ok (.iload 4, 2) := by decide +kernel
theorem dX11_rows_16 : decode cX11_rows 16 = .ok (.aload_n 2, 1) := by decide +kernel
theorem dX11_rows_17 : decode cX11_rows 17 = .ok (.getfield 358, 3) := by decide +kernel
theorem dX11_rows_20 : decode cX11_rows 20 = .ok (.if_icmp .ge 38, 3) := by decide +kernel
theorem dX11_rows_23 : decode cX11_rows 23 = .ok (.aload_n 2, 1) := by decide +kernel
theorem dX11_rows_24 : decode cX11_rows 24 = .ok (.iload 4, 2) := by decide +kernel
theorem dX11_rows_26 : decode cX11_rows 26 = .ok (.invokevirtual 361, 3) := by decide +kernel
theorem dX11_rows_29 : decode cX11_rows 29 = .ok (.iload_n 1, 1) := by decide +kernel
theorem dX11_rows_30 : decode cX11_rows 30 = .ok (.if_icmp .gt 28, 3) := by decide +kernel
theorem dX11_rows_33 : decode cX11_rows 33 = .ok (.aload_n 2, 1) := by decide +kernel
theorem dX11_rows_34 : decode cX11_rows 34 = .ok (.iload 4, 2) := by decide +kernel
theorem dX11_rows_36 : decode cX11_rows 36 = .ok (.invokevirtual 361, 3) := by decide +kernel
theorem dX11_rows_39 : decode cX11_rows 39 = .ok (.iload_n 1, 1) := by decide +kernel
theorem dX11_rows_40 : decode cX11_rows 40 = .ok (.if_icmp .ne 12, 3) := by decide +kernel
theorem dX11_rows_43 : decode cX11_rows 43 = .ok (.iload_n 3, 1) := by decide +kernel
theorem dX11_rows_44 : decode cX11_rows 44 = .ok (.aload_n 2, 1) := by decide +kernel
theorem dX11_rows_45 : decode cX11_rows 45 = .ok (.iload 4, 2) := by decide +kernel
theorem dX11_rows_47 : decode cX11_rows 47 = .ok (.invokevirtual 364, 3) := by decide +kernel
theorem dX11_rows_50 : decode cX11_rows 50 = .ok (.iadd, 1) := by decide +kernel
theorem dX11_rows_51 : decode cX11_rows 51 = .ok (.istore_n 3, 1) := by decide +kernel
theorem dX11_rows_52 : decode cX11_rows 52 = .ok (.iinc 4 1, 3) := by decide +kernel
theorem dX11_rows_55 : decode cX11_rows 55 = .ok (.goto (-41), 3) := by decide +kernel
theorem dX11_rows_58 : decode cX11_rows 58 = .ok (.iload_n 3, 1) := by decide +kernel
theorem dX11_rows_59 : decode cX11_rows 59 = .ok (.ireturn, 1) := by decide +kernel
theorem dX11_looks_0 : decode cX11_looks 0 = .ok (.iload_n 1, 1) := by decide +kernel
theorem dX11_looks_1 : decode cX11_looks 1 = .ok (.invokestatic 351, 3) := by decide +kernel
theorem dX11_looks_4 : decode cX11_looks 4 = .ok (.aload_n 0, 1) := by decide +kernel
theorem dX11_looks_5 : decode cX11_looks 5 = .ok (.invokevirtual 354, 3) := by decide +kernel
theorem dX11_looks_8 : decode cX11_looks 8 = .ok (.astore_n 2, 1) := by decide +kernel
theorem dX11_looks_9 : decode cX11_looks 9 = .ok (.aload_n 2, 1) := by decide +kernel
theorem dX11_looks_10 : decode cX11_looks 10 = .ok (.invokevirtual 367, 3) := by decide +kernel
theorem dX11_looks_13 : decode cX11_looks 13 = .ok (.iconst 0, 1) := by decide +kernel
theorem dX11_looks_14 : decode cX11_looks 14 = .ok (.istore_n 3, 1) := by decide +kernel
theorem dX11_looks_15 : decode cX11_looks 15 = .ok (.iconst 0, 1) := by decide +kernel
theorem dX11_looks_16 : decode cX11_looks 16 = .ok (.istore 4, 2) := by decide +kernel
theorem dX11_looks_18 : decode cX11_looks 18 = .ok (.iload 4, 2) := by decide +kernel
theorem dX11_looks_20 : decode cX11_looks 20 = .ok (.aload_n 2, 1) := by decide +kernel
theorem dX11_looks_21 : decode cX11_looks 21 = .ok (.getfield 358, 3) := by decide +kernel
theorem dX11_looks_24 : decode cX11_looks 24 = .ok (.if_icmp .ge 31, 3) := by decide +kernel
theorem dX11_looks_27 : decode cX11_looks 27 = .ok (.aload_n 2, 1) := by decide +kernel
theorem dX11_looks_28 : decode cX11_looks 28 = .ok (.iload 4, 2) := by decide +kernel
theorem dX11_looks_30 : decode cX11_looks 30 = .ok (.invokevirtual 361, 3) := by decide +kernel
theorem dX11_looks_33 : decode cX11_looks 33 = .ok (.iload_n 1, 1) := by decide +kernel
theorem dX11_looks_34 : decode cX11_looks 34 = .ok (.if_icmp .gt 21, 3) := by decide +kernel
theorem dX11_looks_37 : decode cX11_looks 37 = .ok (.aload_n 2, 1) := by decide +kernel
theorem dX11_looks_38 : decode cX11_looks 38 = .ok (.iload 4, 2) := by decide +kernel
theorem dX11_looks_40 : decode cX11_looks 40 = .ok (.invokevirtual 370, 3) := by decide +kernel
theorem dX11_looks_43 : decode cX11_looks 43 = .ok (.ifCond .eq 6, 3) := by decide +kernel
theorem dX11_looks_46 : decode cX11_looks 46 = .ok (.iinc 3 1, 3) := by decide +kernel
theorem dX11_looks_49 : decode cX11_looks 49 = .ok (.iinc 4 1, 3) := by decide +kernel
theorem dX11_looks_52 : decode cX11_looks 52 = .ok (.goto (-34), 3) := by decide +kernel
theorem dX11_looks_55 : decode cX11_looks 55 = .ok (.iload_n 3, 1) := by decide +kernel
theorem dX11_looks_56 : decode cX11_looks 56 = .ok (.ireturn, 1) := by decide +kernel
theorem dX11_soonest_0 : decode cX11_soonest 0 = .ok (.iload_n 1, 1) := by decide +kernel
theorem dX11_soonest_1 : decode cX11_soonest 1 = .ok (.invokestatic 373, 3) := by decide +kernel
theorem dX11_soonest_4 : decode cX11_soonest 4 = .ok (.ifCond .ne 14, 3) := by decide +kernel
theorem dX11_soonest_7 : decode cX11_soonest 7 = .ok (.new 99, 3) := by decide +kernel
theorem dX11_soonest_10 : decode cX11_soonest 10 = .ok (.dup, 1) := by decide +kernel
theorem dX11_soonest_11 : decode cX11_soonest 11 = .ok (.ldc_w 376, 3) := by decide +kernel
theorem dX11_soonest_14 : decode cX11_soonest 14 = .ok (.invokespecial 103, 3) := by decide +kernel
theorem dX11_soonest_17 : decode cX11_soonest 17 = .ok (.athrow, 1) := by decide +kernel
theorem dX11_soonest_18 : decode cX11_soonest 18 = .ok (.aload_n 0, 1) := by decide +kernel
theorem dX11_soonest_19 : decode cX11_soonest 19 = .ok (.invokevirtual 354, 3) := by decide +kernel
theorem dX11_soonest_22 : decode cX11_soonest 22 = .ok (.astore_n 2, 1) := by decide +kernel
theorem dX11_soonest_23 : decode cX11_soonest 23 = .ok (.iconst 0, 1) := by decide +kernel
theorem dX11_soonest_24 : decode cX11_soonest 24 = .ok (.istore_n 3, 1) := by decide +kernel
theorem dX11_soonest_25 : decode cX11_soonest 25 = .ok (.iload_n 3, 1) := by decide +kernel
theorem dX11_soonest_26 : decode cX11_soonest 26 = .ok (.aload_n 2, 1) := by decide +kernel
theorem dX11_soonest_27 : decode cX11_soonest 27 = .ok (.getfield 358, 3) := by decide +kernel
theorem dX11_soonest_30 : decode cX11_soonest 30 = .ok (.if_icmp .ge 38, 3) := by decide +kernel
theorem dX11_soonest_33 : decode cX11_soonest 33 = .ok (.aload_n 2, 1) := by decide +kernel
theorem dX11_soonest_34 : decode cX11_soonest 34 = .ok (.iload_n 3, 1) := by decide +kernel
theorem dX11_soonest_35 : decode cX11_soonest 35 = .ok (.invokevirtual 361, 3) := by decide +kernel
theorem dX11_soonest_38 : decode cX11_soonest 38 = .ok (.iconst 5, 1) := by decide +kernel
theorem dX11_soonest_39 : decode cX11_soonest 39 = .ok (.if_icmp .gt 29, 3) := by decide +kernel
theorem dX11_soonest_42 : decode cX11_soonest 42 = .ok (.aload_n 0, 1) := by decide +kernel
theorem dX11_soonest_43 : decode cX11_soonest 43 = .ok (.aload_n 2, 1) := by decide +kernel
theorem dX11_soonest_44 : decode cX11_soonest 44 = .ok (.iload_n 3, 1) := by decide +kernel
theorem dX11_soonest_45 : decode cX11_soonest 45 = .ok (.invokevirtual 378, 3) := by decide +kernel
theorem dX11_soonest_48 : decode cX11_soonest 48 = .ok (.aload_n 0, 1) := by decide +kernel
theorem dX11_soonest_49 : decode cX11_soonest 49 = .ok (.invokevirtual 205, 3) := by decide +kernel
theorem dX11_soonest_52 : decode cX11_soonest 52 = .ok (.ifCond .eq 10, 3) := by decide +kernel
theorem dX11_soonest_55 : decode cX11_soonest 55 = .ok (.aload_n 2, 1) := by decide +kernel
theorem dX11_soonest_56 : decode cX11_soonest 56 = .ok (.iload_n 3, 1) := by decide +kernel
theorem dX11_soonest_57 : decode cX11_soonest 57 = .ok (.iload_n 1, 1) := by decide +kernel
theorem dX11_soonest_58 : decode cX11_soonest 58 = .ok (.invokestatic 382, 3) := by decide +kernel
theorem dX11_soonest_61 : decode cX11_soonest 61 = .ok (.ireturn, 1) := by decide +kernel
theorem dX11_soonest_62 : decode cX11_soonest 62 = .ok (.iinc 3 1, 3) := by decide +kernel
theorem dX11_soonest_65 : decode cX11_soonest 65 = .ok (.goto (-40), 3) := by decide +kernel
theorem dX11_soonest_68 : decode cX11_soonest 68 = .ok (.iconst (-1), 1) := by decide +kernel
theorem dX11_soonest_69 : decode cX11_soonest 69 = .ok (.ireturn, 1) := by decide +kernel
theorem dX11_holding_0 : decode cX11_holding 0 = .ok (.iload_n 1, 1) := by decide +kernel
theorem dX11_holding_1 : decode cX11_holding 1 = .ok (.invokestatic 351, 3) := by decide +kernel
theorem dX11_holding_4 : decode cX11_holding 4 = .ok (.aload_n 0, 1) := by decide +kernel
theorem dX11_holding_5 : decode cX11_holding 5 = .ok (.invokevirtual 354, 3) := by decide +kernel
theorem dX11_holding_8 : decode cX11_holding 8 = .ok (.astore_n 2, 1) := by decide +kernel
theorem dX11_holding_9 : decode cX11_holding 9 = .ok (.aload_n 2, 1) := by decide +kernel
theorem dX11_holding_10 : decode cX11_holding 10 = .ok (.invokevirtual 367, 3) := by decide +kernel
theorem dX11_holding_13 : decode cX11_holding 13 = .ok (.iconst 0, 1) := by decide +kernel
theorem dX11_holding_14 : decode cX11_holding 14 = .ok (.istore_n 3, 1) := by decide +kernel
theorem dX11_holding_15 : decode cX11_holding 15 = .ok (.iconst 0, 1) := by decide +kernel
theorem dX11_holding_16 : decode cX11_holding 16 = .ok (.istore 4, 2) := by decide +kernel
theorem dX11_holding_18 : decode cX11_holding 18 = .ok (.iload 4, 2) := by decide +kernel
theorem dX11_holding_20 : decode cX11_holding 20 = .ok (.aload_n 2, 1) := by decide +kernel
theorem dX11_holding_21 : decode cX11_holding 21 = .ok (.getfield 358, 3) := by decide +kernel
theorem dX11_holding_24 : decode cX11_holding 24 = .ok (.if_icmp .ge 45, 3) := by decide +kernel
theorem dX11_holding_27 : decode cX11_holding 27 = .ok (.aload_n 2, 1) := by decide +kernel
theorem dX11_holding_28 : decode cX11_holding 28 = .ok (.iload 4, 2) := by decide +kernel
theorem dX11_holding_30 : decode cX11_holding 30 = .ok (.invokevirtual 361, 3) := by decide +kernel
theorem dX11_holding_33 : decode cX11_holding 33 = .ok (.iload_n 1, 1) := by decide +kernel
theorem dX11_holding_34 : decode cX11_holding 34 = .ok (.if_icmp .gt 35, 3) := by decide +kernel
theorem dX11_holding_37 : decode cX11_holding 37 = .ok (.aload_n 0, 1) := by decide +kernel
theorem dX11_holding_38 : decode cX11_holding 38 = .ok (.aload_n 2, 1) := by decide +kernel
theorem dX11_holding_39 : decode cX11_holding 39 = .ok (.iload 4, 2) := by decide +kernel
theorem dX11_holding_41 : decode cX11_holding 41 = .ok (.invokevirtual 378, 3) := by decide +kernel
theorem dX11_holding_44 : decode cX11_holding 44 = .ok (.aload_n 0, 1) := by decide +kernel
theorem dX11_holding_45 : decode cX11_holding 45 = .ok (.invokevirtual 205, 3) := by decide +kernel
theorem dX11_holding_48 : decode cX11_holding 48 = .ok (.ifCond .eq 15, 3) := by decide +kernel
theorem dX11_holding_51 : decode cX11_holding 51 = .ok (.aload_n 2, 1) := by decide +kernel
theorem dX11_holding_52 : decode cX11_holding 52 = .ok (.iload 4, 2) := by decide +kernel
theorem dX11_holding_54 : decode cX11_holding 54 = .ok (.invokevirtual 370, 3) := by decide +kernel
theorem dX11_holding_57 : decode cX11_holding 57 = .ok (.ifCond .eq 6, 3) := by decide +kernel
theorem dX11_holding_60 : decode cX11_holding 60 = .ok (.iinc 3 1, 3) := by decide +kernel
theorem dX11_holding_63 : decode cX11_holding 63 = .ok (.iinc 4 1, 3) := by decide +kernel
theorem dX11_holding_66 : decode cX11_holding 66 = .ok (.goto (-48), 3) := by decide +kernel
theorem dX11_holding_69 : decode cX11_holding 69 = .ok (.iload_n 3, 1) := by decide +kernel
theorem dX11_holding_70 : decode cX11_holding 70 = .ok (.ireturn, 1) := by decide +kernel
theorem dX11_best_0 : decode cX11_best 0 = .ok (.iload_n 1, 1) := by decide +kernel
theorem dX11_best_1 : decode cX11_best 1 = .ok (.invokestatic 386, 3) := by decide +kernel
theorem dX11_best_4 : decode cX11_best 4 = .ok (.ifCond .eq 10, 3) := by decide +kernel
theorem dX11_best_7 : decode cX11_best 7 = .ok (.iload_n 2, 1) := by decide +kernel
theorem dX11_best_8 : decode cX11_best 8 = .ok (.invokestatic 389, 3) := by decide +kernel
theorem dX11_best_11 : decode cX11_best 11 = .ok (.ifCond .ne 14, 3) := by decide +kernel
theorem dX11_best_14 : decode cX11_best 14 = .ok (.new 99, 3) := by decide +kernel
theorem dX11_best_17 : decode cX11_best 17 = .ok (.dup, 1) := by decide +kernel
theorem dX11_best_18 : decode cX11_best 18 = .ok (.ldc_w 392, 3) := by decide +kernel
theorem dX11_best_21 : decode cX11_best 21 = .ok (.invokespecial 103, 3) := by decide +kernel
theorem dX11_best_24 : decode cX11_best 24 = .ok (.athrow, 1) := by decide +kernel
theorem dX11_best_25 : decode cX11_best 25 = .ok (.aload_n 0, 1) := by decide +kernel
theorem dX11_best_26 : decode cX11_best 26 = .ok (.invokevirtual 354, 3) := by decide +kernel
theorem dX11_best_29 : decode cX11_best 29 = .ok (.astore_n 3, 1) := by decide +kernel
theorem dX11_best_30 : decode cX11_best 30 = .ok (.aload_n 0, 1) := by decide +kernel
theorem dX11_best_31 : decode cX11_best 31 = .ok (.aload_n 3, 1) := by decide +kernel
theorem dX11_best_32 : decode cX11_best 32 = .ok (.iload_n 1, 1) := by decide +kernel
theorem dX11_best_33 : decode cX11_best 33 = .ok (.iconst (-1), 1) := by decide +kernel
theorem dX11_best_34 : decode cX11_best 34 = .ok (.invokevirtual 394, 3) := by decide +kernel
theorem dX11_best_37 : decode cX11_best 37 = .ok (.istore 4, 2) := by decide +kernel
theorem dX11_best_39 : decode cX11_best 39 = .ok (.iload_n 2, 1) := by decide +kernel
theorem dX11_best_40 : decode cX11_best 40 = .ok (.ifCond .ne 14, 3) := by decide +kernel
theorem dX11_best_43 : decode cX11_best 43 = .ok (.aload_n 0, 1) := by decide +kernel
theorem dX11_best_44 : decode cX11_best 44 = .ok (.aload_n 3, 1) := by decide +kernel
theorem dX11_best_45 : decode cX11_best 45 = .ok (.iload 4, 2) := by decide +kernel
theorem dX11_best_47 : decode cX11_best 47 = .ok (.iconst (-1), 1) := by decide +kernel
theorem dX11_best_48 : decode cX11_best 48 = .ok (.invokevirtual 397, 3) := by decide +kernel
theorem dX11_best_51 : decode cX11_best 51 = .ok (.goto 10, 3) := by decide +kernel
theorem dX11_best_54 : decode cX11_best 54 = .ok (.aload_n 3, 1) := by decide +kernel
theorem dX11_best_55 : decode cX11_best 55 = .ok (.iload 4, 2) := by decide +kernel
theorem dX11_best_57 : decode cX11_best 57 = .ok (.iload_n 2, 1) := by decide +kernel
theorem dX11_best_58 : decode cX11_best 58 = .ok (.invokestatic 400, 3) := by decide +kernel
theorem dX11_best_61 : decode cX11_best 61 = .ok (.ireturn, 1) := by decide +kernel
theorem dX11_reads_0 : decode cX11_reads 0 = .ok (.aload_n 0, 1) := by decide +kernel
theorem dX11_reads_1 : decode cX11_reads 1 = .ok (.iload_n 1, 1) := by decide +kernel
theorem dX11_reads_2 : decode cX11_reads 2 = .ok (.invokevirtual 280, 3) := by decide +kernel
theorem dX11_reads_5 : decode cX11_reads 5 = .ok (.astore_n 3, 1) := by decide +kernel
theorem dX11_reads_6 : decode cX11_reads 6 = .ok (.aload_n 3, 1) := by decide +kernel
theorem dX11_reads_7 : decode cX11_reads 7 = .ok (.invokevirtual 403, 3) := by decide +kernel
theorem dX11_reads_10 : decode cX11_reads 10 = .ok (.ifCond .eq 10, 3) := by decide +kernel
theorem dX11_reads_13 : decode cX11_reads 13 = .ok (.iload_n 2, 1) := by decide +kernel
theorem dX11_reads_14 : decode cX11_reads 14 = .ok (.invokestatic 373, 3) := by decide +kernel
theorem dX11_reads_17 : decode cX11_reads 17 = .ok (.ifCond .ne 14, 3) := by decide +kernel
theorem dX11_reads_20 : decode cX11_reads 20 = .ok (.new 99, 3) := by decide +kernel
theorem dX11_reads_23 : decode cX11_reads 23 = .ok (.dup, 1) := by decide +kernel
theorem dX11_reads_24 : decode cX11_reads 24 = .ok (.ldc_w 406, 3) := by decide +kernel
theorem dX11_reads_27 : decode cX11_reads 27 = .ok (.invokespecial 103, 3) := by decide +kernel
theorem dX11_reads_30 : decode cX11_reads 30 = .ok (.athrow, 1) := by decide +kernel
theorem dX11_reads_31 : decode cX11_reads 31 = .ok (.aload_n 0, 1) := by decide +kernel
theorem dX11_reads_32 : decode cX11_reads 32 = .ok (.invokevirtual 354, 3) := by decide +kernel
theorem dX11_reads_35 : decode cX11_reads 35 = .ok (.astore 4, 2) := by decide +kernel
theorem dX11_reads_37 : decode cX11_reads 37 = .ok (.iconst 0, 1) := by decide +kernel
theorem dX11_reads_38 : decode cX11_reads 38 = .ok (.istore 5, 2) := by decide +kernel
theorem dX11_reads_40 : decode cX11_reads 40 = .ok (.iload 5, 2) := by decide +kernel
theorem dX11_reads_42 : decode cX11_reads 42 = .ok (.aload 4, 2) := by decide +kernel
theorem dX11_reads_44 : decode cX11_reads 44 = .ok (.getfield 358, 3) := by decide +kernel
theorem dX11_reads_47 : decode cX11_reads 47 = .ok (.if_icmp .ge 44, 3) := by decide +kernel
theorem dX11_reads_50 : decode cX11_reads 50 = .ok (.aload 4, 2) := by decide +kernel
theorem dX11_reads_52 : decode cX11_reads 52 = .ok (.iload 5, 2) := by decide +kernel
theorem dX11_reads_54 : decode cX11_reads 54 = .ok (.invokevirtual 361, 3) := by decide +kernel
theorem dX11_reads_57 : decode cX11_reads 57 = .ok (.iconst 5, 1) := by decide +kernel
theorem dX11_reads_58 : decode cX11_reads 58 = .ok (.if_icmp .gt 33, 3) := by decide +kernel
theorem dX11_reads_61 : decode cX11_reads 61 = .ok (.aload_n 0, 1) := by decide +kernel
theorem dX11_reads_62 : decode cX11_reads 62 = .ok (.aload 4, 2) := by decide +kernel
theorem dX11_reads_64 : decode cX11_reads 64 = .ok (.iload 5, 2) := by decide +kernel
theorem dX11_reads_66 : decode cX11_reads 66 = .ok (.invokevirtual 408, 3) := by decide +kernel
theorem dX11_reads_69 : decode cX11_reads 69 = .ok (.aload_n 3, 1) := by decide +kernel
theorem dX11_reads_70 : decode cX11_reads 70 = .ok (.invokevirtual 411, 3) := by decide +kernel
theorem dX11_reads_73 : decode cX11_reads 73 = .ok (.ifCond .eq 12, 3) := by decide +kernel
theorem dX11_reads_76 : decode cX11_reads 76 = .ok (.aload 4, 2) := by decide +kernel
theorem dX11_reads_78 : decode cX11_reads 78 = .ok (.iload 5, 2) := by decide +kernel
theorem dX11_reads_80 : decode cX11_reads 80 = .ok (.iload_n 2, 1) := by decide +kernel
theorem dX11_reads_81 : decode cX11_reads 81 = .ok (.invokestatic 382, 3) := by decide +kernel
theorem dX11_reads_84 : decode cX11_reads 84 = .ok (.ireturn, 1) := by decide +kernel
theorem dX11_reads_85 : decode cX11_reads 85 = .ok (.iinc 5 1, 3) := by decide +kernel
theorem dX11_reads_88 : decode cX11_reads 88 = .ok (.goto (-48), 3) := by decide +kernel
theorem dX11_reads_91 : decode cX11_reads 91 = .ok (.iconst (-1), 1) := by decide +kernel
theorem dX11_reads_92 : decode cX11_reads 92 = .ok (.ireturn, 1) := by decide +kernel
theorem dX11_step_0 : decode cX11_step 0 = .ok (.aload_n 0, 1) := by decide +kernel
theorem dX11_step_1 : decode cX11_step 1 = .ok (.invokevirtual 354, 3) := by decide +kernel
theorem dX11_step_4 : decode cX11_step 4 = .ok (.astore_n 1, 1) := by decide +kernel
theorem dX11_step_5 : decode cX11_step 5 = .ok (.aload_n 0, 1) := by decide +kernel
theorem dX11_step_6 : decode cX11_step 6 = .ok (.aload_n 1, 1) := by decide +kernel
theorem dX11_step_7 : decode cX11_step 7 = .ok (.iconst 1, 1) := by decide +kernel
theorem dX11_step_8 : decode cX11_step 8 = .ok (.iconst (-1), 1) := by decide +kernel
theorem dX11_step_9 : decode cX11_step 9 = .ok (.invokevirtual 394, 3) := by decide +kernel
theorem dX11_step_12 : decode cX11_step 12 = .ok (.istore_n 2, 1) := by decide +kernel
theorem dX11_step_13 : decode cX11_step 13 = .ok (.aload_n 1, 1) := by decide +kernel
theorem dX11_step_14 : decode cX11_step 14 = .ok (.iload_n 2, 1) := by decide +kernel
theorem dX11_step_15 : decode cX11_step 15 = .ok (.iconst 0, 1) := by decide +kernel
theorem dX11_step_16 : decode cX11_step 16 = .ok (.invokevirtual 415, 3) := by decide +kernel
theorem dX11_step_19 : decode cX11_step 19 = .ok (.ireturn, 1) := by decide +kernel
theorem dX11_isFoldsOn_0 : decode cX11_isFoldsOn 0 = .ok (.iload_n 0, 1) := by decide +kernel
theorem dX11_isFoldsOn_1 : decode cX11_isFoldsOn 1 = .ok (.ifCond .lt 12, 3) := by decide +kernel
theorem dX11_isFoldsOn_4 : decode cX11_isFoldsOn 4 = .ok (.iload_n 0, 1) := by decide +kernel
theorem dX11_isFoldsOn_5 : decode cX11_isFoldsOn 5 = .ok (.iconst 5, 1) := by decide +kernel
theorem dX11_isFoldsOn_6 : decode cX11_isFoldsOn 6 = .ok (.if_icmp .gt 7, 3) := by decide +kernel
theorem dX11_isFoldsOn_9 : decode cX11_isFoldsOn 9 = .ok (.iconst 1, 1) := by decide +kernel
theorem dX11_isFoldsOn_10 : decode cX11_isFoldsOn 10 = .ok (.goto 4, 3) := by decide +kernel
theorem dX11_isFoldsOn_13 : decode cX11_isFoldsOn 13 = .ok (.iconst 0, 1) := by decide +kernel
theorem dX11_isFoldsOn_14 : decode cX11_isFoldsOn 14 = .ok (.ireturn, 1) := by decide +kernel
theorem dX11_needFoldsOn_0 : decode cX11_needFoldsOn 0 = .ok (.iload_n 0, 1) := by decide +kernel
theorem dX11_needFoldsOn_1 : decode cX11_needFoldsOn 1 = .ok (.invokestatic 386, 3) := by decide +kernel
theorem dX11_needFoldsOn_4 : decode cX11_needFoldsOn 4 = .ok (.ifCond .ne 14, 3) := by decide +kernel
theorem dX11_needFoldsOn_7 : decode cX11_needFoldsOn 7 = .ok (.new 99, 3) := by decide +kernel
theorem dX11_needFoldsOn_10 : decode cX11_needFoldsOn 10 = .ok (.dup, 1) := by decide +kernel
theorem dX11_needFoldsOn_11 : decode cX11_needFoldsOn 11 = .ok (.ldc_w 418, 3) := by decide +kernel
theorem dX11_needFoldsOn_14 : decode cX11_needFoldsOn 14 = .ok (.invokespecial 103, 3) := by decide +kernel
theorem dX11_needFoldsOn_17 : decode cX11_needFoldsOn 17 = .ok (.athrow, 1) := by decide +kernel
theorem dX11_needFoldsOn_18 : decode cX11_needFoldsOn 18 = .ok (.return_, 1) := by decide +kernel
theorem dX11_asksOfRow_0 : decode cX11_asksOfRow 0 = .ok (.iload_n 0, 1) := by decide +kernel
theorem dX11_asksOfRow_1 : decode cX11_asksOfRow 1 = .ok (.ifCond .eq 15, 3) := by decide +kernel
theorem dX11_asksOfRow_4 : decode cX11_asksOfRow 4 = .ok (.iload_n 0, 1) := by decide +kernel
theorem dX11_asksOfRow_5 : decode cX11_asksOfRow 5 = .ok (.bipush 10, 2) := by decide +kernel
theorem dX11_asksOfRow_7 : decode cX11_asksOfRow 7 = .ok (.if_icmp .lt 13, 3) := by decide +kernel
theorem dX11_asksOfRow_10 : decode cX11_asksOfRow 10 = .ok (.iload_n 0, 1) := by decide +kernel
theorem dX11_asksOfRow_11 : decode cX11_asksOfRow 11 = .ok (.bipush 14, 2) := by decide +kernel
theorem dX11_asksOfRow_13 : decode cX11_asksOfRow 13 = .ok (.if_icmp .gt 7, 3) := by decide +kernel
theorem dX11_asksOfRow_16 : decode cX11_asksOfRow 16 = .ok (.iconst 1, 1) := by decide +kernel
theorem dX11_asksOfRow_17 : decode cX11_asksOfRow 17 = .ok (.goto 4, 3) := by decide +kernel
theorem dX11_asksOfRow_20 : decode cX11_asksOfRow 20 = .ok (.iconst 0, 1) := by decide +kernel
theorem dX11_asksOfRow_21 : decode cX11_asksOfRow 21 = .ok (.ireturn, 1) := by decide +kernel
theorem dX11_asksOfGreatest_0 : decode cX11_asksOfGreatest 0 = .ok (.iload_n 0, 1) := by decide +kernel
theorem dX11_asksOfGreatest_1 : decode cX11_asksOfGreatest 1 = .ok (.iconst 1, 1) := by decide +kernel
theorem dX11_asksOfGreatest_2 : decode cX11_asksOfGreatest 2 = .ok (.if_icmp .eq 10, 3) := by decide +kernel
theorem dX11_asksOfGreatest_5 : decode cX11_asksOfGreatest 5 = .ok (.iload_n 0, 1) := by decide +kernel
theorem dX11_asksOfGreatest_6 : decode cX11_asksOfGreatest 6 = .ok (.invokestatic 373, 3) := by decide +kernel
theorem dX11_asksOfGreatest_9 : decode cX11_asksOfGreatest 9 = .ok (.ifCond .eq 7, 3) := by decide +kernel
theorem dX11_asksOfGreatest_12 : decode cX11_asksOfGreatest 12 = .ok (.iconst 1, 1) := by decide +kernel
theorem dX11_asksOfGreatest_13 : decode cX11_asksOfGreatest 13 = .ok (.goto 4, 3) := by decide +kernel
theorem dX11_asksOfGreatest_16 : decode cX11_asksOfGreatest 16 = .ok (.iconst 0, 1) := by decide +kernel
theorem dX11_asksOfGreatest_17 : decode cX11_asksOfGreatest 17 = .ok (.ireturn, 1) := by decide +kernel
theorem dX11_rowAnswer_0 : decode cX11_rowAnswer 0 = .ok (.iload_n 2, 1) := by decide +kernel
theorem dX11_rowAnswer_1 : decode cX11_rowAnswer 1 = .ok (.ifCond .ne 11, 3) := by decide +kernel
theorem dX11_rowAnswer_4 : decode cX11_rowAnswer 4 = .ok (.aload_n 0, 1) := by decide +kernel
theorem dX11_rowAnswer_5 : decode cX11_rowAnswer 5 = .ok (.iload_n 1, 1) := by decide +kernel
theorem dX11_rowAnswer_6 : decode cX11_rowAnswer 6 = .ok (.invokevirtual 361, 3) := by decide +kernel
theorem dX11_rowAnswer_9 : decode cX11_rowAnswer 9 = .ok (.goto 12, 3) := by decide +kernel
theorem dX11_rowAnswer_12 : decode cX11_rowAnswer 12 = .ok (.aload_n 0, 1) := by decide +kernel
theorem dX11_rowAnswer_13 : decode cX11_rowAnswer 13 = .ok (.iload_n 1, 1) := by decide +kernel
theorem dX11_rowAnswer_14 : decode cX11_rowAnswer 14 = .ok (.iload_n 2, 1) := by decide +kernel
theorem dX11_rowAnswer_15 : decode cX11_rowAnswer 15 = .ok (.bipush 10, 2) := by decide +kernel
theorem dX11_rowAnswer_17 : decode cX11_rowAnswer 17 = .ok (.isub, 1) := by decide +kernel
theorem dX11_rowAnswer_18 : decode cX11_rowAnswer 18 = .ok (.invokevirtual 415, 3) := by decide +kernel
theorem dX11_rowAnswer_21 : decode cX11_rowAnswer 21 = .ok (.ireturn, 1) := by decide +kernel
theorem dX11_greatestAnswer_0 : decode cX11_greatestAnswer 0 = .ok (.iload_n 2, 1) := by decide +kernel
theorem dX11_greatestAnswer_1 : decode cX11_greatestAnswer 1 = .ok (.iconst 1, 1) := by decide +kernel
theorem dX11_greatestAnswer_2 : decode cX11_greatestAnswer 2 = .ok (.if_icmp .ne 11, 3) := by decide +kernel
theorem dX11_greatestAnswer_5 : decode cX11_greatestAnswer 5 = .ok (.aload_n 0, 1) := by decide +kernel
theorem dX11_greatestAnswer_6 : decode cX11_greatestAnswer 6 = .ok (.iload_n 1, 1) := by decide +kernel
theorem dX11_greatestAnswer_7 : decode cX11_greatestAnswer 7 = .ok (.invokevirtual 361, 3) := by decide +kernel
theorem dX11_greatestAnswer_10 : decode cX11_greatestAnswer 10 = .ok (.goto 12, 3) := by decide +kernel
theorem dX11_greatestAnswer_13 : decode cX11_greatestAnswer 13 = .ok (.aload_n 0, 1) := by decide +kernel
theorem dX11_greatestAnswer_14 : decode cX11_greatestAnswer 14 = .ok (.iload_n 1, 1) := by decide +kernel
theorem dX11_greatestAnswer_15 : decode cX11_greatestAnswer 15 = .ok (.iload_n 2, 1) := by decide +kernel
theorem dX11_greatestAnswer_16 : decode cX11_greatestAnswer 16 = .ok (.bipush 10, 2) := by decide +kernel
theorem dX11_greatestAnswer_18 : decode cX11_greatestAnswer 18 = .ok (.isub, 1) := by decide +kernel
theorem dX11_greatestAnswer_19 : decode cX11_greatestAnswer 19 = .ok (.invokevirtual 415, 3) := by decide +kernel
theorem dX11_greatestAnswer_22 : decode cX11_greatestAnswer 22 = .ok (.ireturn, 1) := by decide +kernel
theorem dX11_growOn_0 : decode cX11_growOn 0 = .ok (.aload_n 0, 1) := by decide +kernel
theorem dX11_growOn_1 : decode cX11_growOn 1 = .ok (.getfield 57, 3) := by decide +kernel
theorem dX11_growOn_4 : decode cX11_growOn 4 = .ok (.aload_n 0, 1) := by decide +kernel
theorem dX11_growOn_5 : decode cX11_growOn 5 = .ok (.invokevirtual 134, 3) := by decide +kernel
theorem dX11_growOn_8 : decode cX11_growOn 8 = .ok (.invokevirtual 420, 3) := by decide +kernel
theorem dX11_growOn_11 : decode cX11_growOn 11 = .ok (.aload_n 0, 1) := by decide +kernel
theorem dX11_growOn_12 : decode cX11_growOn 12 = .ok (.getfield 57, 3) := by decide +kernel
theorem dX11_growOn_15 : decode cX11_growOn 15 = .ok (.areturn, 1) := by decide +kernel
theorem dX11_growFromFlat_0 : decode cX11_growFromFlat 0 = .ok (.aload_n 0, 1) := by decide +kernel
theorem dX11_growFromFlat_1 : decode cX11_growFromFlat 1 = .ok (.getfield 67, 3) := by decide +kernel
theorem dX11_growFromFlat_4 : decode cX11_growFromFlat 4 = .ok (.aload_n 0, 1) := by decide +kernel
theorem dX11_growFromFlat_5 : decode cX11_growFromFlat 5 = .ok (.getfield 33, 3) := by decide +kernel
theorem dX11_growFromFlat_8 : decode cX11_growFromFlat 8 = .ok (.getfield 181, 3) := by decide +kernel
theorem dX11_growFromFlat_11 : decode cX11_growFromFlat 11 = .ok (.getfield 185, 3) := by decide +kernel
theorem dX11_growFromFlat_14 : decode cX11_growFromFlat 14 = .ok (.invokevirtual 222, 3) := by decide +kernel
theorem dX11_growFromFlat_17 : decode cX11_growFromFlat 17 = .ok (.aload_n 0, 1) := by decide +kernel
theorem dX11_growFromFlat_18 : decode cX11_growFromFlat 18 = .ok (.getfield 61, 3) := by decide +kernel
theorem dX11_growFromFlat_21 : decode cX11_growFromFlat 21 = .ok (.aload_n 0, 1) := by decide +kernel
theorem dX11_growFromFlat_22 : decode cX11_growFromFlat 22 = .ok (.getfield 67, 3) := by decide +kernel
theorem dX11_growFromFlat_25 : decode cX11_growFromFlat 25 = .ok (.invokevirtual 420, 3) := by decide +kernel
theorem dX11_growFromFlat_28 : decode cX11_growFromFlat 28 = .ok (.aload_n 0, 1) := by decide +kernel
theorem dX11_growFromFlat_29 : decode cX11_growFromFlat 29 = .ok (.getfield 61, 3) := by decide +kernel
theorem dX11_growFromFlat_32 : decode cX11_growFromFlat 32 = .ok (.areturn, 1) := by decide +kernel
theorem dX11_viewOn_0 : decode cX11_viewOn 0 = .ok (.aload_n 0, 1) := by decide +kernel
theorem dX11_viewOn_1 : decode cX11_viewOn 1 = .ok (.getfield 50, 3) := by decide +kernel
theorem dX11_viewOn_4 : decode cX11_viewOn 4 = .ok (.aload_n 1, 1) := by decide +kernel
theorem dX11_viewOn_5 : decode cX11_viewOn 5 = .ok (.iload_n 2, 1) := by decide +kernel
theorem dX11_viewOn_6 : decode cX11_viewOn 6 = .ok (.invokevirtual 408, 3) := by decide +kernel
theorem dX11_viewOn_9 : decode cX11_viewOn 9 = .ok (.aload_n 0, 1) := by decide +kernel
theorem dX11_viewOn_10 : decode cX11_viewOn 10 = .ok (.getfield 33, 3) := by decide +kernel
theorem dX11_viewOn_13 : decode cX11_viewOn 13 = .ok (.getfield 138, 3) := by decide +kernel
theorem dX11_viewOn_16 : decode cX11_viewOn 16 = .ok (.getfield 171, 3) := by decide +kernel
theorem dX11_viewOn_19 : decode cX11_viewOn 19 = .ok (.aload_n 0, 1) := by decide +kernel
theorem dX11_viewOn_20 : decode cX11_viewOn 20 = .ok (.getfield 33, 3) := by decide +kernel
theorem dX11_viewOn_23 : decode cX11_viewOn 23 = .ok (.getfield 138, 3) := by decide +kernel
theorem dX11_viewOn_26 : decode cX11_viewOn 26 = .ok (.getfield 225, 3) := by decide +kernel
theorem dX11_viewOn_29 : decode cX11_viewOn 29 = .ok (.aload_n 1, 1) := by decide +kernel
theorem dX11_viewOn_30 : decode cX11_viewOn 30 = .ok (.iload_n 2, 1) := by decide +kernel
theorem dX11_viewOn_31 : decode cX11_viewOn 31 = .ok (.invokevirtual 361, 3) := by decide +kernel
theorem dX11_viewOn_34 : decode cX11_viewOn 34 = .ok (.iadd, 1) := by decide +kernel
theorem dX11_viewOn_35 : decode cX11_viewOn 35 = .ok (.invokevirtual 236, 3) := by decide +kernel
theorem dX11_viewOn_38 : decode cX11_viewOn 38 = .ok (.return_, 1) := by decide +kernel
theorem dX11_scoreOn_0 : decode cX11_scoreOn 0 = .ok (.aload_n 0, 1) := by decide +kernel
theorem dX11_scoreOn_1 : decode cX11_scoreOn 1 = .ok (.aload_n 1, 1) := by decide +kernel
theorem dX11_scoreOn_2 : decode cX11_scoreOn 2 = .ok (.iload_n 2, 1) := by decide +kernel
theorem dX11_scoreOn_3 : decode cX11_scoreOn 3 = .ok (.invokevirtual 378, 3) := by decide +kernel
theorem dX11_scoreOn_6 : decode cX11_scoreOn 6 = .ok (.iload_n 3, 1) := by decide +kernel
theorem dX11_scoreOn_7 : decode cX11_scoreOn 7 = .ok (.iconst (-1), 1) := by decide +kernel
theorem dX11_scoreOn_8 : decode cX11_scoreOn 8 = .ok (.if_icmp .ne 8, 3) := by decide +kernel
theorem dX11_scoreOn_11 : decode cX11_scoreOn 11 = .ok (.aload_n 0, 1) := by decide +kernel
theorem dX11_scoreOn_12 : decode cX11_scoreOn 12 = .ok (.invokevirtual 201, 3) := by decide +kernel
theorem dX11_scoreOn_15 : decode cX11_scoreOn 15 = .ok (.ireturn, 1) := by decide +kernel
theorem dX11_scoreOn_16 : decode cX11_scoreOn 16 = .ok (.iload_n 3, 1) := by decide +kernel
theorem dX11_scoreOn_17 : decode cX11_scoreOn 17 = .ok (.bipush (-2), 2) := by decide +kernel
theorem dX11_scoreOn_19 : decode cX11_scoreOn 19 = .ok (.if_icmp .ne 10, 3) := by decide +kernel
theorem dX11_scoreOn_22 : decode cX11_scoreOn 22 = .ok (.aload_n 0, 1) := by decide +kernel
theorem dX11_scoreOn_23 : decode cX11_scoreOn 23 = .ok (.invokevirtual 423, 3) := by decide +kernel
theorem dX11_scoreOn_26 : decode cX11_scoreOn 26 = .ok (.goto 8, 3) := by decide +kernel
theorem dX11_scoreOn_29 : decode cX11_scoreOn 29 = .ok (.aload_n 0, 1) := by decide +kernel
theorem dX11_scoreOn_30 : decode cX11_scoreOn 30 = .ok (.iload_n 3, 1) := by decide +kernel
theorem dX11_scoreOn_31 : decode cX11_scoreOn 31 = .ok (.invokevirtual 214, 3) := by decide +kernel
theorem dX11_scoreOn_34 : decode cX11_scoreOn 34 = .ok (.ireturn, 1) := by decide +kernel
theorem dX11_greatestNode_0 : decode cX11_greatestNode 0 = .ok (.iconst 0, 1) := by decide +kernel
theorem dX11_greatestNode_1 : decode cX11_greatestNode 1 = .ok (.istore 4, 2) := by decide +kernel
theorem dX11_greatestNode_3 : decode cX11_greatestNode 3 = .ok (.aload_n 0, 1) := by decide +kernel
theorem dX11_greatestNode_4 : decode cX11_greatestNode 4 = .ok (.aload_n 1, 1) := by decide +kernel
theorem dX11_greatestNode_5 : decode cX11_greatestNode 5 = .ok (.iconst 0, 1) := by decide +kernel
theorem dX11_greatestNode_6 : decode cX11_greatestNode 6 = .ok (.iload_n 3, 1) := by decide +kernel
theorem dX11_greatestNode_7 : decode cX11_greatestNode 7 = .ok (.invokevirtual 397, 3) := by decide +kernel
theorem dX11_greatestNode_10 : decode cX11_greatestNode 10 = .ok (.istore 5, 2) := by decide +kernel
theorem dX11_greatestNode_12 : decode cX11_greatestNode 12 = .ok (.iconst 1, 1) := by decide +kernel
theorem dX11_greatestNode_13 : decode cX11_greatestNode 13 = .ok (.istore 6, 2) := by decide +kernel
theorem dX11_greatestNode_15 : decode cX11_greatestNode 15 = .ok (.iload 6, 2) := by decide +kernel
theorem dX11_greatestNode_17 : decode cX11_greatestNode 17 = .ok (.aload_n 1, 1) := by decide +kernel
theorem dX11_greatestNode_18 : decode cX11_greatestNode 18 = .ok (.getfield 358, 3) := by decide +kernel
theorem dX11_greatestNode_21 : decode cX11_greatestNode 21 = .ok (.if_icmp .ge 44, 3) := by decide +kernel
theorem dX11_greatestNode_24 : decode cX11_greatestNode 24 = .ok (.aload_n 1, 1) := by decide +kernel
theorem dX11_greatestNode_25 : decode cX11_greatestNode 25 = .ok (.iload 6, 2) := by decide +kernel
theorem dX11_greatestNode_27 : decode cX11_greatestNode 27 = .ok (.invokevirtual 361, 3) := by decide +kernel
theorem dX11_greatestNode_30 : decode cX11_greatestNode 30 = .ok (.iload_n 2, 1) := by decide +kernel
theorem dX11_greatestNode_31 : decode cX11_greatestNode 31 = .ok (.if_icmp .gt 34, 3) := by decide +kernel
theorem dX11_greatestNode_34 : decode cX11_greatestNode 34 = .ok (.aload_n 0, 1) := by decide +kernel
theorem dX11_greatestNode_35 : decode cX11_greatestNode 35 = .ok (.aload_n 1, 1) := by decide +kernel
theorem dX11_greatestNode_36 : decode cX11_greatestNode 36 = .ok (.iload 6, 2) := by decide +kernel
theorem dX11_greatestNode_38 : decode cX11_greatestNode 38 = .ok (.iload_n 3, 1) := by decide +kernel
theorem dX11_greatestNode_39 : decode cX11_greatestNode 39 = .ok (.invokevirtual 397, 3) := by decide +kernel
theorem dX11_greatestNode_42 : decode cX11_greatestNode 42 = .ok (.istore 7, 2) := by decide +kernel
theorem dX11_greatestNode_44 : decode cX11_greatestNode 44 = .ok (.iload 7, 2) := by decide +kernel
theorem dX11_greatestNode_46 : decode cX11_greatestNode 46 = .ok (.iload 5, 2) := by decide +kernel
theorem dX11_greatestNode_48 : decode cX11_greatestNode 48 = .ok (.if_icmp .le 11, 3) := by decide +kernel
theorem dX11_greatestNode_51 : decode cX11_greatestNode 51 = .ok (.iload 6, 2) := by decide +kernel
theorem dX11_greatestNode_53 : decode cX11_greatestNode 53 = .ok (.istore 4, 2) := by decide +kernel
theorem dX11_greatestNode_55 : decode cX11_greatestNode 55 = .ok (.iload 7, 2) := by decide +kernel
theorem dX11_greatestNode_57 : decode cX11_greatestNode 57 = .ok (.istore 5, 2) := by decide +kernel
theorem dX11_greatestNode_59 : decode cX11_greatestNode 59 = .ok (.iinc 6 1, 3) := by decide +kernel
theorem dX11_greatestNode_62 : decode cX11_greatestNode 62 = .ok (.goto (-47), 3) := by decide +kernel
theorem dX11_greatestNode_65 : decode cX11_greatestNode 65 = .ok (.iload 4, 2) := by decide +kernel
theorem dX11_greatestNode_67 : decode cX11_greatestNode 67 = .ok (.ireturn, 1) := by decide +kernel
theorem dX11_looksSo_0 : decode cX11_looksSo 0 = .ok (.aload_n 1, 1) := by decide +kernel
theorem dX11_looksSo_1 : decode cX11_looksSo 1 = .ok (.getfield 217, 3) := by decide +kernel
theorem dX11_looksSo_4 : decode cX11_looksSo 4 = .ok (.aload_n 2, 1) := by decide +kernel
theorem dX11_looksSo_5 : decode cX11_looksSo 5 = .ok (.getfield 289, 3) := by decide +kernel
theorem dX11_looksSo_8 : decode cX11_looksSo 8 = .ok (.if_icmp .eq 5, 3) := by decide +kernel
theorem dX11_looksSo_11 : decode cX11_looksSo 11 = .ok (.iconst 0, 1) := by decide +kernel
theorem dX11_looksSo_12 : decode cX11_looksSo 12 = .ok (.ireturn, 1) := by decide +kernel
theorem dX11_looksSo_13 : decode cX11_looksSo 13 = .ok (.iconst 0, 1) := by decide +kernel
theorem dX11_looksSo_14 : decode cX11_looksSo 14 = .ok (.istore_n 3, 1) := by decide +kernel
theorem dX11_looksSo_15 : decode cX11_looksSo 15 = .ok (.iload_n 3, 1) := by decide +kernel
theorem dX11_looksSo_16 : decode cX11_looksSo 16 = .ok (.aload_n 1, 1) := by decide +kernel
theorem dX11_looksSo_17 : decode cX11_looksSo 17 = .ok (.getfield 217, 3) := by decide +kernel
theorem dX11_looksSo_20 : decode cX11_looksSo 20 = .ok (.if_icmp .ge 49, 3) := by decide +kernel
theorem dX11_looksSo_23 : decode cX11_looksSo 23 = .ok (.aload_n 2, 1) := by decide +kernel
theorem dX11_looksSo_24 : decode cX11_looksSo 24 = .ok (.iload_n 3, 1) := by decide +kernel
theorem dX11_looksSo_25 : decode cX11_looksSo 25 = .ok (.invokevirtual 292, 3) := by decide +kernel
