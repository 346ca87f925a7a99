theorem dX0_init_0 : decode cX0_init 0 = .ok (.aload_n 0, 1) := by decide +kernel
theorem dX0_init_1 : decode cX0_init 1 = .ok (.invokespecial 3, 3) := by decide +kernel
theorem dX0_init_4 : decode cX0_init 4 = .ok (.aload_n 0, 1) := by decide +kernel
theorem dX0_init_5 : decode cX0_init 5 = .ok (.bipush 100, 2) := by decide +kernel
theorem dX0_init_7 : decode cX0_init 7 = .ok (.newarray .int, 2) := by decide +kernel
theorem dX0_init_9 : decode cX0_init 9 = .ok (.putfield 9, 3) := by decide +kernel
theorem dX0_init_12 : decode cX0_init 12 = .ok (.aload_n 0, 1) := by decide +kernel
theorem dX0_init_13 : decode cX0_init 13 = .ok (.bipush 100, 2) := by decide +kernel
theorem dX0_init_15 : decode cX0_init 15 = .ok (.newarray .int, 2) := by decide +kernel
theorem dX0_init_17 : decode cX0_init 17 = .ok (.putfield 15, 3) := by decide +kernel
theorem dX0_init_20 : decode cX0_init 20 = .ok (.aload_n 0, 1) := by decide +kernel
theorem dX0_init_21 : decode cX0_init 21 = .ok (.bipush 100, 2) := by decide +kernel
theorem dX0_init_23 : decode cX0_init 23 = .ok (.newarray .int, 2) := by decide +kernel
theorem dX0_init_25 : decode cX0_init 25 = .ok (.putfield 18, 3) := by decide +kernel
theorem dX0_init_28 : decode cX0_init 28 = .ok (.aload_n 0, 1) := by decide +kernel
theorem dX0_init_29 : decode cX0_init 29 = .ok (.bipush 100, 2) := by decide +kernel
theorem dX0_init_31 : decode cX0_init 31 = .ok (.newarray .int, 2) := by decide +kernel
theorem dX0_init_33 : decode cX0_init 33 = .ok (.putfield 21, 3) := by decide +kernel
theorem dX0_init_36 : decode cX0_init 36 = .ok (.aload_n 0, 1) := by decide +kernel
theorem dX0_init_37 : decode cX0_init 37 = .ok (.bipush 100, 2) := by decide +kernel
theorem dX0_init_39 : decode cX0_init 39 = .ok (.newarray .int, 2) := by decide +kernel
theorem dX0_init_41 : decode cX0_init 41 = .ok (.putfield 24, 3) := by decide +kernel
theorem dX0_init_44 : decode cX0_init 44 = .ok (.aload_n 0, 1) := by decide +kernel
theorem dX0_init_45 : decode cX0_init 45 = .ok (.bipush 100, 2) := by decide +kernel
theorem dX0_init_47 : decode cX0_init 47 = .ok (.newarray .int, 2) := by decide +kernel
theorem dX0_init_49 : decode cX0_init 49 = .ok (.putfield 27, 3) := by decide +kernel
theorem dX0_init_52 : decode cX0_init 52 = .ok (.return_, 1) := by decide +kernel
theorem dX0_add_0 : decode cX0_add 0 = .ok (.aload_n 0, 1) := by decide +kernel
theorem dX0_add_1 : decode cX0_add 1 = .ok (.getfield 9, 3) := by decide +kernel
theorem dX0_add_4 : decode cX0_add 4 = .ok (.aload_n 0, 1) := by decide +kernel
theorem dX0_add_5 : decode cX0_add 5 = .ok (.getfield 30, 3) := by decide +kernel
theorem dX0_add_8 : decode cX0_add 8 = .ok (.iload_n 1, 1) := by decide +kernel
theorem dX0_add_9 : decode cX0_add 9 = .ok (.iastore, 1) := by decide +kernel
theorem dX0_add_10 : decode cX0_add 10 = .ok (.aload_n 0, 1) := by decide +kernel
theorem dX0_add_11 : decode cX0_add 11 = .ok (.getfield 27, 3) := by decide +kernel
theorem dX0_add_14 : decode cX0_add 14 = .ok (.aload_n 0, 1) := by decide +kernel
theorem dX0_add_15 : decode cX0_add 15 = .ok (.getfield 30, 3) := by decide +kernel
theorem dX0_add_18 : decode cX0_add 18 = .ok (.iload_n 2, 1) := by decide +kernel
theorem dX0_add_19 : decode cX0_add 19 = .ok (.iastore, 1) := by decide +kernel
theorem dX0_add_20 : decode cX0_add 20 = .ok (.aload_n 0, 1) := by decide +kernel
theorem dX0_add_21 : decode cX0_add 21 = .ok (.getfield 15, 3) := by decide +kernel
theorem dX0_add_24 : decode cX0_add 24 = .ok (.aload_n 0, 1) := by decide +kernel
theorem dX0_add_25 : decode cX0_add 25 = .ok (.getfield 30, 3) := by decide +kernel
theorem dX0_add_28 : decode cX0_add 28 = .ok (.iload_n 3, 1) := by decide +kernel
theorem dX0_add_29 : decode cX0_add 29 = .ok (.iastore, 1) := by decide +kernel
theorem dX0_add_30 : decode cX0_add 30 = .ok (.aload_n 0, 1) := by decide +kernel
theorem dX0_add_31 : decode cX0_add 31 = .ok (.getfield 18, 3) := by decide +kernel
theorem dX0_add_34 : decode cX0_add 34 = .ok (.aload_n 0, 1) := by decide +kernel
theorem dX0_add_35 : decode cX0_add 35 = .ok (.getfield 30, 3) := by decide +kernel
theorem dX0_add_38 : decode cX0_add 38 = .ok (.iload 4, 2) := by decide +kernel
theorem dX0_add_40 : decode cX0_add 40 = .ok (.iastore, 1) := by decide +kernel
theorem dX0_add_41 : decode cX0_add 41 = .ok (.aload_n 0, 1) := by decide +kernel
theorem dX0_add_42 : decode cX0_add 42 = .ok (.getfield 21, 3) := by decide +kernel
theorem dX0_add_45 : decode cX0_add 45 = .ok (.aload_n 0, 1) := by decide +kernel
theorem dX0_add_46 : decode cX0_add 46 = .ok (.getfield 30, 3) := by decide +kernel
theorem dX0_add_49 : decode cX0_add 49 = .ok (.iload 5, 2) := by decide +kernel
theorem dX0_add_51 : decode cX0_add 51 = .ok (.iastore, 1) := by decide +kernel
theorem dX0_add_52 : decode cX0_add 52 = .ok (.aload_n 0, 1) := by decide +kernel
theorem dX0_add_53 : decode cX0_add 53 = .ok (.dup, 1) := by decide +kernel
theorem dX0_add_54 : decode cX0_add 54 = .ok (.getfield 34, 3) := by decide +kernel
theorem dX0_add_57 : decode cX0_add 57 = .ok (.iload_n 2, 1) := by decide +kernel
theorem dX0_add_58 : decode cX0_add 58 = .ok (.iadd, 1) := by decide +kernel
theorem dX0_add_59 : decode cX0_add 59 = .ok (.putfield 34, 3) := by decide +kernel
theorem dX0_add_62 : decode cX0_add 62 = .ok (.aload_n 0, 1) := by decide +kernel
theorem dX0_add_63 : decode cX0_add 63 = .ok (.dup, 1) := by decide +kernel
theorem dX0_add_64 : decode cX0_add 64 = .ok (.getfield 30, 3) := by decide +kernel
theorem dX0_add_67 : decode cX0_add 67 = .ok (.iconst 1, 1) := by decide +kernel
theorem dX0_add_68 : decode cX0_add 68 = .ok (.iadd, 1) := by decide +kernel
theorem dX0_add_69 : decode cX0_add 69 = .ok (.putfield 30, 3) := by decide +kernel
theorem dX0_add_72 : decode cX0_add 72 = .ok (.aload_n 0, 1) := by decide +kernel
theorem dX0_add_73 : decode cX0_add 73 = .ok (.getfield 30, 3) := by decide +kernel
theorem dX0_add_76 : decode cX0_add 76 = .ok (.iconst 1, 1) := by decide +kernel
theorem dX0_add_77 : decode cX0_add 77 = .ok (.isub, 1) := by decide +kernel
theorem dX0_add_78 : decode cX0_add 78 = .ok (.ireturn, 1) := by decide +kernel
theorem dX0_giveBack_0 : decode cX0_giveBack 0 = .ok (.iload_n 2, 1) := by decide +kernel
theorem dX0_giveBack_1 : decode cX0_giveBack 1 = .ok (.ifCond .gt 7, 3) := by decide +kernel
theorem dX0_giveBack_4 : decode cX0_giveBack 4 = .ok (.iconst 0, 1) := by decide +kernel
theorem dX0_giveBack_5 : decode cX0_giveBack 5 = .ok (.goto 15, 3) := by decide +kernel
theorem dX0_giveBack_8 : decode cX0_giveBack 8 = .ok (.aload_n 0, 1) := by decide +kernel
theorem dX0_giveBack_9 : decode cX0_giveBack 9 = .ok (.getfield 27, 3) := by decide +kernel
theorem dX0_giveBack_12 : decode cX0_giveBack 12 = .ok (.iload_n 1, 1) := by decide +kernel
theorem dX0_giveBack_13 : decode cX0_giveBack 13 = .ok (.iaload, 1) := by decide +kernel
theorem dX0_giveBack_14 : decode cX0_giveBack 14 = .ok (.iload_n 2, 1) := by decide +kernel
theorem dX0_giveBack_15 : decode cX0_giveBack 15 = .ok (.iadd, 1) := by decide +kernel
theorem dX0_giveBack_16 : decode cX0_giveBack 16 = .ok (.iconst 1, 1) := by decide +kernel
theorem dX0_giveBack_17 : decode cX0_giveBack 17 = .ok (.isub, 1) := by decide +kernel
theorem dX0_giveBack_18 : decode cX0_giveBack 18 = .ok (.iload_n 2, 1) := by decide +kernel
theorem dX0_giveBack_19 : decode cX0_giveBack 19 = .ok (.idiv, 1) := by decide +kernel
theorem dX0_giveBack_20 : decode cX0_giveBack 20 = .ok (.istore_n 3, 1) := by decide +kernel
theorem dX0_giveBack_21 : decode cX0_giveBack 21 = .ok (.aload_n 0, 1) := by decide +kernel
theorem dX0_giveBack_22 : decode cX0_giveBack 22 = .ok (.getfield 24, 3) := by decide +kernel
theorem dX0_giveBack_25 : decode cX0_giveBack 25 = .ok (.iload_n 1, 1) := by decide +kernel
theorem dX0_giveBack_26 : decode cX0_giveBack 26 = .ok (.iload_n 3, 1) := by decide +kernel
theorem dX0_giveBack_27 : decode cX0_giveBack 27 = .ok (.iastore, 1) := by decide +kernel
theorem dX0_giveBack_28 : decode cX0_giveBack 28 = .ok (.aload_n 0, 1) := by decide +kernel
theorem dX0_giveBack_29 : decode cX0_giveBack 29 = .ok (.dup, 1) := by decide +kernel
theorem dX0_giveBack_30 : decode cX0_giveBack 30 = .ok (.getfield 34, 3) := by decide +kernel
theorem dX0_giveBack_33 : decode cX0_giveBack 33 = .ok (.iload_n 3, 1) := by decide +kernel
theorem dX0_giveBack_34 : decode cX0_giveBack 34 = .ok (.isub, 1) := by decide +kernel
theorem dX0_giveBack_35 : decode cX0_giveBack 35 = .ok (.putfield 34, 3) := by decide +kernel
theorem dX0_giveBack_38 : decode cX0_giveBack 38 = .ok (.iload_n 3, 1) := by decide +kernel
theorem dX0_giveBack_39 : decode cX0_giveBack 39 = .ok (.ireturn, 1) := by decide +kernel
theorem dX1_init_0 : decode cX1_init 0 = .ok (.aload_n 0, 1) := by decide +kernel
theorem dX1_init_1 : decode cX1_init 1 = .ok (.invokespecial 5, 3) := by decide +kernel
theorem dX1_init_4 : decode cX1_init 4 = .ok (.aload_n 0, 1) := by decide +kernel
theorem dX1_init_5 : decode cX1_init 5 = .ok (.bipush 32, 2) := by decide +kernel
theorem dX1_init_7 : decode cX1_init 7 = .ok (.newarray .int, 2) := by decide +kernel
theorem dX1_init_9 : decode cX1_init 9 = .ok (.putfield 11, 3) := by decide +kernel
theorem dX1_init_12 : decode cX1_init 12 = .ok (.aload_n 0, 1) := by decide +kernel
theorem dX1_init_13 : decode cX1_init 13 = .ok (.bipush 32, 2) := by decide +kernel
theorem dX1_init_15 : decode cX1_init 15 = .ok (.newarray .int, 2) := by decide +kernel
theorem dX1_init_17 : decode cX1_init 17 = .ok (.putfield 15, 3) := by decide +kernel
theorem dX1_init_20 : decode cX1_init 20 = .ok (.aload_n 0, 1) := by decide +kernel
theorem dX1_init_21 : decode cX1_init 21 = .ok (.sipush 4096, 3) := by decide +kernel
theorem dX1_init_24 : decode cX1_init 24 = .ok (.newarray .int, 2) := by decide +kernel
theorem dX1_init_26 : decode cX1_init 26 = .ok (.putfield 18, 3) := by decide +kernel
theorem dX1_init_29 : decode cX1_init 29 = .ok (.iconst 0, 1) := by decide +kernel
theorem dX1_init_30 : decode cX1_init 30 = .ok (.istore_n 1, 1) := by decide +kernel
theorem dX1_init_31 : decode cX1_init 31 = .ok (.iload_n 1, 1) := by decide +kernel
theorem dX1_init_32 : decode cX1_init 32 = .ok (.aload_n 0, 1) := by decide +kernel
theorem dX1_init_33 : decode cX1_init 33 = .ok (.getfield 18, 3) := by decide +kernel
theorem dX1_init_36 : decode cX1_init 36 = .ok (.arraylength, 1) := by decide +kernel
theorem dX1_init_37 : decode cX1_init 37 = .ok (.if_icmp .ge 16, 3) := by decide +kernel
theorem dX1_init_40 : decode cX1_init 40 = .ok (.aload_n 0, 1) := by decide +kernel
theorem dX1_init_41 : decode cX1_init 41 = .ok (.getfield 18, 3) := by decide +kernel
theorem dX1_init_44 : decode cX1_init 44 = .ok (.iload_n 1, 1) := by decide +kernel
theorem dX1_init_45 : decode cX1_init 45 = .ok (.iconst (-1), 1) := by decide +kernel
theorem dX1_init_46 : decode cX1_init 46 = .ok (.iastore, 1) := by decide +kernel
theorem dX1_init_47 : decode cX1_init 47 = .ok (.iinc 1 1, 3) := by decide +kernel
theorem dX1_init_50 : decode cX1_init 50 = .ok (.goto (-19), 3) := by decide +kernel
theorem dX1_init_53 : decode cX1_init 53 = .ok (.return_, 1) := by decide +kernel
theorem dX1_strainOf_0 : decode cX1_strainOf 0 = .ok (.iload_n 0, 1) := by decide +kernel
theorem dX1_strainOf_1 : decode cX1_strainOf 1 = .ok (.bipush 20, 2) := by decide +kernel
theorem dX1_strainOf_3 : decode cX1_strainOf 3 = .ok (.ishr, 1) := by decide +kernel
theorem dX1_strainOf_4 : decode cX1_strainOf 4 = .ok (.ireturn, 1) := by decide +kernel
theorem dX1_workOf_0 : decode cX1_workOf 0 = .ok (.iload_n 0, 1) := by decide +kernel
theorem dX1_workOf_1 : decode cX1_workOf 1 = .ok (.bipush 16, 2) := by decide +kernel
theorem dX1_workOf_3 : decode cX1_workOf 3 = .ok (.ishr, 1) := by decide +kernel
theorem dX1_workOf_4 : decode cX1_workOf 4 = .ok (.bipush 15, 2) := by decide +kernel
theorem dX1_workOf_6 : decode cX1_workOf 6 = .ok (.iand, 1) := by decide +kernel
theorem dX1_workOf_7 : decode cX1_workOf 7 = .ok (.ireturn, 1) := by decide +kernel
theorem dX1_rankOf_0 : decode cX1_rankOf 0 = .ok (.iload_n 0, 1) := by decide +kernel
theorem dX1_rankOf_1 : decode cX1_rankOf 1 = .ok (.iload_n 1, 1) := by decide +kernel
theorem dX1_rankOf_2 : decode cX1_rankOf 2 = .ok (.invokestatic 21, 3) := by decide +kernel
theorem dX1_rankOf_5 : decode cX1_rankOf 5 = .ok (.ishr, 1) := by decide +kernel
theorem dX1_rankOf_6 : decode cX1_rankOf 6 = .ok (.iconst 3, 1) := by decide +kernel
theorem dX1_rankOf_7 : decode cX1_rankOf 7 = .ok (.iand, 1) := by decide +kernel
theorem dX1_rankOf_8 : decode cX1_rankOf 8 = .ok (.ireturn, 1) := by decide +kernel
theorem dX1_rankShift_0 : decode cX1_rankShift 0 = .ok (.bipush 7, 2) := by decide +kernel
theorem dX1_rankShift_2 : decode cX1_rankShift 2 = .ok (.iload_n 0, 1) := by decide +kernel
theorem dX1_rankShift_3 : decode cX1_rankShift 3 = .ok (.isub, 1) := by decide +kernel
theorem dX1_rankShift_4 : decode cX1_rankShift 4 = .ok (.iconst 2, 1) := by decide +kernel
theorem dX1_rankShift_5 : decode cX1_rankShift 5 = .ok (.imul, 1) := by decide +kernel
theorem dX1_rankShift_6 : decode cX1_rankShift 6 = .ok (.ireturn, 1) := by decide +kernel
theorem dX1_clear_0 : decode cX1_clear 0 = .ok (.iconst 0, 1) := by decide +kernel
theorem dX1_clear_1 : decode cX1_clear 1 = .ok (.istore_n 1, 1) := by decide +kernel
theorem dX1_clear_2 : decode cX1_clear 2 = .ok (.iload_n 1, 1) := by decide +kernel
theorem dX1_clear_3 : decode cX1_clear 3 = .ok (.aload_n 0, 1) := by decide +kernel
theorem dX1_clear_4 : decode cX1_clear 4 = .ok (.getfield 11, 3) := by decide +kernel
theorem dX1_clear_7 : decode cX1_clear 7 = .ok (.arraylength, 1) := by decide +kernel
theorem dX1_clear_8 : decode cX1_clear 8 = .ok (.if_icmp .ge 16, 3) := by decide +kernel
theorem dX1_clear_11 : decode cX1_clear 11 = .ok (.aload_n 0, 1) := by decide +kernel
theorem dX1_clear_12 : decode cX1_clear 12 = .ok (.getfield 11, 3) := by decide +kernel
theorem dX1_clear_15 : decode cX1_clear 15 = .ok (.iload_n 1, 1) := by decide +kernel
theorem dX1_clear_16 : decode cX1_clear 16 = .ok (.iconst (-1), 1) := by decide +kernel
theorem dX1_clear_17 : decode cX1_clear 17 = .ok (.iastore, 1) := by decide +kernel
theorem dX1_clear_18 : decode cX1_clear 18 = .ok (.iinc 1 1, 3) := by decide +kernel
theorem dX1_clear_21 : decode cX1_clear 21 = .ok (.goto (-19), 3) := by decide +kernel
theorem dX1_clear_24 : decode cX1_clear 24 = .ok (.aload_n 0, 1) := by decide +kernel
theorem dX1_clear_25 : decode cX1_clear 25 = .ok (.iconst 1, 1) := by decide +kernel
theorem dX1_clear_26 : decode cX1_clear 26 = .ok (.putfield 25, 3) := by decide +kernel
theorem dX1_clear_29 : decode cX1_clear 29 = .ok (.return_, 1) := by decide +kernel
theorem dX1_offer_0 : decode cX1_offer 0 = .ok (.iload_n 1, 1) := by decide +kernel
theorem dX1_offer_1 : decode cX1_offer 1 = .ok (.iconst 4, 1) := by decide +kernel
theorem dX1_offer_2 : decode cX1_offer 2 = .ok (.imul, 1) := by decide +kernel
theorem dX1_offer_3 : decode cX1_offer 3 = .ok (.iload_n 2, 1) := by decide +kernel
theorem dX1_offer_4 : decode cX1_offer 4 = .ok (.iadd, 1) := by decide +kernel
theorem dX1_offer_5 : decode cX1_offer 5 = .ok (.istore 5, 2) := by decide +kernel
theorem dX1_offer_7 : decode cX1_offer 7 = .ok (.aload_n 0, 1) := by decide +kernel
theorem dX1_offer_8 : decode cX1_offer 8 = .ok (.getfield 11, 3) := by decide +kernel
theorem dX1_offer_11 : decode cX1_offer 11 = .ok (.iload 5, 2) := by decide +kernel
theorem dX1_offer_13 : decode cX1_offer 13 = .ok (.iload_n 3, 1) := by decide +kernel
theorem dX1_offer_14 : decode cX1_offer 14 = .ok (.iastore, 1) := by decide +kernel
theorem dX1_offer_15 : decode cX1_offer 15 = .ok (.aload_n 0, 1) := by decide +kernel
theorem dX1_offer_16 : decode cX1_offer 16 = .ok (.getfield 15, 3) := by decide +kernel
theorem dX1_offer_19 : decode cX1_offer 19 = .ok (.iload 5, 2) := by decide +kernel
theorem dX1_offer_21 : decode cX1_offer 21 = .ok (.iload_n 2, 1) := by decide +kernel
theorem dX1_offer_22 : decode cX1_offer 22 = .ok (.bipush 20, 2) := by decide +kernel
theorem dX1_offer_24 : decode cX1_offer 24 = .ok (.ishl, 1) := by decide +kernel
theorem dX1_offer_25 : decode cX1_offer 25 = .ok (.iload 4, 2) := by decide +kernel
theorem dX1_offer_27 : decode cX1_offer 27 = .ok (.bipush 16, 2) := by decide +kernel
theorem dX1_offer_29 : decode cX1_offer 29 = .ok (.ishl, 1) := by decide +kernel
theorem dX1_offer_30 : decode cX1_offer 30 = .ok (.iadd, 1) := by decide +kernel
theorem dX1_offer_31 : decode cX1_offer 31 = .ok (.iload_n 2, 1) := by decide +kernel
theorem dX1_offer_32 : decode cX1_offer 32 = .ok (.iload_n 1, 1) := by decide +kernel
theorem dX1_offer_33 : decode cX1_offer 33 = .ok (.invokestatic 21, 3) := by decide +kernel
theorem dX1_offer_36 : decode cX1_offer 36 = .ok (.ishl, 1) := by decide +kernel
theorem dX1_offer_37 : decode cX1_offer 37 = .ok (.iadd, 1) := by decide +kernel
theorem dX1_offer_38 : decode cX1_offer 38 = .ok (.iastore, 1) := by decide +kernel
theorem dX1_offer_39 : decode cX1_offer 39 = .ok (.aload_n 0, 1) := by decide +kernel
theorem dX1_offer_40 : decode cX1_offer 40 = .ok (.aload_n 0, 1) := by decide +kernel
theorem dX1_offer_41 : decode cX1_offer 41 = .ok (.getfield 25, 3) := by decide +kernel
theorem dX1_offer_44 : decode cX1_offer 44 = .ok (.iconst 2, 1) := by decide +kernel
theorem dX1_offer_45 : decode cX1_offer 45 = .ok (.iload_n 3, 1) := by decide +kernel
theorem dX1_offer_46 : decode cX1_offer 46 = .ok (.ishl, 1) := by decide +kernel
theorem dX1_offer_47 : decode cX1_offer 47 = .ok (.invokestatic 29, 3) := by decide +kernel
theorem dX1_offer_50 : decode cX1_offer 50 = .ok (.putfield 25, 3) := by decide +kernel
theorem dX1_offer_53 : decode cX1_offer 53 = .ok (.return_, 1) := by decide +kernel
theorem dX1_leastKey_0 : decode cX1_leastKey 0 = .ok (.iconst (-1), 1) := by decide +kernel
theorem dX1_leastKey_1 : decode cX1_leastKey 1 = .ok (.istore_n 2, 1) := by decide +kernel
theorem dX1_leastKey_2 : decode cX1_leastKey 2 = .ok (.aload_n 0, 1) := by decide +kernel
theorem dX1_leastKey_3 : decode cX1_leastKey 3 = .ok (.getfield 18, 3) := by decide +kernel
theorem dX1_leastKey_6 : decode cX1_leastKey 6 = .ok (.iconst 0, 1) := by decide +kernel
theorem dX1_leastKey_7 : decode cX1_leastKey 7 = .ok (.iconst 0, 1) := by decide +kernel
theorem dX1_leastKey_8 : decode cX1_leastKey 8 = .ok (.iastore, 1) := by decide +kernel
theorem dX1_leastKey_9 : decode cX1_leastKey 9 = .ok (.iconst 0, 1) := by decide +kernel
theorem dX1_leastKey_10 : decode cX1_leastKey 10 = .ok (.istore_n 3, 1) := by decide +kernel
theorem dX1_leastKey_11 : decode cX1_leastKey 11 = .ok (.iload_n 3, 1) := by decide +kernel
theorem dX1_leastKey_12 : decode cX1_leastKey 12 = .ok (.aload_n 0, 1) := by decide +kernel
theorem dX1_leastKey_13 : decode cX1_leastKey 13 = .ok (.getfield 25, 3) := by decide +kernel
theorem dX1_leastKey_16 : decode cX1_leastKey 16 = .ok (.if_icmp .ge 71, 3) := by decide +kernel
theorem dX1_leastKey_19 : decode cX1_leastKey 19 = .ok (.aload_n 0, 1) := by decide +kernel
theorem dX1_leastKey_20 : decode cX1_leastKey 20 = .ok (.getfield 18, 3) := by decide +kernel
theorem dX1_leastKey_23 : decode cX1_leastKey 23 = .ok (.iload_n 3, 1) := by decide +kernel
theorem dX1_leastKey_24 : decode cX1_leastKey 24 = .ok (.iaload, 1) := by decide +kernel
theorem dX1_leastKey_25 : decode cX1_leastKey 25 = .ok (.istore 4, 2) := by decide +kernel
theorem dX1_leastKey_27 : decode cX1_leastKey 27 = .ok (.aload_n 0, 1) := by decide +kernel
theorem dX1_leastKey_28 : decode cX1_leastKey 28 = .ok (.getfield 18, 3) := by decide +kernel
theorem dX1_leastKey_31 : decode cX1_leastKey 31 = .ok (.iload_n 3, 1) := by decide +kernel
theorem dX1_leastKey_32 : decode cX1_leastKey 32 = .ok (.iconst (-1), 1) := by decide +kernel
theorem dX1_leastKey_33 : decode cX1_leastKey 33 = .ok (.iastore, 1) := by decide +kernel
theorem dX1_leastKey_34 : decode cX1_leastKey 34 = .ok (.iload 4, 2) := by decide +kernel
theorem dX1_leastKey_36 : decode cX1_leastKey 36 = .ok (.iconst (-1), 1) := by decide +kernel
theorem dX1_leastKey_37 : decode cX1_leastKey 37 = .ok (.if_icmp .ne 6, 3) := by decide +kernel
theorem dX1_leastKey_40 : decode cX1_leastKey 40 = .ok (.goto 41, 3) := by decide +kernel
theorem dX1_leastKey_43 : decode cX1_leastKey 43 = .ok (.iload_n 3, 1) := by decide +kernel
theorem dX1_leastKey_44 : decode cX1_leastKey 44 = .ok (.invokestatic 35, 3) := by decide +kernel
theorem dX1_leastKey_47 : decode cX1_leastKey 47 = .ok (.istore 5, 2) := by decide +kernel
theorem dX1_leastKey_49 : decode cX1_leastKey 49 = .ok (.iload 5, 2) := by decide +kernel
theorem dX1_leastKey_51 : decode cX1_leastKey 51 = .ok (.iload_n 1, 1) := by decide +kernel
theorem dX1_leastKey_52 : decode cX1_leastKey 52 = .ok (.if_icmp .ge 15, 3) := by decide +kernel
theorem dX1_leastKey_55 : decode cX1_leastKey 55 = .ok (.aload_n 0, 1) := by decide +kernel
theorem dX1_leastKey_56 : decode cX1_leastKey 56 = .ok (.iload 5, 2) := by decide +kernel
theorem dX1_leastKey_58 : decode cX1_leastKey 58 = .ok (.iload_n 3, 1) := by decide +kernel
theorem dX1_leastKey_59 : decode cX1_leastKey 59 = .ok (.iload 4, 2) := by decide +kernel
theorem dX1_leastKey_61 : decode cX1_leastKey 61 = .ok (.invokevirtual 40, 3) := by decide +kernel
theorem dX1_leastKey_64 : decode cX1_leastKey 64 = .ok (.goto 17, 3) := by decide +kernel
theorem dX1_leastKey_67 : decode cX1_leastKey 67 = .ok (.iload_n 2, 1) := by decide +kernel
theorem dX1_leastKey_68 : decode cX1_leastKey 68 = .ok (.iconst (-1), 1) := by decide +kernel
theorem dX1_leastKey_69 : decode cX1_leastKey 69 = .ok (.if_icmp .eq 9, 3) := by decide +kernel
theorem dX1_leastKey_72 : decode cX1_leastKey 72 = .ok (.iload 4, 2) := by decide +kernel
theorem dX1_leastKey_74 : decode cX1_leastKey 74 = .ok (.iload_n 2, 1) := by decide +kernel
theorem dX1_leastKey_75 : decode cX1_leastKey 75 = .ok (.if_icmp .ge 6, 3) := by decide +kernel
theorem dX1_leastKey_78 : decode cX1_leastKey 78 = .ok (.iload 4, 2) := by decide +kernel
theorem dX1_leastKey_80 : decode cX1_leastKey 80 = .ok (.istore_n 2, 1) := by decide +kernel
theorem dX1_leastKey_81 : decode cX1_leastKey 81 = .ok (.iinc 3 1, 3) := by decide +kernel
theorem dX1_leastKey_84 : decode cX1_leastKey 84 = .ok (.goto (-73), 3) := by decide +kernel
theorem dX1_leastKey_87 : decode cX1_leastKey 87 = .ok (.iload_n 2, 1) := by decide +kernel
theorem dX1_leastKey_88 : decode cX1_leastKey 88 = .ok (.ireturn, 1) := by decide +kernel
theorem dX1_castPart_0 : decode cX1_castPart 0 = .ok (.iconst 0, 1) := by decide +kernel
theorem dX1_castPart_1 : decode cX1_castPart 1 = .ok (.istore 4, 2) := by decide +kernel
theorem dX1_castPart_3 : decode cX1_castPart 3 = .ok (.iload 4, 2) := by decide +kernel
theorem dX1_castPart_5 : decode cX1_castPart 5 = .ok (.iconst 4, 1) := by decide +kernel
theorem dX1_castPart_6 : decode cX1_castPart 6 = .ok (.if_icmp .ge 92, 3) := by decide +kernel
theorem dX1_castPart_9 : decode cX1_castPart 9 = .ok (.iload_n 1, 1) := by decide +kernel
theorem dX1_castPart_10 : decode cX1_castPart 10 = .ok (.iconst 4, 1) := by decide +kernel
theorem dX1_castPart_11 : decode cX1_castPart 11 = .ok (.imul, 1) := by decide +kernel
theorem dX1_castPart_12 : decode cX1_castPart 12 = .ok (.iload 4, 2) := by decide +kernel
theorem dX1_castPart_14 : decode cX1_castPart 14 = .ok (.iadd, 1) := by decide +kernel
theorem dX1_castPart_15 : decode cX1_castPart 15 = .ok (.istore 5, 2) := by decide +kernel
theorem dX1_castPart_17 : decode cX1_castPart 17 = .ok (.aload_n 0, 1) := by decide +kernel
theorem dX1_castPart_18 : decode cX1_castPart 18 = .ok (.getfield 11, 3) := by decide +kernel
theorem dX1_castPart_21 : decode cX1_castPart 21 = .ok (.iload 5, 2) := by decide +kernel
theorem dX1_castPart_23 : decode cX1_castPart 23 = .ok (.iaload, 1) := by decide +kernel
theorem dX1_castPart_24 : decode cX1_castPart 24 = .ok (.istore 6, 2) := by decide +kernel
theorem dX1_castPart_26 : decode cX1_castPart 26 = .ok (.iload 6, 2) := by decide +kernel
theorem dX1_castPart_28 : decode cX1_castPart 28 = .ok (.iconst (-1), 1) := by decide +kernel
theorem dX1_castPart_29 : decode cX1_castPart 29 = .ok (.if_icmp .eq 63, 3) := by decide +kernel
theorem dX1_castPart_32 : decode cX1_castPart 32 = .ok (.iload_n 2, 1) := by decide +kernel
theorem dX1_castPart_33 : decode cX1_castPart 33 = .ok (.iload 6, 2) := by decide +kernel
theorem dX1_castPart_35 : decode cX1_castPart 35 = .ok (.invokestatic 44, 3) := by decide +kernel
theorem dX1_castPart_38 : decode cX1_castPart 38 = .ok (.ifCond .ne 54, 3) := by decide +kernel
theorem dX1_castPart_41 : decode cX1_castPart 41 = .ok (.iload_n 2, 1) := by decide +kernel
theorem dX1_castPart_42 : decode cX1_castPart 42 = .ok (.iload 6, 2) := by decide +kernel
theorem dX1_castPart_44 : decode cX1_castPart 44 = .ok (.invokestatic 48, 3) := by decide +kernel
theorem dX1_castPart_47 : decode cX1_castPart 47 = .ok (.istore 7, 2) := by decide +kernel
theorem dX1_castPart_49 : decode cX1_castPart 49 = .ok (.iload_n 3, 1) := by decide +kernel
theorem dX1_castPart_50 : decode cX1_castPart 50 = .ok (.aload_n 0, 1) := by decide +kernel
theorem dX1_castPart_51 : decode cX1_castPart 51 = .ok (.getfield 15, 3) := by decide +kernel
theorem dX1_castPart_54 : decode cX1_castPart 54 = .ok (.iload 5, 2) := by decide +kernel
theorem dX1_castPart_56 : decode cX1_castPart 56 = .ok (.iaload, 1) := by decide +kernel
theorem dX1_castPart_57 : decode cX1_castPart 57 = .ok (.iadd, 1) := by decide +kernel
theorem dX1_castPart_58 : decode cX1_castPart 58 = .ok (.istore 8, 2) := by decide +kernel
theorem dX1_castPart_60 : decode cX1_castPart 60 = .ok (.aload_n 0, 1) := by decide +kernel
theorem dX1_castPart_61 : decode cX1_castPart 61 = .ok (.getfield 18, 3) := by decide +kernel
theorem dX1_castPart_64 : decode cX1_castPart 64 = .ok (.iload 7, 2) := by decide +kernel
theorem dX1_castPart_66 : decode cX1_castPart 66 = .ok (.iaload, 1) := by decide +kernel
theorem dX1_castPart_67 : decode cX1_castPart 67 = .ok (.iconst (-1), 1) := by decide +kernel
theorem dX1_castPart_68 : decode cX1_castPart 68 = .ok (.if_icmp .eq 15, 3) := by decide +kernel
theorem dX1_castPart_71 : decode cX1_castPart 71 = .ok (.iload 8, 2) := by decide +kernel
theorem dX1_castPart_73 : decode cX1_castPart 73 = .ok (.aload_n 0, 1) := by decide +kernel
theorem dX1_castPart_74 : decode cX1_castPart 74 = .ok (.getfield 18, 3) := by decide +kernel
theorem dX1_castPart_77 : decode cX1_castPart 77 = .ok (.iload 7, 2) := by decide +kernel
theorem dX1_castPart_79 : decode cX1_castPart 79 = .ok (.iaload, 1) := by decide +kernel
theorem dX1_castPart_80 : decode cX1_castPart 80 = .ok (.if_icmp .ge 12, 3) := by decide +kernel
theorem dX1_castPart_83 : decode cX1_castPart 83 = .ok (.aload_n 0, 1) := by decide +kernel
theorem dX1_castPart_84 : decode cX1_castPart 84 = .ok (.getfield 18, 3) := by decide +kernel
theorem dX1_castPart_87 : decode cX1_castPart 87 = .ok (.iload 7, 2) := by decide +kernel
theorem dX1_castPart_89 : decode cX1_castPart 89 = .ok (.iload 8, 2) := by decide +kernel
theorem dX1_castPart_91 : decode cX1_castPart 91 = .ok (.iastore, 1) := by decide +kernel
theorem dX1_castPart_92 : decode cX1_castPart 92 = .ok (.iinc 4 1, 3) := by decide +kernel
theorem dX1_castPart_95 : decode cX1_castPart 95 = .ok (.goto (-92), 3) := by decide +kernel
theorem dX1_castPart_98 : decode cX1_castPart 98 = .ok (.return_, 1) := by decide +kernel
theorem dX1_leastStrain_0 : decode cX1_leastStrain 0 = .ok (.aload_n 0, 1) := by decide +kernel
theorem dX1_leastStrain_1 : decode cX1_leastStrain 1 = .ok (.getfield 11, 3) := by decide +kernel
theorem dX1_leastStrain_4 : decode cX1_leastStrain 4 = .ok (.iload_n 1, 1) := by decide +kernel
theorem dX1_leastStrain_5 : decode cX1_leastStrain 5 = .ok (.iconst 0, 1) := by decide +kernel
theorem dX1_leastStrain_6 : decode cX1_leastStrain 6 = .ok (.iconst 0, 1) := by decide +kernel
theorem dX1_leastStrain_7 : decode cX1_leastStrain 7 = .ok (.invokestatic 51, 3) := by decide +kernel
theorem dX1_leastStrain_10 : decode cX1_leastStrain 10 = .ok (.ireturn, 1) := by decide +kernel
theorem dX1_leastFrom_0 : decode cX1_leastFrom 0 = .ok (.iload_n 2, 1) := by decide +kernel
theorem dX1_leastFrom_1 : decode cX1_leastFrom 1 = .ok (.iload_n 1, 1) := by decide +kernel
theorem dX1_leastFrom_2 : decode cX1_leastFrom 2 = .ok (.if_icmp .ge 9, 3) := by decide +kernel
theorem dX1_leastFrom_5 : decode cX1_leastFrom 5 = .ok (.iload_n 2, 1) := by decide +kernel
theorem dX1_leastFrom_6 : decode cX1_leastFrom 6 = .ok (.bipush 8, 2) := by decide +kernel
theorem dX1_leastFrom_8 : decode cX1_leastFrom 8 = .ok (.if_icmp .lt 5, 3) := by decide +kernel
theorem dX1_leastFrom_11 : decode cX1_leastFrom 11 = .ok (.iconst 0, 1) := by decide +kernel
theorem dX1_leastFrom_12 : decode cX1_leastFrom 12 = .ok (.ireturn, 1) := by decide +kernel
theorem dX1_leastFrom_13 : decode cX1_leastFrom 13 = .ok (.iconst (-1), 1) := by decide +kernel
theorem dX1_leastFrom_14 : decode cX1_leastFrom 14 = .ok (.istore 4, 2) := by decide +kernel
theorem dX1_leastFrom_16 : decode cX1_leastFrom 16 = .ok (.iconst 0, 1) := by decide +kernel
theorem dX1_leastFrom_17 : decode cX1_leastFrom 17 = .ok (.istore 5, 2) := by decide +kernel
theorem dX1_leastFrom_19 : decode cX1_leastFrom 19 = .ok (.iload 5, 2) := by decide +kernel
theorem dX1_leastFrom_21 : decode cX1_leastFrom 21 = .ok (.iconst 4, 1) := by decide +kernel
theorem dX1_leastFrom_22 : decode cX1_leastFrom 22 = .ok (.if_icmp .ge 82, 3) := by decide +kernel
theorem dX1_leastFrom_25 : decode cX1_leastFrom 25 = .ok (.aload_n 0, 1) := by decide +kernel
theorem dX1_leastFrom_26 : decode cX1_leastFrom 26 = .ok (.iload_n 2, 1) := by decide +kernel
theorem dX1_leastFrom_27 : decode cX1_leastFrom 27 = .ok (.iconst 4, 1) := by decide +kernel
theorem dX1_leastFrom_28 : decode cX1_leastFrom 28 = .ok (.imul, 1) := by decide +kernel
theorem dX1_leastFrom_29 : decode cX1_leastFrom 29 = .ok (.iload 5, 2) := by decide +kernel
theorem dX1_leastFrom_31 : decode cX1_leastFrom 31 = .ok (.iadd, 1) := by decide +kernel
theorem dX1_leastFrom_32 : decode cX1_leastFrom 32 = .ok (.iaload, 1) := by decide +kernel
theorem dX1_leastFrom_33 : decode cX1_leastFrom 33 = .ok (.istore 6, 2) := by decide +kernel
theorem dX1_leastFrom_35 : decode cX1_leastFrom 35 = .ok (.iload 6, 2) := by decide +kernel
theorem dX1_leastFrom_37 : decode cX1_leastFrom 37 = .ok (.iconst (-1), 1) := by decide +kernel
theorem dX1_leastFrom_38 : decode cX1_leastFrom 38 = .ok (.if_icmp .eq 60, 3) := by decide +kernel
theorem dX1_leastFrom_41 : decode cX1_leastFrom 41 = .ok (.iload_n 3, 1) := by decide +kernel
theorem dX1_leastFrom_42 : decode cX1_leastFrom 42 = .ok (.iload 6, 2) := by decide +kernel
theorem dX1_leastFrom_44 : decode cX1_leastFrom 44 = .ok (.invokestatic 44, 3) := by decide +kernel
theorem dX1_leastFrom_47 : decode cX1_leastFrom 47 = .ok (.ifCond .eq 6, 3) := by decide +kernel
theorem dX1_leastFrom_50 : decode cX1_leastFrom 50 = .ok (.goto 48, 3) := by decide +kernel
theorem dX1_leastFrom_53 : decode cX1_leastFrom 53 = .ok (.aload_n 0, 1) := by decide +kernel
theorem dX1_leastFrom_54 : decode cX1_leastFrom 54 = .ok (.iload_n 1, 1) := by decide +kernel
theorem dX1_leastFrom_55 : decode cX1_leastFrom 55 = .ok (.iload_n 2, 1) := by decide +kernel
theorem dX1_leastFrom_56 : decode cX1_leastFrom 56 = .ok (.iconst 1, 1) := by decide +kernel
theorem dX1_leastFrom_57 : decode cX1_leastFrom 57 = .ok (.iadd, 1) := by decide +kernel
theorem dX1_leastFrom_58 : decode cX1_leastFrom 58 = .ok (.iload_n 3, 1) := by decide +kernel
theorem dX1_leastFrom_59 : decode cX1_leastFrom 59 = .ok (.iload 6, 2) := by decide +kernel
theorem dX1_leastFrom_61 : decode cX1_leastFrom 61 = .ok (.invokestatic 48, 3) := by decide +kernel
theorem dX1_leastFrom_64 : decode cX1_leastFrom 64 = .ok (.invokestatic 51, 3) := by decide +kernel
theorem dX1_leastFrom_67 : decode cX1_leastFrom 67 = .ok (.istore 7, 2) := by decide +kernel
theorem dX1_leastFrom_69 : decode cX1_leastFrom 69 = .ok (.iload 7, 2) := by decide +kernel
theorem dX1_leastFrom_71 : decode cX1_leastFrom 71 = .ok (.iconst (-1), 1) := by decide +kernel
theorem dX1_leastFrom_72 : decode cX1_leastFrom 72 = .ok (.if_icmp .eq 26, 3) := by decide +kernel
theorem dX1_leastFrom_75 : decode cX1_leastFrom 75 = .ok (.iload 4, 2) := by decide +kernel
theorem dX1_leastFrom_77 : decode cX1_leastFrom 77 = .ok (.iconst (-1), 1) := by decide +kernel
theorem dX1_leastFrom_78 : decode cX1_leastFrom 78 = .ok (.if_icmp .eq 13, 3) := by decide +kernel
theorem dX1_leastFrom_81 : decode cX1_leastFrom 81 = .ok (.iload 5, 2) := by decide +kernel
theorem dX1_leastFrom_83 : decode cX1_leastFrom 83 = .ok (.iload 7, 2) := by decide +kernel
theorem dX1_leastFrom_85 : decode cX1_leastFrom 85 = .ok (.iadd, 1) := by decide +kernel
theorem dX1_leastFrom_86 : decode cX1_leastFrom 86 = .ok (.iload 4, 2) := by decide +kernel
theorem dX1_leastFrom_88 : decode cX1_leastFrom 88 = .ok (.if_icmp .ge 10, 3) := by decide +kernel
theorem dX1_leastFrom_91 : decode cX1_leastFrom 91 = .ok (.iload 5, 2) := by decide +kernel
theorem dX1_leastFrom_93 : decode cX1_leastFrom 93 = .ok (.iload 7, 2) := by decide +kernel
theorem dX1_leastFrom_95 : decode cX1_leastFrom 95 = .ok (.iadd, 1) := by decide +kernel
theorem dX1_leastFrom_96 : decode cX1_leastFrom 96 = .ok (.istore 4, 2) := by decide +kernel
theorem dX1_leastFrom_98 : decode cX1_leastFrom 98 = .ok (.iinc 5 1, 3) := by decide +kernel
theorem dX1_leastFrom_101 : decode cX1_leastFrom 101 = .ok (.goto (-82), 3) := by decide +kernel
theorem dX1_leastFrom_104 : decode cX1_leastFrom 104 = .ok (.iload 4, 2) := by decide +kernel
theorem dX1_leastFrom_106 : decode cX1_leastFrom 106 = .ok (.ireturn, 1) := by decide +kernel
theorem dX2_init_0 : decode cX2_init 0 = .ok (.aload_n 0, 1) := by decide +kernel
theorem dX2_init_1 : decode cX2_init 1 = .ok (.invokespecial 3, 3) := by decide +kernel
theorem dX2_init_4 : decode cX2_init 4 = .ok (.aload_n 0, 1) := by decide +kernel
theorem dX2_init_5 : decode cX2_init 5 = .ok (.bipush 40, 2) := by decide +kernel
theorem dX2_init_7 : decode cX2_init 7 = .ok (.newarray .int, 2) := by decide +kernel
theorem dX2_init_9 : decode cX2_init 9 = .ok (.putfield 9, 3) := by decide +kernel
theorem dX2_init_12 : decode cX2_init 12 = .ok (.aload_n 0, 1) := by decide +kernel
theorem dX2_init_13 : decode cX2_init 13 = .ok (.sipush 320, 3) := by decide +kernel
theorem dX2_init_16 : decode cX2_init 16 = .ok (.newarray .int, 2) := by decide +kernel
theorem dX2_init_18 : decode cX2_init 18 = .ok (.putfield 15, 3) := by decide +kernel
theorem dX2_init_21 : decode cX2_init 21 = .ok (.aload_n 0, 1) := by decide +kernel
theorem dX2_init_22 : decode cX2_init 22 = .ok (.bipush 40, 2) := by decide +kernel
theorem dX2_init_24 : decode cX2_init 24 = .ok (.newarray .int, 2) := by decide +kernel
theorem dX2_init_26 : decode cX2_init 26 = .ok (.putfield 18, 3) := by decide +kernel
theorem dX2_init_29 : decode cX2_init 29 = .ok (.iconst 0, 1) := by decide +kernel
theorem dX2_init_30 : decode cX2_init 30 = .ok (.istore_n 1, 1) := by decide +kernel
theorem dX2_init_31 : decode cX2_init 31 = .ok (.iload_n 1, 1) := by decide +kernel
theorem dX2_init_32 : decode cX2_init 32 = .ok (.aload_n 0, 1) := by decide +kernel
theorem dX2_init_33 : decode cX2_init 33 = .ok (.getfield 15, 3) := by decide +kernel
theorem dX2_init_36 : decode cX2_init 36 = .ok (.arraylength, 1) := by decide +kernel
theorem dX2_init_37 : decode cX2_init 37 = .ok (.if_icmp .ge 16, 3) := by decide +kernel
theorem dX2_init_40 : decode cX2_init 40 = .ok (.aload_n 0, 1) := by decide +kernel
theorem dX2_init_41 : decode cX2_init 41 = .ok (.getfield 15, 3) := by decide +kernel
theorem dX2_init_44 : decode cX2_init 44 = .ok (.iload_n 1, 1) := by decide +kernel
theorem dX2_init_45 : decode cX2_init 45 = .ok (.iconst (-1), 1) := by decide +kernel
theorem dX2_init_46 : decode cX2_init 46 = .ok (.iastore, 1) := by decide +kernel
theorem dX2_init_47 : decode cX2_init 47 = .ok (.iinc 1 1, 3) := by decide +kernel
theorem dX2_init_50 : decode cX2_init 50 = .ok (.goto (-19), 3) := by decide +kernel
theorem dX2_init_53 : decode cX2_init 53 = .ok (.return_, 1) := by decide +kernel
theorem dX2_showOn_0 : decode cX2_showOn 0 = .ok (.iconst 0, 1) := by decide +kernel
theorem dX2_showOn_1 : decode cX2_showOn 1 = .ok (.istore_n 2, 1) := by decide +kernel
theorem dX2_showOn_2 : decode cX2_showOn 2 = .ok (.iload_n 2, 1) := by decide +kernel
theorem dX2_showOn_3 : decode cX2_showOn 3 = .ok (.aload_n 0, 1) := by decide +kernel
theorem dX2_showOn_4 : decode cX2_showOn 4 = .ok (.getfield 21, 3) := by decide +kernel
theorem dX2_showOn_7 : decode cX2_showOn 7 = .ok (.if_icmp .ge 21, 3) := by decide +kernel
theorem dX2_showOn_10 : decode cX2_showOn 10 = .ok (.aload_n 0, 1) := by decide +kernel
theorem dX2_showOn_11 : decode cX2_showOn 11 = .ok (.getfield 18, 3) := by decide +kernel
theorem dX2_showOn_14 : decode cX2_showOn 14 = .ok (.iload_n 2, 1) := by decide +kernel
theorem dX2_showOn_15 : decode cX2_showOn 15 = .ok (.iaload, 1) := by decide +kernel
theorem dX2_showOn_16 : decode cX2_showOn 16 = .ok (.iload_n 1, 1) := by decide +kernel
theorem dX2_showOn_17 : decode cX2_showOn 17 = .ok (.if_icmp .ne 5, 3) := by decide +kernel
theorem dX2_showOn_20 : decode cX2_showOn 20 = .ok (.iload_n 2, 1) := by decide +kernel
theorem dX2_showOn_21 : decode cX2_showOn 21 = .ok (.ireturn, 1) := by decide +kernel
theorem dX2_showOn_22 : decode cX2_showOn 22 = .ok (.iinc 2 1, 3) := by decide +kernel
theorem dX2_showOn_25 : decode cX2_showOn 25 = .ok (.goto (-23), 3) := by decide +kernel
theorem dX2_showOn_28 : decode cX2_showOn 28 = .ok (.iconst (-1), 1) := by decide +kernel
theorem dX2_showOn_29 : decode cX2_showOn 29 = .ok (.ireturn, 1) := by decide +kernel
theorem dX2_add_0 : decode cX2_add 0 = .ok (.aload_n 0, 1) := by decide +kernel
theorem dX2_add_1 : decode cX2_add 1 = .ok (.getfield 18, 3) := by decide +kernel
theorem dX2_add_4 : decode cX2_add 4 = .ok (.aload_n 0, 1) := by decide +kernel
theorem dX2_add_5 : decode cX2_add 5 = .ok (.getfield 21, 3) := by decide +kernel
theorem dX2_add_8 : decode cX2_add 8 = .ok (.iload_n 1, 1) := by decide +kernel
theorem dX2_add_9 : decode cX2_add 9 = .ok (.iastore, 1) := by decide +kernel
theorem dX2_add_10 : decode cX2_add 10 = .ok (.aload_n 0, 1) := by decide +kernel
theorem dX2_add_11 : decode cX2_add 11 = .ok (.getfield 9, 3) := by decide +kernel
theorem dX2_add_14 : decode cX2_add 14 = .ok (.aload_n 0, 1) := by decide +kernel
theorem dX2_add_15 : decode cX2_add 15 = .ok (.getfield 21, 3) := by decide +kernel
theorem dX2_add_18 : decode cX2_add 18 = .ok (.iconst 0, 1) := by decide +kernel
theorem dX2_add_19 : decode cX2_add 19 = .ok (.iastore, 1) := by decide +kernel
theorem dX2_add_20 : decode cX2_add 20 = .ok (.aload_n 0, 1) := by decide +kernel
theorem dX2_add_21 : decode cX2_add 21 = .ok (.dup, 1) := by decide +kernel
theorem dX2_add_22 : decode cX2_add 22 = .ok (.getfield 21, 3) := by decide +kernel
theorem dX2_add_25 : decode cX2_add 25 = .ok (.iconst 1, 1) := by decide +kernel
theorem dX2_add_26 : decode cX2_add 26 = .ok (.iadd, 1) := by decide +kernel
theorem dX2_add_27 : decode cX2_add 27 = .ok (.putfield 21, 3) := by decide +kernel
theorem dX2_add_30 : decode cX2_add 30 = .ok (.aload_n 0, 1) := by decide +kernel
theorem dX2_add_31 : decode cX2_add 31 = .ok (.getfield 21, 3) := by decide +kernel
theorem dX2_add_34 : decode cX2_add 34 = .ok (.iconst 1, 1) := by decide +kernel
theorem dX2_add_35 : decode cX2_add 35 = .ok (.isub, 1) := by decide +kernel
theorem dX2_add_36 : decode cX2_add 36 = .ok (.ireturn, 1) := by decide +kernel
theorem dX3_init_0 : decode cX3_init 0 = .ok (.aload_n 0, 1) := by decide +kernel
theorem dX3_init_1 : decode cX3_init 1 = .ok (.invokespecial 3, 3) := by decide +kernel
theorem dX3_init_4 : decode cX3_init 4 = .ok (.aload_n 0, 1) := by decide +kernel
theorem dX3_init_5 : decode cX3_init 5 = .ok (.bipush 32, 2) := by decide +kernel
theorem dX3_init_7 : decode cX3_init 7 = .ok (.newarray .int, 2) := by decide +kernel
theorem dX3_init_9 : decode cX3_init 9 = .ok (.putfield 9, 3) := by decide +kernel
theorem dX3_init_12 : decode cX3_init 12 = .ok (.aload_n 0, 1) := by decide +kernel
theorem dX3_init_13 : decode cX3_init 13 = .ok (.bipush 8, 2) := by decide +kernel
theorem dX3_init_15 : decode cX3_init 15 = .ok (.newarray .int, 2) := by decide +kernel
theorem dX3_init_17 : decode cX3_init 17 = .ok (.putfield 15, 3) := by decide +kernel
theorem dX3_init_20 : decode cX3_init 20 = .ok (.return_, 1) := by decide +kernel
theorem dX3_actorAt_0 : decode cX3_actorAt 0 = .ok (.iload_n 2, 1) := by decide +kernel
theorem dX3_actorAt_1 : decode cX3_actorAt 1 = .ok (.aload_n 0, 1) := by decide +kernel
theorem dX3_actorAt_2 : decode cX3_actorAt 2 = .ok (.getfield 15, 3) := by decide +kernel
theorem dX3_actorAt_5 : decode cX3_actorAt 5 = .ok (.iload_n 1, 1) := by decide +kernel
theorem dX3_actorAt_6 : decode cX3_actorAt 6 = .ok (.iaload, 1) := by decide +kernel
theorem dX3_actorAt_7 : decode cX3_actorAt 7 = .ok (.if_icmp .ge 16, 3) := by decide +kernel
theorem dX3_actorAt_10 : decode cX3_actorAt 10 = .ok (.aload_n 0, 1) := by decide +kernel
theorem dX3_actorAt_11 : decode cX3_actorAt 11 = .ok (.getfield 9, 3) := by decide +kernel
theorem dX3_actorAt_14 : decode cX3_actorAt 14 = .ok (.iload_n 1, 1) := by decide +kernel
theorem dX3_actorAt_15 : decode cX3_actorAt 15 = .ok (.iconst 4, 1) := by decide +kernel
theorem dX3_actorAt_16 : decode cX3_actorAt 16 = .ok (.imul, 1) := by decide +kernel
theorem dX3_actorAt_17 : decode cX3_actorAt 17 = .ok (.iload_n 2, 1) := by decide +kernel
theorem dX3_actorAt_18 : decode cX3_actorAt 18 = .ok (.iadd, 1) := by decide +kernel
theorem dX3_actorAt_19 : decode cX3_actorAt 19 = .ok (.iaload, 1) := by decide +kernel
theorem dX3_actorAt_20 : decode cX3_actorAt 20 = .ok (.goto 4, 3) := by decide +kernel
theorem dX3_actorAt_23 : decode cX3_actorAt 23 = .ok (.iconst (-1), 1) := by decide +kernel
theorem dX3_actorAt_24 : decode cX3_actorAt 24 = .ok (.ireturn, 1) := by decide +kernel
theorem dX3_rankIn_0 : decode cX3_rankIn 0 = .ok (.iconst 0, 1) := by decide +kernel
theorem dX3_rankIn_1 : decode cX3_rankIn 1 = .ok (.istore_n 3, 1) := by decide +kernel
theorem dX3_rankIn_2 : decode cX3_rankIn 2 = .ok (.iload_n 3, 1) := by decide +kernel
theorem dX3_rankIn_3 : decode cX3_rankIn 3 = .ok (.aload_n 0, 1) := by decide +kernel
theorem dX3_rankIn_4 : decode cX3_rankIn 4 = .ok (.getfield 15, 3) := by decide +kernel
theorem dX3_rankIn_7 : decode cX3_rankIn 7 = .ok (.iload_n 1, 1) := by decide +kernel
theorem dX3_rankIn_8 : decode cX3_rankIn 8 = .ok (.iaload, 1) := by decide +kernel
theorem dX3_rankIn_9 : decode cX3_rankIn 9 = .ok (.if_icmp .ge 25, 3) := by decide +kernel
theorem dX3_rankIn_12 : decode cX3_rankIn 12 = .ok (.aload_n 0, 1) := by decide +kernel
theorem dX3_rankIn_13 : decode cX3_rankIn 13 = .ok (.getfield 9, 3) := by decide +kernel
theorem dX3_rankIn_16 : decode cX3_rankIn 16 = .ok (.iload_n 1, 1) := by decide +kernel
theorem dX3_rankIn_17 : decode cX3_rankIn 17 = .ok (.iconst 4, 1) := by decide +kernel
theorem dX3_rankIn_18 : decode cX3_rankIn 18 = .ok (.imul, 1) := by decide +kernel
theorem dX3_rankIn_19 : decode cX3_rankIn 19 = .ok (.iload_n 3, 1) := by decide +kernel
theorem dX3_rankIn_20 : decode cX3_rankIn 20 = .ok (.iadd, 1) := by decide +kernel
theorem dX3_rankIn_21 : decode cX3_rankIn 21 = .ok (.iaload, 1) := by decide +kernel
theorem dX3_rankIn_22 : decode cX3_rankIn 22 = .ok (.iload_n 2, 1) := by decide +kernel
theorem dX3_rankIn_23 : decode cX3_rankIn 23 = .ok (.if_icmp .ne 5, 3) := by decide +kernel
theorem dX3_rankIn_26 : decode cX3_rankIn 26 = .ok (.iload_n 3, 1) := by decide +kernel
theorem dX3_rankIn_27 : decode cX3_rankIn 27 = .ok (.ireturn, 1) := by decide +kernel
theorem dX3_rankIn_28 : decode cX3_rankIn 28 = .ok (.iinc 3 1, 3) := by decide +kernel
theorem dX3_rankIn_31 : decode cX3_rankIn 31 = .ok (.goto (-29), 3) := by decide +kernel
theorem dX3_rankIn_34 : decode cX3_rankIn 34 = .ok (.iconst (-1), 1) := by decide +kernel
theorem dX3_rankIn_35 : decode cX3_rankIn 35 = .ok (.ireturn, 1) := by decide +kernel
theorem dX3_isFull_0 : decode cX3_isFull 0 = .ok (.aload_n 0, 1) := by decide +kernel
theorem dX3_isFull_1 : decode cX3_isFull 1 = .ok (.getfield 15, 3) := by decide +kernel
theorem dX3_isFull_4 : decode cX3_isFull 4 = .ok (.iload_n 1, 1) := by decide +kernel
theorem dX3_isFull_5 : decode cX3_isFull 5 = .ok (.iaload, 1) := by decide +kernel
theorem dX3_isFull_6 : decode cX3_isFull 6 = .ok (.iconst 4, 1) := by decide +kernel
theorem dX3_isFull_7 : decode cX3_isFull 7 = .ok (.if_icmp .lt 7, 3) := by decide +kernel
theorem dX3_isFull_10 : decode cX3_isFull 10 = .ok (.iconst 1, 1) := by decide +kernel
theorem dX3_isFull_11 : decode cX3_isFull 11 = .ok (.goto 4, 3) := by decide +kernel
theorem dX3_isFull_14 : decode cX3_isFull 14 = .ok (.iconst 0, 1) := by decide +kernel
theorem dX3_isFull_15 : decode cX3_isFull 15 = .ok (.ireturn, 1) := by decide +kernel
theorem dX3_append_0 : decode cX3_append 0 = .ok (.aload_n 0, 1) := by decide +kernel
theorem dX3_append_1 : decode cX3_append 1 = .ok (.getfield 15, 3) := by decide +kernel
theorem dX3_append_4 : decode cX3_append 4 = .ok (.iload_n 1, 1) := by decide +kernel
theorem dX3_append_5 : decode cX3_append 5 = .ok (.iaload, 1) := by decide +kernel
theorem dX3_append_6 : decode cX3_append 6 = .ok (.istore_n 3, 1) := by decide +kernel
theorem dX3_append_7 : decode cX3_append 7 = .ok (.aload_n 0, 1) := by decide +kernel
theorem dX3_append_8 : decode cX3_append 8 = .ok (.getfield 9, 3) := by decide +kernel
theorem dX3_append_11 : decode cX3_append 11 = .ok (.iload_n 1, 1) := by decide +kernel
theorem dX3_append_12 : decode cX3_append 12 = .ok (.iconst 4, 1) := by decide +kernel
theorem dX3_append_13 : decode cX3_append 13 = .ok (.imul, 1) := by decide +kernel
theorem dX3_append_14 : decode cX3_append 14 = .ok (.iload_n 3, 1) := by decide +kernel
theorem dX3_append_15 : decode cX3_append 15 = .ok (.iadd, 1) := by decide +kernel
theorem dX3_append_16 : decode cX3_append 16 = .ok (.iload_n 2, 1) := by decide +kernel
theorem dX3_append_17 : decode cX3_append 17 = .ok (.iastore, 1) := by decide +kernel
theorem dX3_append_18 : decode cX3_append 18 = .ok (.aload_n 0, 1) := by decide +kernel
theorem dX3_append_19 : decode cX3_append 19 = .ok (.getfield 15, 3) := by decide +kernel
theorem dX3_append_22 : decode cX3_append 22 = .ok (.iload_n 1, 1) := by decide +kernel
theorem dX3_append_23 : decode cX3_append 23 = .ok (.iload_n 3, 1) := by decide +kernel
theorem dX3_append_24 : decode cX3_append 24 = .ok (.iconst 1, 1) := by decide +kernel
theorem dX3_append_25 : decode cX3_append 25 = .ok (.iadd, 1) := by decide +kernel
theorem dX3_append_26 : decode cX3_append 26 = .ok (.iastore, 1) := by decide +kernel
theorem dX3_append_27 : decode cX3_append 27 = .ok (.iload_n 3, 1) := by decide +kernel
theorem dX3_append_28 : decode cX3_append 28 = .ok (.ireturn, 1) := by decide +kernel
theorem dX3_remove_0 : decode cX3_remove 0 = .ok (.iload_n 2, 1) := by decide +kernel
theorem dX3_remove_1 : decode cX3_remove 1 = .ok (.iconst 1, 1) := by decide +kernel
theorem dX3_remove_2 : decode cX3_remove 2 = .ok (.iadd, 1) := by decide +kernel
theorem dX3_remove_3 : decode cX3_remove 3 = .ok (.istore_n 3, 1) := by decide +kernel
theorem dX3_remove_4 : decode cX3_remove 4 = .ok (.iload_n 3, 1) := by decide +kernel
theorem dX3_remove_5 : decode cX3_remove 5 = .ok (.aload_n 0, 1) := by decide +kernel
theorem dX3_remove_6 : decode cX3_remove 6 = .ok (.getfield 15, 3) := by decide +kernel
theorem dX3_remove_9 : decode cX3_remove 9 = .ok (.iload_n 1, 1) := by decide +kernel
theorem dX3_remove_10 : decode cX3_remove 10 = .ok (.iaload, 1) := by decide +kernel
theorem dX3_remove_11 : decode cX3_remove 11 = .ok (.if_icmp .ge 31, 3) := by decide +kernel
theorem dX3_remove_14 : decode cX3_remove 14 = .ok (.aload_n 0, 1) := by decide +kernel
theorem dX3_remove_15 : decode cX3_remove 15 = .ok (.getfield 9, 3) := by decide +kernel
theorem dX3_remove_18 : decode cX3_remove 18 = .ok (.iload_n 1, 1) := by decide +kernel
theorem dX3_remove_19 : decode cX3_remove 19 = .ok (.iconst 4, 1) := by decide +kernel
theorem dX3_remove_20 : decode cX3_remove 20 = .ok (.imul, 1) := by decide +kernel
theorem dX3_remove_21 : decode cX3_remove 21 = .ok (.iload_n 3, 1) := by decide +kernel
theorem dX3_remove_22 : decode cX3_remove 22 = .ok (.iadd, 1) := by decide +kernel
theorem dX3_remove_23 : decode cX3_remove 23 = .ok (.iconst 1, 1) := by decide +kernel
theorem dX3_remove_24 : decode cX3_remove 24 = .ok (.isub, 1) := by decide +kernel
theorem dX3_remove_25 : decode cX3_remove 25 = .ok (.aload_n 0, 1) := by decide +kernel
theorem dX3_remove_26 : decode cX3_remove 26 = .ok (.getfield 9, 3) := by decide +kernel
theorem dX3_remove_29 : decode cX3_remove 29 = .ok (.iload_n 1, 1) := by decide +kernel
theorem dX3_remove_30 : decode cX3_remove 30 = .ok (.iconst 4, 1) := by decide +kernel
theorem dX3_remove_31 : decode cX3_remove 31 = .ok (.imul, 1) := by decide +kernel
theorem dX3_remove_32 : decode cX3_remove 32 = .ok (.iload_n 3, 1) := by decide +kernel
theorem dX3_remove_33 : decode cX3_remove 33 = .ok (.iadd, 1) := by decide +kernel
theorem dX3_remove_34 : decode cX3_remove 34 = .ok (.iaload, 1) := by decide +kernel
theorem dX3_remove_35 : decode cX3_remove 35 = .ok (.iastore, 1) := by decide +kernel
theorem dX3_remove_36 : decode cX3_remove 36 = .ok (.iinc 3 1, 3) := by decide +kernel
theorem dX3_remove_39 : decode cX3_remove 39 = .ok (.goto (-35), 3) := by decide +kernel
theorem dX3_remove_42 : decode cX3_remove 42 = .ok (.aload_n 0, 1) := by decide +kernel
theorem dX3_remove_43 : decode cX3_remove 43 = .ok (.getfield 15, 3) := by decide +kernel
theorem dX3_remove_46 : decode cX3_remove 46 = .ok (.iload_n 1, 1) := by decide +kernel
theorem dX3_remove_47 : decode cX3_remove 47 = .ok (.dup2, 1) := by decide +kernel
theorem dX3_remove_48 : decode cX3_remove 48 = .ok (.iaload, 1) := by decide +kernel
theorem dX3_remove_49 : decode cX3_remove 49 = .ok (.iconst 1, 1) := by decide +kernel
theorem dX3_remove_50 : decode cX3_remove 50 = .ok (.isub, 1) := by decide +kernel
theorem dX3_remove_51 : decode cX3_remove 51 = .ok (.iastore, 1) := by decide +kernel
theorem dX3_remove_52 : decode cX3_remove 52 = .ok (.return_, 1) := by decide +kernel
theorem dX4_init_0 : decode cX4_init 0 = .ok (.aload_n 0, 1) := by decide +kernel
theorem dX4_init_1 : decode cX4_init 1 = .ok (.invokespecial 3, 3) := by decide +kernel
theorem dX4_init_4 : decode cX4_init 4 = .ok (.aload_n 0, 1) := by decide +kernel
theorem dX4_init_5 : decode cX4_init 5 = .ok (.bipush 12, 2) := by decide +kernel
theorem dX4_init_7 : decode cX4_init 7 = .ok (.newarray .int, 2) := by decide +kernel
theorem dX4_init_9 : decode cX4_init 9 = .ok (.putfield 9, 3) := by decide +kernel
theorem dX4_init_12 : decode cX4_init 12 = .ok (.aload_n 0, 1) := by decide +kernel
theorem dX4_init_13 : decode cX4_init 13 = .ok (.bipush 12, 2) := by decide +kernel
theorem dX4_init_15 : decode cX4_init 15 = .ok (.newarray .int, 2) := by decide +kernel
theorem dX4_init_17 : decode cX4_init 17 = .ok (.putfield 15, 3) := by decide +kernel
theorem dX4_init_20 : decode cX4_init 20 = .ok (.aload_n 0, 1) := by decide +kernel
theorem dX4_init_21 : decode cX4_init 21 = .ok (.sipush 1001, 3) := by decide +kernel
theorem dX4_init_24 : decode cX4_init 24 = .ok (.newarray .int, 2) := by decide +kernel
theorem dX4_init_26 : decode cX4_init 26 = .ok (.putfield 18, 3) := by decide +kernel
theorem dX4_init_29 : decode cX4_init 29 = .ok (.iconst 0, 1) := by decide +kernel
theorem dX4_init_30 : decode cX4_init 30 = .ok (.istore_n 1, 1) := by decide +kernel
theorem dX4_init_31 : decode cX4_init 31 = .ok (.iload_n 1, 1) := by decide +kernel
theorem dX4_init_32 : decode cX4_init 32 = .ok (.bipush 12, 2) := by decide +kernel
theorem dX4_init_34 : decode cX4_init 34 = .ok (.if_icmp .ge 16, 3) := by decide +kernel
theorem dX4_init_37 : decode cX4_init 37 = .ok (.aload_n 0, 1) := by decide +kernel
theorem dX4_init_38 : decode cX4_init 38 = .ok (.getfield 9, 3) := by decide +kernel
theorem dX4_init_41 : decode cX4_init 41 = .ok (.iload_n 1, 1) := by decide +kernel
theorem dX4_init_42 : decode cX4_init 42 = .ok (.iconst 5, 1) := by decide +kernel
theorem dX4_init_43 : decode cX4_init 43 = .ok (.iastore, 1) := by decide +kernel
theorem dX4_init_44 : decode cX4_init 44 = .ok (.iinc 1 1, 3) := by decide +kernel
theorem dX4_init_47 : decode cX4_init 47 = .ok (.goto (-16), 3) := by decide +kernel
theorem dX4_init_50 : decode cX4_init 50 = .ok (.return_, 1) := by decide +kernel
theorem dX4_fallIll_0 : decode cX4_fallIll 0 = .ok (.iconst 0, 1) := by decide +kernel
theorem dX4_fallIll_1 : decode cX4_fallIll 1 = .ok (.istore 4, 2) := by decide +kernel
theorem dX4_fallIll_3 : decode cX4_fallIll 3 = .ok (.iload_n 2, 1) := by decide +kernel
theorem dX4_fallIll_4 : decode cX4_fallIll 4 = .ok (.istore 5, 2) := by decide +kernel
theorem dX4_fallIll_6 : decode cX4_fallIll 6 = .ok (.iload 5, 2) := by decide +kernel
theorem dX4_fallIll_8 : decode cX4_fallIll 8 = .ok (.iload_n 3, 1) := by decide +kernel
theorem dX4_fallIll_9 : decode cX4_fallIll 9 = .ok (.if_icmp .gt 44, 3) := by decide +kernel
theorem dX4_fallIll_12 : decode cX4_fallIll 12 = .ok (.aload_n 0, 1) := by decide +kernel
theorem dX4_fallIll_13 : decode cX4_fallIll 13 = .ok (.getfield 18, 3) := by decide +kernel
theorem dX4_fallIll_16 : decode cX4_fallIll 16 = .ok (.iload 5, 2) := by decide +kernel
theorem dX4_fallIll_18 : decode cX4_fallIll 18 = .ok (.iaload, 1) := by decide +kernel
theorem dX4_fallIll_19 : decode cX4_fallIll 19 = .ok (.iload_n 1, 1) := by decide +kernel
theorem dX4_fallIll_20 : decode cX4_fallIll 20 = .ok (.invokestatic 21, 3) := by decide +kernel
theorem dX4_fallIll_23 : decode cX4_fallIll 23 = .ok (.ifCond .ne 24, 3) := by decide +kernel
theorem dX4_fallIll_26 : decode cX4_fallIll 26 = .ok (.aload_n 0, 1) := by decide +kernel
theorem dX4_fallIll_27 : decode cX4_fallIll 27 = .ok (.getfield 18, 3) := by decide +kernel
theorem dX4_fallIll_30 : decode cX4_fallIll 30 = .ok (.iload 5, 2) := by decide +kernel
theorem dX4_fallIll_32 : decode cX4_fallIll 32 = .ok (.aload_n 0, 1) := by decide +kernel
theorem dX4_fallIll_33 : decode cX4_fallIll 33 = .ok (.getfield 18, 3) := by decide +kernel
theorem dX4_fallIll_36 : decode cX4_fallIll 36 = .ok (.iload 5, 2) := by decide +kernel
theorem dX4_fallIll_38 : decode cX4_fallIll 38 = .ok (.iaload, 1) := by decide +kernel
theorem dX4_fallIll_39 : decode cX4_fallIll 39 = .ok (.iload_n 1, 1) := by decide +kernel
theorem dX4_fallIll_40 : decode cX4_fallIll 40 = .ok (.invokestatic 25, 3) := by decide +kernel
theorem dX4_fallIll_43 : decode cX4_fallIll 43 = .ok (.iastore, 1) := by decide +kernel
theorem dX4_fallIll_44 : decode cX4_fallIll 44 = .ok (.iinc 4 1, 3) := by decide +kernel
theorem dX4_fallIll_47 : decode cX4_fallIll 47 = .ok (.iinc 5 1, 3) := by decide +kernel
theorem dX4_fallIll_50 : decode cX4_fallIll 50 = .ok (.goto (-44), 3) := by decide +kernel
theorem dX4_fallIll_53 : decode cX4_fallIll 53 = .ok (.iload 4, 2) := by decide +kernel
theorem dX4_fallIll_55 : decode cX4_fallIll 55 = .ok (.ireturn, 1) := by decide +kernel
theorem dX5_init_0 : decode cX5_init 0 = .ok (.aload_n 0, 1) := by decide +kernel
theorem dX5_init_1 : decode cX5_init 1 = .ok (.invokespecial 3, 3) := by decide +kernel
theorem dX5_init_4 : decode cX5_init 4 = .ok (.aload_n 0, 1) := by decide +kernel
theorem dX5_init_5 : decode cX5_init 5 = .ok (.bipush 40, 2) := by decide +kernel
theorem dX5_init_7 : decode cX5_init 7 = .ok (.newarray .int, 2) := by decide +kernel
theorem dX5_init_9 : decode cX5_init 9 = .ok (.putfield 9, 3) := by decide +kernel
theorem dX5_init_12 : decode cX5_init 12 = .ok (.aload_n 0, 1) := by decide +kernel
theorem dX5_init_13 : decode cX5_init 13 = .ok (.bipush 40, 2) := by decide +kernel
theorem dX5_init_15 : decode cX5_init 15 = .ok (.newarray .int, 2) := by decide +kernel
theorem dX5_init_17 : decode cX5_init 17 = .ok (.putfield 15, 3) := by decide +kernel
theorem dX5_init_20 : decode cX5_init 20 = .ok (.aload_n 0, 1) := by decide +kernel
theorem dX5_init_21 : decode cX5_init 21 = .ok (.bipush 40, 2) := by decide +kernel
theorem dX5_init_23 : decode cX5_init 23 = .ok (.newarray .boolean, 2) := by decide +kernel
theorem dX5_init_25 : decode cX5_init 25 = .ok (.putfield 18, 3) := by decide +kernel
theorem dX5_init_28 : decode cX5_init 28 = .ok (.return_, 1) := by decide +kernel
theorem dX5_add_0 : decode cX5_add 0 = .ok (.aload_n 0, 1) := by decide +kernel
theorem dX5_add_1 : decode cX5_add 1 = .ok (.getfield 15, 3) := by decide +kernel
theorem dX5_add_4 : decode cX5_add 4 = .ok (.aload_n 0, 1) := by decide +kernel
theorem dX5_add_5 : decode cX5_add 5 = .ok (.getfield 22, 3) := by decide +kernel
theorem dX5_add_8 : decode cX5_add 8 = .ok (.iload_n 1, 1) := by decide +kernel
theorem dX5_add_9 : decode cX5_add 9 = .ok (.iastore, 1) := by decide +kernel
theorem dX5_add_10 : decode cX5_add 10 = .ok (.aload_n 0, 1) := by decide +kernel
theorem dX5_add_11 : decode cX5_add 11 = .ok (.getfield 9, 3) := by decide +kernel
theorem dX5_add_14 : decode cX5_add 14 = .ok (.aload_n 0, 1) := by decide +kernel
theorem dX5_add_15 : decode cX5_add 15 = .ok (.getfield 22, 3) := by decide +kernel
theorem dX5_add_18 : decode cX5_add 18 = .ok (.iload_n 2, 1) := by decide +kernel
theorem dX5_add_19 : decode cX5_add 19 = .ok (.iastore, 1) := by decide +kernel
theorem dX5_add_20 : decode cX5_add 20 = .ok (.aload_n 0, 1) := by decide +kernel
theorem dX5_add_21 : decode cX5_add 21 = .ok (.dup, 1) := by decide +kernel
theorem dX5_add_22 : decode cX5_add 22 = .ok (.getfield 22, 3) := by decide +kernel
theorem dX5_add_25 : decode cX5_add 25 = .ok (.iconst 1, 1) := by decide +kernel
theorem dX5_add_26 : decode cX5_add 26 = .ok (.iadd, 1) := by decide +kernel
theorem dX5_add_27 : decode cX5_add 27 = .ok (.putfield 22, 3) := by decide +kernel
theorem dX5_add_30 : decode cX5_add 30 = .ok (.aload_n 0, 1) := by decide +kernel
theorem dX5_add_31 : decode cX5_add 31 = .ok (.getfield 22, 3) := by decide +kernel
theorem dX5_add_34 : decode cX5_add 34 = .ok (.iconst 1, 1) := by decide +kernel
theorem dX5_add_35 : decode cX5_add 35 = .ok (.isub, 1) := by decide +kernel
theorem dX5_add_36 : decode cX5_add 36 = .ok (.ireturn, 1) := by decide +kernel
theorem dX5_lowestFitting_0 : decode cX5_lowestFitting 0 = .ok (.iconst 0, 1) := by decide +kernel
theorem dX5_lowestFitting_1 : decode cX5_lowestFitting 1 = .ok (.istore_n 3, 1) := by decide +kernel
theorem dX5_lowestFitting_2 : decode cX5_lowestFitting 2 = .ok (.iload_n 3, 1) := by decide +kernel
theorem dX5_lowestFitting_3 : decode cX5_lowestFitting 3 = .ok (.aload_n 0, 1) := by decide +kernel
theorem dX5_lowestFitting_4 : decode cX5_lowestFitting 4 = .ok (.getfield 22, 3) := by decide +kernel
theorem dX5_lowestFitting_7 : decode cX5_lowestFitting 7 = .ok (.if_icmp .ge 31, 3) := by decide +kernel
theorem dX5_lowestFitting_10 : decode cX5_lowestFitting 10 = .ok (.aload_n 0, 1) := by decide +kernel
theorem dX5_lowestFitting_11 : decode cX5_lowestFitting 11 = .ok (.getfield 15, 3) := by decide +kernel
theorem dX5_lowestFitting_14 : decode cX5_lowestFitting 14 = .ok (.iload_n 3, 1) := by decide +kernel
theorem dX5_lowestFitting_15 : decode cX5_lowestFitting 15 = .ok (.iaload, 1) := by decide +kernel
theorem dX5_lowestFitting_16 : decode cX5_lowestFitting 16 = .ok (.iload_n 1, 1) := by decide +kernel
theorem dX5_lowestFitting_17 : decode cX5_lowestFitting 17 = .ok (.if_icmp .ne 15, 3) := by decide +kernel
theorem dX5_lowestFitting_20 : decode cX5_lowestFitting 20 = .ok (.aload_n 0, 1) := by decide +kernel
theorem dX5_lowestFitting_21 : decode cX5_lowestFitting 21 = .ok (.getfield 9, 3) := by decide +kernel
theorem dX5_lowestFitting_24 : decode cX5_lowestFitting 24 = .ok (.iload_n 3, 1) := by decide +kernel
theorem dX5_lowestFitting_25 : decode cX5_lowestFitting 25 = .ok (.iaload, 1) := by decide +kernel
theorem dX5_lowestFitting_26 : decode cX5_lowestFitting 26 = .ok (.iload_n 2, 1) := by decide +kernel
theorem dX5_lowestFitting_27 : decode cX5_lowestFitting 27 = .ok (.if_icmp .ne 5, 3) := by decide +kernel
theorem dX5_lowestFitting_30 : decode cX5_lowestFitting 30 = .ok (.iload_n 3, 1) := by decide +kernel
theorem dX5_lowestFitting_31 : decode cX5_lowestFitting 31 = .ok (.ireturn, 1) := by decide +kernel
theorem dX5_lowestFitting_32 : decode cX5_lowestFitting 32 = .ok (.iinc 3 1, 3) := by decide +kernel
theorem dX5_lowestFitting_35 : decode cX5_lowestFitting 35 = .ok (.goto (-33), 3) := by decide +kernel
theorem dX5_lowestFitting_38 : decode cX5_lowestFitting 38 = .ok (.iconst (-1), 1) := by decide +kernel
theorem dX5_lowestFitting_39 : decode cX5_lowestFitting 39 = .ok (.ireturn, 1) := by decide +kernel
theorem dX5_lowestToLetOut_0 : decode cX5_lowestToLetOut 0 = .ok (.iconst 0, 1) := by decide +kernel
theorem dX5_lowestToLetOut_1 : decode cX5_lowestToLetOut 1 = .ok (.istore_n 3, 1) := by decide +kernel
theorem dX5_lowestToLetOut_2 : decode cX5_lowestToLetOut 2 = .ok (.iload_n 3, 1) := by decide +kernel
theorem dX5_lowestToLetOut_3 : decode cX5_lowestToLetOut 3 = .ok (.aload_n 0, 1) := by decide +kernel
theorem dX5_lowestToLetOut_4 : decode cX5_lowestToLetOut 4 = .ok (.getfield 22, 3) := by decide +kernel
theorem dX5_lowestToLetOut_7 : decode cX5_lowestToLetOut 7 = .ok (.if_icmp .ge 42, 3) := by decide +kernel
theorem dX5_lowestToLetOut_10 : decode cX5_lowestToLetOut 10 = .ok (.aload_n 0, 1) := by decide +kernel
theorem dX5_lowestToLetOut_11 : decode cX5_lowestToLetOut 11 = .ok (.getfield 15, 3) := by decide +kernel
theorem dX5_lowestToLetOut_14 : decode cX5_lowestToLetOut 14 = .ok (.iload_n 3, 1) := by decide +kernel
theorem dX5_lowestToLetOut_15 : decode cX5_lowestToLetOut 15 = .ok (.iaload, 1) := by decide +kernel
theorem dX5_lowestToLetOut_16 : decode cX5_lowestToLetOut 16 = .ok (.iload_n 1, 1) := by decide +kernel
theorem dX5_lowestToLetOut_17 : decode cX5_lowestToLetOut 17 = .ok (.if_icmp .ne 26, 3) := by decide +kernel
theorem dX5_lowestToLetOut_20 : decode cX5_lowestToLetOut 20 = .ok (.aload_n 0, 1) := by decide +kernel
theorem dX5_lowestToLetOut_21 : decode cX5_lowestToLetOut 21 = .ok (.getfield 9, 3) := by decide +kernel
theorem dX5_lowestToLetOut_24 : decode cX5_lowestToLetOut 24 = .ok (.iload_n 3, 1) := by decide +kernel
theorem dX5_lowestToLetOut_25 : decode cX5_lowestToLetOut 25 = .ok (.iaload, 1) := by decide +kernel
theorem dX5_lowestToLetOut_26 : decode cX5_lowestToLetOut 26 = .ok (.iconst 1, 1) := by decide +kernel
theorem dX5_lowestToLetOut_27 : decode cX5_lowestToLetOut 27 = .ok (.iadd, 1) := by decide +kernel
theorem dX5_lowestToLetOut_28 : decode cX5_lowestToLetOut 28 = .ok (.iload_n 2, 1) := by decide +kernel
theorem dX5_lowestToLetOut_29 : decode cX5_lowestToLetOut 29 = .ok (.if_icmp .ne 14, 3) := by decide +kernel
theorem dX5_lowestToLetOut_32 : decode cX5_lowestToLetOut 32 = .ok (.aload_n 0, 1) := by decide +kernel
theorem dX5_lowestToLetOut_33 : decode cX5_lowestToLetOut 33 = .ok (.getfield 18, 3) := by decide +kernel
theorem dX5_lowestToLetOut_36 : decode cX5_lowestToLetOut 36 = .ok (.iload_n 3, 1) := by decide +kernel
theorem dX5_lowestToLetOut_37 : decode cX5_lowestToLetOut 37 = .ok (.baload, 1) := by decide +kernel
theorem dX5_lowestToLetOut_38 : decode cX5_lowestToLetOut 38 = .ok (.ifCond .ne 5, 3) := by decide +kernel
theorem dX5_lowestToLetOut_41 : decode cX5_lowestToLetOut 41 = .ok (.iload_n 3, 1) := by decide +kernel
theorem dX5_lowestToLetOut_42 : decode cX5_lowestToLetOut 42 = .ok (.ireturn, 1) := by decide +kernel
theorem dX5_lowestToLetOut_43 : decode cX5_lowestToLetOut 43 = .ok (.iinc 3 1, 3) := by decide +kernel
theorem dX5_lowestToLetOut_46 : decode cX5_lowestToLetOut 46 = .ok (.goto (-44), 3) := by decide +kernel
theorem dX5_lowestToLetOut_49 : decode cX5_lowestToLetOut 49 = .ok (.iconst (-1), 1) := by decide +kernel
theorem dX5_lowestToLetOut_50 : decode cX5_lowestToLetOut 50 = .ok (.ireturn, 1) := by decide +kernel
theorem dX5_letOut_0 : decode cX5_letOut 0 = .ok (.iload_n 1, 1) := by decide +kernel
theorem dX5_letOut_1 : decode cX5_letOut 1 = .ok (.iconst (-1), 1) := by decide +kernel
theorem dX5_letOut_2 : decode cX5_letOut 2 = .ok (.if_icmp .eq 20, 3) := by decide +kernel
theorem dX5_letOut_5 : decode cX5_letOut 5 = .ok (.aload_n 0, 1) := by decide +kernel
theorem dX5_letOut_6 : decode cX5_letOut 6 = .ok (.getfield 9, 3) := by decide +kernel
theorem dX5_letOut_9 : decode cX5_letOut 9 = .ok (.iload_n 1, 1) := by decide +kernel
theorem dX5_letOut_10 : decode cX5_letOut 10 = .ok (.dup2, 1) := by decide +kernel
theorem dX5_letOut_11 : decode cX5_letOut 11 = .ok (.iaload, 1) := by decide +kernel
theorem dX5_letOut_12 : decode cX5_letOut 12 = .ok (.iconst 1, 1) := by decide +kernel
theorem dX5_letOut_13 : decode cX5_letOut 13 = .ok (.iadd, 1) := by decide +kernel
theorem dX5_letOut_14 : decode cX5_letOut 14 = .ok (.iastore, 1) := by decide +kernel
theorem dX5_letOut_15 : decode cX5_letOut 15 = .ok (.aload_n 0, 1) := by decide +kernel
theorem dX5_letOut_16 : decode cX5_letOut 16 = .ok (.getfield 18, 3) := by decide +kernel
theorem dX5_letOut_19 : decode cX5_letOut 19 = .ok (.iload_n 1, 1) := by decide +kernel
theorem dX5_letOut_20 : decode cX5_letOut 20 = .ok (.iconst 1, 1) := by decide +kernel
theorem dX5_letOut_21 : decode cX5_letOut 21 = .ok (.bastore, 1) := by decide +kernel
theorem dX5_letOut_22 : decode cX5_letOut 22 = .ok (.return_, 1) := by decide +kernel
theorem dX6_init_0 : decode cX6_init 0 = .ok (.aload_n 0, 1) := by decide +kernel
theorem dX6_init_1 : decode cX6_init 1 = .ok (.invokespecial 1, 3) := by decide +kernel
theorem dX6_init_4 : decode cX6_init 4 = .ok (.aload_n 0, 1) := by decide +kernel
theorem dX6_init_5 : decode cX6_init 5 = .ok (.new 7, 3) := by decide +kernel
theorem dX6_init_8 : decode cX6_init 8 = .ok (.dup, 1) := by decide +kernel
theorem dX6_init_9 : decode cX6_init 9 = .ok (.invokespecial 9, 3) := by decide +kernel
theorem dX6_init_12 : decode cX6_init 12 = .ok (.putfield 10, 3) := by decide +kernel
theorem dX6_init_15 : decode cX6_init 15 = .ok (.aload_n 0, 1) := by decide +kernel
theorem dX6_init_16 : decode cX6_init 16 = .ok (.new 16, 3) := by decide +kernel
theorem dX6_init_19 : decode cX6_init 19 = .ok (.dup, 1) := by decide +kernel
theorem dX6_init_20 : decode cX6_init 20 = .ok (.invokespecial 18, 3) := by decide +kernel
theorem dX6_init_23 : decode cX6_init 23 = .ok (.putfield 19, 3) := by decide +kernel
theorem dX6_init_26 : decode cX6_init 26 = .ok (.aload_n 0, 1) := by decide +kernel
theorem dX6_init_27 : decode cX6_init 27 = .ok (.new 23, 3) := by decide +kernel
theorem dX6_init_30 : decode cX6_init 30 = .ok (.dup, 1) := by decide +kernel
theorem dX6_init_31 : decode cX6_init 31 = .ok (.invokespecial 25, 3) := by decide +kernel
theorem dX6_init_34 : decode cX6_init 34 = .ok (.putfield 26, 3) := by decide +kernel
theorem dX6_init_37 : decode cX6_init 37 = .ok (.aload_n 0, 1) := by decide +kernel
theorem dX6_init_38 : decode cX6_init 38 = .ok (.new 30, 3) := by decide +kernel
theorem dX6_init_41 : decode cX6_init 41 = .ok (.dup, 1) := by decide +kernel
theorem dX6_init_42 : decode cX6_init 42 = .ok (.invokespecial 32, 3) := by decide +kernel
theorem dX6_init_45 : decode cX6_init 45 = .ok (.putfield 33, 3) := by decide +kernel
theorem dX6_init_48 : decode cX6_init 48 = .ok (.aload_n 0, 1) := by decide +kernel
theorem dX6_init_49 : decode cX6_init 49 = .ok (.new 37, 3) := by decide +kernel
theorem dX6_init_52 : decode cX6_init 52 = .ok (.dup, 1) := by decide +kernel
theorem dX6_init_53 : decode cX6_init 53 = .ok (.invokespecial 39, 3) := by decide +kernel
theorem dX6_init_56 : decode cX6_init 56 = .ok (.putfield 40, 3) := by decide +kernel
theorem dX6_init_59 : decode cX6_init 59 = .ok (.aload_n 0, 1) := by decide +kernel
theorem dX6_init_60 : decode cX6_init 60 = .ok (.new 44, 3) := by decide +kernel
theorem dX6_init_63 : decode cX6_init 63 = .ok (.dup, 1) := by decide +kernel
theorem dX6_init_64 : decode cX6_init 64 = .ok (.invokespecial 46, 3) := by decide +kernel
theorem dX6_init_67 : decode cX6_init 67 = .ok (.putfield 47, 3) := by decide +kernel
theorem dX6_init_70 : decode cX6_init 70 = .ok (.aload_n 0, 1) := by decide +kernel
theorem dX6_init_71 : decode cX6_init 71 = .ok (.iconst 1, 1) := by decide +kernel
theorem dX6_init_72 : decode cX6_init 72 = .ok (.putfield 51, 3) := by decide +kernel
theorem dX6_init_75 : decode cX6_init 75 = .ok (.aload_n 0, 1) := by decide +kernel
theorem dX6_init_76 : decode cX6_init 76 = .ok (.iconst 0, 1) := by decide +kernel
theorem dX6_init_77 : decode cX6_init 77 = .ok (.putfield 55, 3) := by decide +kernel
theorem dX6_init_80 : decode cX6_init 80 = .ok (.return_, 1) := by decide +kernel
theorem dX6_setParts_0 : decode cX6_setParts 0 = .ok (.iload_n 1, 1) := by decide +kernel
theorem dX6_setParts_1 : decode cX6_setParts 1 = .ok (.iconst 1, 1) := by decide +kernel
theorem dX6_setParts_2 : decode cX6_setParts 2 = .ok (.if_icmp .lt 9, 3) := by decide +kernel
theorem dX6_setParts_5 : decode cX6_setParts 5 = .ok (.iload_n 1, 1) := by decide +kernel
theorem dX6_setParts_6 : decode cX6_setParts 6 = .ok (.bipush 8, 2) := by decide +kernel
theorem dX6_setParts_8 : decode cX6_setParts 8 = .ok (.if_icmp .le 13, 3) := by decide +kernel
theorem dX6_setParts_11 : decode cX6_setParts 11 = .ok (.new 58, 3) := by decide +kernel
theorem dX6_setParts_14 : decode cX6_setParts 14 = .ok (.dup, 1) := by decide +kernel
theorem dX6_setParts_15 : decode cX6_setParts 15 = .ok (.ldc 60, 2) := by decide +kernel
theorem dX6_setParts_17 : decode cX6_setParts 17 = .ok (.invokespecial 62, 3) := by decide +kernel
theorem dX6_setParts_20 : decode cX6_setParts 20 = .ok (.athrow, 1) := by decide +kernel
theorem dX6_setParts_21 : decode cX6_setParts 21 = .ok (.aload_n 0, 1) := by decide +kernel
theorem dX6_setParts_22 : decode cX6_setParts 22 = .ok (.getfield 51, 3) := by decide +kernel
theorem dX6_setParts_25 : decode cX6_setParts 25 = .ok (.istore_n 2, 1) := by decide +kernel
theorem dX6_setParts_26 : decode cX6_setParts 26 = .ok (.aload_n 0, 1) := by decide +kernel
theorem dX6_setParts_27 : decode cX6_setParts 27 = .ok (.iload_n 1, 1) := by decide +kernel
theorem dX6_setParts_28 : decode cX6_setParts 28 = .ok (.putfield 51, 3) := by decide +kernel
theorem dX6_setParts_31 : decode cX6_setParts 31 = .ok (.iload_n 2, 1) := by decide +kernel
theorem dX6_setParts_32 : decode cX6_setParts 32 = .ok (.ireturn, 1) := by decide +kernel
theorem dX6_setSize_0 : decode cX6_setSize 0 = .ok (.iload_n 1, 1) := by decide +kernel
theorem dX6_setSize_1 : decode cX6_setSize 1 = .ok (.invokestatic 65, 3) := by decide +kernel
theorem dX6_setSize_4 : decode cX6_setSize 4 = .ok (.iload_n 2, 1) := by decide +kernel
theorem dX6_setSize_5 : decode cX6_setSize 5 = .ok (.invokestatic 69, 3) := by decide +kernel
theorem dX6_setSize_8 : decode cX6_setSize 8 = .ok (.aload_n 0, 1) := by decide +kernel
theorem dX6_setSize_9 : decode cX6_setSize 9 = .ok (.getfield 10, 3) := by decide +kernel
theorem dX6_setSize_12 : decode cX6_setSize 12 = .ok (.getfield 72, 3) := by decide +kernel
theorem dX6_setSize_15 : decode cX6_setSize 15 = .ok (.iload_n 1, 1) := by decide +kernel
theorem dX6_setSize_16 : decode cX6_setSize 16 = .ok (.iaload, 1) := by decide +kernel
theorem dX6_setSize_17 : decode cX6_setSize 17 = .ok (.istore_n 3, 1) := by decide +kernel
theorem dX6_setSize_18 : decode cX6_setSize 18 = .ok (.aload_n 0, 1) := by decide +kernel
theorem dX6_setSize_19 : decode cX6_setSize 19 = .ok (.getfield 10, 3) := by decide +kernel
theorem dX6_setSize_22 : decode cX6_setSize 22 = .ok (.getfield 72, 3) := by decide +kernel
theorem dX6_setSize_25 : decode cX6_setSize 25 = .ok (.iload_n 1, 1) := by decide +kernel
theorem dX6_setSize_26 : decode cX6_setSize 26 = .ok (.iload_n 2, 1) := by decide +kernel
theorem dX6_setSize_27 : decode cX6_setSize 27 = .ok (.iastore, 1) := by decide +kernel
theorem dX6_setSize_28 : decode cX6_setSize 28 = .ok (.iload_n 3, 1) := by decide +kernel
theorem dX6_setSize_29 : decode cX6_setSize 29 = .ok (.ireturn, 1) := by decide +kernel
theorem dX6_learn_0 : decode cX6_learn 0 = .ok (.iload_n 1, 1) := by decide +kernel
theorem dX6_learn_1 : decode cX6_learn 1 = .ok (.invokestatic 65, 3) := by decide +kernel
theorem dX6_learn_4 : decode cX6_learn 4 = .ok (.iload_n 2, 1) := by decide +kernel
theorem dX6_learn_5 : decode cX6_learn 5 = .ok (.invokestatic 76, 3) := by decide +kernel
theorem dX6_learn_8 : decode cX6_learn 8 = .ok (.iload_n 3, 1) := by decide +kernel
theorem dX6_learn_9 : decode cX6_learn 9 = .ok (.ifCond .eq 19, 3) := by decide +kernel
theorem dX6_learn_12 : decode cX6_learn 12 = .ok (.aload_n 0, 1) := by decide +kernel
theorem dX6_learn_13 : decode cX6_learn 13 = .ok (.getfield 10, 3) := by decide +kernel
theorem dX6_learn_16 : decode cX6_learn 16 = .ok (.getfield 79, 3) := by decide +kernel
theorem dX6_learn_19 : decode cX6_learn 19 = .ok (.iload_n 1, 1) := by decide +kernel
theorem dX6_learn_20 : decode cX6_learn 20 = .ok (.iaload, 1) := by decide +kernel
theorem dX6_learn_21 : decode cX6_learn 21 = .ok (.iload_n 2, 1) := by decide +kernel
theorem dX6_learn_22 : decode cX6_learn 22 = .ok (.invokestatic 82, 3) := by decide +kernel
theorem dX6_learn_25 : decode cX6_learn 25 = .ok (.goto 16, 3) := by decide +kernel
theorem dX6_learn_28 : decode cX6_learn 28 = .ok (.aload_n 0, 1) := by decide +kernel
theorem dX6_learn_29 : decode cX6_learn 29 = .ok (.getfield 10, 3) := by decide +kernel
theorem dX6_learn_32 : decode cX6_learn 32 = .ok (.getfield 79, 3) := by decide +kernel
theorem dX6_learn_35 : decode cX6_learn 35 = .ok (.iload_n 1, 1) := by decide +kernel
theorem dX6_learn_36 : decode cX6_learn 36 = .ok (.iaload, 1) := by decide +kernel
theorem dX6_learn_37 : decode cX6_learn 37 = .ok (.iload_n 2, 1) := by decide +kernel
theorem dX6_learn_38 : decode cX6_learn 38 = .ok (.invokestatic 86, 3) := by decide +kernel
theorem dX6_learn_41 : decode cX6_learn 41 = .ok (.istore 4, 2) := by decide +kernel
theorem dX6_learn_43 : decode cX6_learn 43 = .ok (.iload 4, 2) := by decide +kernel
theorem dX6_learn_45 : decode cX6_learn 45 = .ok (.invokestatic 89, 3) := by decide +kernel
theorem dX6_learn_48 : decode cX6_learn 48 = .ok (.istore 5, 2) := by decide +kernel
theorem dX6_learn_50 : decode cX6_learn 50 = .ok (.iload 5, 2) := by decide +kernel
theorem dX6_learn_52 : decode cX6_learn 52 = .ok (.iconst 4, 1) := by decide +kernel
theorem dX6_learn_53 : decode cX6_learn 53 = .ok (.if_icmp .le 13, 3) := by decide +kernel
theorem dX6_learn_56 : decode cX6_learn 56 = .ok (.new 95, 3) := by decide +kernel
theorem dX6_learn_59 : decode cX6_learn 59 = .ok (.dup, 1) := by decide +kernel
theorem dX6_learn_60 : decode cX6_learn 60 = .ok (.ldc 97, 2) := by decide +kernel
theorem dX6_learn_62 : decode cX6_learn 62 = .ok (.invokespecial 99, 3) := by decide +kernel
theorem dX6_learn_65 : decode cX6_learn 65 = .ok (.athrow, 1) := by decide +kernel
theorem dX6_learn_66 : decode cX6_learn 66 = .ok (.aload_n 0, 1) := by decide +kernel
theorem dX6_learn_67 : decode cX6_learn 67 = .ok (.getfield 10, 3) := by decide +kernel
theorem dX6_learn_70 : decode cX6_learn 70 = .ok (.getfield 79, 3) := by decide +kernel
theorem dX6_learn_73 : decode cX6_learn 73 = .ok (.iload_n 1, 1) := by decide +kernel
theorem dX6_learn_74 : decode cX6_learn 74 = .ok (.iload 4, 2) := by decide +kernel
theorem dX6_learn_76 : decode cX6_learn 76 = .ok (.iastore, 1) := by decide +kernel
theorem dX6_learn_77 : decode cX6_learn 77 = .ok (.iload 5, 2) := by decide +kernel
theorem dX6_learn_79 : decode cX6_learn 79 = .ok (.ireturn, 1) := by decide +kernel
theorem dX6_put_0 : decode cX6_put 0 = .ok (.iload_n 1, 1) := by decide +kernel
theorem dX6_put_1 : decode cX6_put 1 = .ok (.invokestatic 76, 3) := by decide +kernel
theorem dX6_put_4 : decode cX6_put 4 = .ok (.iload_n 2, 1) := by decide +kernel
theorem dX6_put_5 : decode cX6_put 5 = .ok (.invokestatic 65, 3) := by decide +kernel
theorem dX6_put_8 : decode cX6_put 8 = .ok (.aload_n 0, 1) := by decide +kernel
theorem dX6_put_9 : decode cX6_put 9 = .ok (.getfield 19, 3) := by decide +kernel
theorem dX6_put_12 : decode cX6_put 12 = .ok (.iload_n 1, 1) := by decide +kernel
theorem dX6_put_13 : decode cX6_put 13 = .ok (.iload_n 2, 1) := by decide +kernel
theorem dX6_put_14 : decode cX6_put 14 = .ok (.invokevirtual 100, 3) := by decide +kernel
theorem dX6_put_17 : decode cX6_put 17 = .ok (.iconst (-1), 1) := by decide +kernel
theorem dX6_put_18 : decode cX6_put 18 = .ok (.if_icmp .eq 13, 3) := by decide +kernel
theorem dX6_put_21 : decode cX6_put 21 = .ok (.new 95, 3) := by decide +kernel
theorem dX6_put_24 : decode cX6_put 24 = .ok (.dup, 1) := by decide +kernel
theorem dX6_put_25 : decode cX6_put 25 = .ok (.ldc 103, 2) := by decide +kernel
theorem dX6_put_27 : decode cX6_put 27 = .ok (.invokespecial 99, 3) := by decide +kernel
theorem dX6_put_30 : decode cX6_put 30 = .ok (.athrow, 1) := by decide +kernel
theorem dX6_put_31 : decode cX6_put 31 = .ok (.aload_n 0, 1) := by decide +kernel
theorem dX6_put_32 : decode cX6_put 32 = .ok (.getfield 19, 3) := by decide +kernel
theorem dX6_put_35 : decode cX6_put 35 = .ok (.iload_n 1, 1) := by decide +kernel
theorem dX6_put_36 : decode cX6_put 36 = .ok (.invokevirtual 105, 3) := by decide +kernel
theorem dX6_put_39 : decode cX6_put 39 = .ok (.ifCond .eq 13, 3) := by decide +kernel
theorem dX6_put_42 : decode cX6_put 42 = .ok (.new 95, 3) := by decide +kernel
theorem dX6_put_45 : decode cX6_put 45 = .ok (.dup, 1) := by decide +kernel
theorem dX6_put_46 : decode cX6_put 46 = .ok (.ldc 109, 2) := by decide +kernel
theorem dX6_put_48 : decode cX6_put 48 = .ok (.invokespecial 99, 3) := by decide +kernel
theorem dX6_put_51 : decode cX6_put 51 = .ok (.athrow, 1) := by decide +kernel
theorem dX6_put_52 : decode cX6_put 52 = .ok (.aload_n 0, 1) := by decide +kernel
theorem dX6_put_53 : decode cX6_put 53 = .ok (.getfield 19, 3) := by decide +kernel
theorem dX6_put_56 : decode cX6_put 56 = .ok (.iload_n 1, 1) := by decide +kernel
theorem dX6_put_57 : decode cX6_put 57 = .ok (.iload_n 2, 1) := by decide +kernel
theorem dX6_put_58 : decode cX6_put 58 = .ok (.invokevirtual 111, 3) := by decide +kernel
theorem dX6_put_61 : decode cX6_put 61 = .ok (.ireturn, 1) := by decide +kernel
theorem dX6_take_0 : decode cX6_take 0 = .ok (.iload_n 1, 1) := by decide +kernel
theorem dX6_take_1 : decode cX6_take 1 = .ok (.invokestatic 76, 3) := by decide +kernel
theorem dX6_take_4 : decode cX6_take 4 = .ok (.iload_n 2, 1) := by decide +kernel
theorem dX6_take_5 : decode cX6_take 5 = .ok (.invokestatic 65, 3) := by decide +kernel
theorem dX6_take_8 : decode cX6_take 8 = .ok (.aload_n 0, 1) := by decide +kernel
theorem dX6_take_9 : decode cX6_take 9 = .ok (.getfield 19, 3) := by decide +kernel
theorem dX6_take_12 : decode cX6_take 12 = .ok (.iload_n 1, 1) := by decide +kernel
theorem dX6_take_13 : decode cX6_take 13 = .ok (.iload_n 2, 1) := by decide +kernel
theorem dX6_take_14 : decode cX6_take 14 = .ok (.invokevirtual 100, 3) := by decide +kernel
theorem dX6_take_17 : decode cX6_take 17 = .ok (.istore_n 3, 1) := by decide +kernel
theorem dX6_take_18 : decode cX6_take 18 = .ok (.iload_n 3, 1) := by decide +kernel
theorem dX6_take_19 : decode cX6_take 19 = .ok (.iconst (-1), 1) := by decide +kernel
theorem dX6_take_20 : decode cX6_take 20 = .ok (.if_icmp .ne 13, 3) := by decide +kernel
theorem dX6_take_23 : decode cX6_take 23 = .ok (.new 95, 3) := by decide +kernel
theorem dX6_take_26 : decode cX6_take 26 = .ok (.dup, 1) := by decide +kernel
theorem dX6_take_27 : decode cX6_take 27 = .ok (.ldc 114, 2) := by decide +kernel
theorem dX6_take_29 : decode cX6_take 29 = .ok (.invokespecial 99, 3) := by decide +kernel
theorem dX6_take_32 : decode cX6_take 32 = .ok (.athrow, 1) := by decide +kernel
theorem dX6_take_33 : decode cX6_take 33 = .ok (.aload_n 0, 1) := by decide +kernel
theorem dX6_take_34 : decode cX6_take 34 = .ok (.getfield 19, 3) := by decide +kernel
theorem dX6_take_37 : decode cX6_take 37 = .ok (.iload_n 1, 1) := by decide +kernel
theorem dX6_take_38 : decode cX6_take 38 = .ok (.iload_n 3, 1) := by decide +kernel
theorem dX6_take_39 : decode cX6_take 39 = .ok (.invokevirtual 116, 3) := by decide +kernel
theorem dX6_take_42 : decode cX6_take 42 = .ok (.iload_n 3, 1) := by decide +kernel
theorem dX6_take_43 : decode cX6_take 43 = .ok (.ireturn, 1) := by decide +kernel
theorem dX6_costume_0 : decode cX6_costume 0 = .ok (.iload_n 1, 1) := by decide +kernel
theorem dX6_costume_1 : decode cX6_costume 1 = .ok (.invokestatic 76, 3) := by decide +kernel
theorem dX6_costume_4 : decode cX6_costume 4 = .ok (.iload_n 2, 1) := by decide +kernel
theorem dX6_costume_5 : decode cX6_costume 5 = .ok (.invokestatic 69, 3) := by decide +kernel
theorem dX6_costume_8 : decode cX6_costume 8 = .ok (.aload_n 0, 1) := by decide +kernel
theorem dX6_costume_9 : decode cX6_costume 9 = .ok (.getfield 26, 3) := by decide +kernel
theorem dX6_costume_12 : decode cX6_costume 12 = .ok (.getfield 120, 3) := by decide +kernel
theorem dX6_costume_15 : decode cX6_costume 15 = .ok (.bipush 40, 2) := by decide +kernel
theorem dX6_costume_17 : decode cX6_costume 17 = .ok (.if_icmp .lt 13, 3) := by decide +kernel
theorem dX6_costume_20 : decode cX6_costume 20 = .ok (.new 95, 3) := by decide +kernel
theorem dX6_costume_23 : decode cX6_costume 23 = .ok (.dup, 1) := by decide +kernel
theorem dX6_costume_24 : decode cX6_costume 24 = .ok (.ldc 123, 2) := by decide +kernel
theorem dX6_costume_26 : decode cX6_costume 26 = .ok (.invokespecial 99, 3) := by decide +kernel
theorem dX6_costume_29 : decode cX6_costume 29 = .ok (.athrow, 1) := by decide +kernel
theorem dX6_costume_30 : decode cX6_costume 30 = .ok (.aload_n 0, 1) := by decide +kernel
theorem dX6_costume_31 : decode cX6_costume 31 = .ok (.getfield 26, 3) := by decide +kernel
theorem dX6_costume_34 : decode cX6_costume 34 = .ok (.iload_n 1, 1) := by decide +kernel
theorem dX6_costume_35 : decode cX6_costume 35 = .ok (.iload_n 2, 1) := by decide +kernel
theorem dX6_costume_36 : decode cX6_costume 36 = .ok (.invokevirtual 125, 3) := by decide +kernel
theorem dX6_costume_39 : decode cX6_costume 39 = .ok (.ireturn, 1) := by decide +kernel
theorem dX6_sizeOf_0 : decode cX6_sizeOf 0 = .ok (.iload_n 1, 1) := by decide +kernel
theorem dX6_sizeOf_1 : decode cX6_sizeOf 1 = .ok (.aload_n 0, 1) := by decide +kernel
theorem dX6_sizeOf_2 : decode cX6_sizeOf 2 = .ok (.getfield 26, 3) := by decide +kernel
theorem dX6_sizeOf_5 : decode cX6_sizeOf 5 = .ok (.getfield 120, 3) := by decide +kernel
theorem dX6_sizeOf_8 : decode cX6_sizeOf 8 = .ok (.invokestatic 128, 3) := by decide +kernel
theorem dX6_sizeOf_11 : decode cX6_sizeOf 11 = .ok (.aload_n 0, 1) := by decide +kernel
theorem dX6_sizeOf_12 : decode cX6_sizeOf 12 = .ok (.getfield 26, 3) := by decide +kernel
theorem dX6_sizeOf_15 : decode cX6_sizeOf 15 = .ok (.getfield 131, 3) := by decide +kernel
theorem dX6_sizeOf_18 : decode cX6_sizeOf 18 = .ok (.iload_n 1, 1) := by decide +kernel
theorem dX6_sizeOf_19 : decode cX6_sizeOf 19 = .ok (.iaload, 1) := by decide +kernel
theorem dX6_sizeOf_20 : decode cX6_sizeOf 20 = .ok (.ireturn, 1) := by decide +kernel
theorem dX6_cold_0 : decode cX6_cold 0 = .ok (.iload_n 1, 1) := by decide +kernel
theorem dX6_cold_1 : decode cX6_cold 1 = .ok (.invokestatic 65, 3) := by decide +kernel
theorem dX6_cold_4 : decode cX6_cold 4 = .ok (.iload_n 2, 1) := by decide +kernel
theorem dX6_cold_5 : decode cX6_cold 5 = .ok (.aload_n 0, 1) := by decide +kernel
theorem dX6_cold_6 : decode cX6_cold 6 = .ok (.getfield 55, 3) := by decide +kernel
theorem dX6_cold_9 : decode cX6_cold 9 = .ok (.invokestatic 132, 3) := by decide +kernel
theorem dX6_cold_12 : decode cX6_cold 12 = .ok (.iload_n 3, 1) := by decide +kernel
theorem dX6_cold_13 : decode cX6_cold 13 = .ok (.iload_n 2, 1) := by decide +kernel
theorem dX6_cold_14 : decode cX6_cold 14 = .ok (.invokestatic 132, 3) := by decide +kernel
theorem dX6_cold_17 : decode cX6_cold 17 = .ok (.aload_n 0, 1) := by decide +kernel
theorem dX6_cold_18 : decode cX6_cold 18 = .ok (.getfield 10, 3) := by decide +kernel
theorem dX6_cold_21 : decode cX6_cold 21 = .ok (.iload_n 1, 1) := by decide +kernel
theorem dX6_cold_22 : decode cX6_cold 22 = .ok (.iload_n 2, 1) := by decide +kernel
theorem dX6_cold_23 : decode cX6_cold 23 = .ok (.iload_n 3, 1) := by decide +kernel
theorem dX6_cold_24 : decode cX6_cold 24 = .ok (.invokevirtual 135, 3) := by decide +kernel
theorem dX6_cold_27 : decode cX6_cold 27 = .ok (.ireturn, 1) := by decide +kernel
theorem dX6_isIll_0 : decode cX6_isIll 0 = .ok (.iload_n 1, 1) := by decide +kernel
theorem dX6_isIll_1 : decode cX6_isIll 1 = .ok (.invokestatic 65, 3) := by decide +kernel
theorem dX6_isIll_4 : decode cX6_isIll 4 = .ok (.iload_n 2, 1) := by decide +kernel
theorem dX6_isIll_5 : decode cX6_isIll 5 = .ok (.iconst 0, 1) := by decide +kernel
theorem dX6_isIll_6 : decode cX6_isIll 6 = .ok (.invokestatic 132, 3) := by decide +kernel
theorem dX6_isIll_9 : decode cX6_isIll 9 = .ok (.aload_n 0, 1) := by decide +kernel
theorem dX6_isIll_10 : decode cX6_isIll 10 = .ok (.getfield 10, 3) := by decide +kernel
theorem dX6_isIll_13 : decode cX6_isIll 13 = .ok (.getfield 139, 3) := by decide +kernel
theorem dX6_isIll_16 : decode cX6_isIll 16 = .ok (.iload_n 2, 1) := by decide +kernel
theorem dX6_isIll_17 : decode cX6_isIll 17 = .ok (.iaload, 1) := by decide +kernel
theorem dX6_isIll_18 : decode cX6_isIll 18 = .ok (.iload_n 1, 1) := by decide +kernel
theorem dX6_isIll_19 : decode cX6_isIll 19 = .ok (.invokestatic 142, 3) := by decide +kernel
theorem dX6_isIll_22 : decode cX6_isIll 22 = .ok (.ireturn, 1) := by decide +kernel
theorem dX6_canPlay_0 : decode cX6_canPlay 0 = .ok (.iload_n 1, 1) := by decide +kernel
theorem dX6_canPlay_1 : decode cX6_canPlay 1 = .ok (.invokestatic 65, 3) := by decide +kernel
theorem dX6_canPlay_4 : decode cX6_canPlay 4 = .ok (.iload_n 2, 1) := by decide +kernel
theorem dX6_canPlay_5 : decode cX6_canPlay 5 = .ok (.invokestatic 76, 3) := by decide +kernel
theorem dX6_canPlay_8 : decode cX6_canPlay 8 = .ok (.iload_n 3, 1) := by decide +kernel
theorem dX6_canPlay_9 : decode cX6_canPlay 9 = .ok (.iconst 0, 1) := by decide +kernel
theorem dX6_canPlay_10 : decode cX6_canPlay 10 = .ok (.invokestatic 132, 3) := by decide +kernel
theorem dX6_canPlay_13 : decode cX6_canPlay 13 = .ok (.aload_n 0, 1) := by decide +kernel
theorem dX6_canPlay_14 : decode cX6_canPlay 14 = .ok (.getfield 19, 3) := by decide +kernel
theorem dX6_canPlay_17 : decode cX6_canPlay 17 = .ok (.iload_n 2, 1) := by decide +kernel
theorem dX6_canPlay_18 : decode cX6_canPlay 18 = .ok (.iload_n 1, 1) := by decide +kernel
theorem dX6_canPlay_19 : decode cX6_canPlay 19 = .ok (.invokevirtual 100, 3) := by decide +kernel
theorem dX6_canPlay_22 : decode cX6_canPlay 22 = .ok (.iconst (-1), 1) := by decide +kernel
theorem dX6_canPlay_23 : decode cX6_canPlay 23 = .ok (.if_icmp .eq 25, 3) := by decide +kernel
theorem dX6_canPlay_26 : decode cX6_canPlay 26 = .ok (.aload_n 0, 1) := by decide +kernel
theorem dX6_canPlay_27 : decode cX6_canPlay 27 = .ok (.iload_n 1, 1) := by decide +kernel
theorem dX6_canPlay_28 : decode cX6_canPlay 28 = .ok (.iload_n 2, 1) := by decide +kernel
theorem dX6_canPlay_29 : decode cX6_canPlay 29 = .ok (.aload_n 0, 1) := by decide +kernel
theorem dX6_canPlay_30 : decode cX6_canPlay 30 = .ok (.getfield 10, 3) := by decide +kernel
theorem dX6_canPlay_33 : decode cX6_canPlay 33 = .ok (.getfield 139, 3) := by decide +kernel
theorem dX6_canPlay_36 : decode cX6_canPlay 36 = .ok (.iload_n 3, 1) := by decide +kernel
theorem dX6_canPlay_37 : decode cX6_canPlay 37 = .ok (.iaload, 1) := by decide +kernel
theorem dX6_canPlay_38 : decode cX6_canPlay 38 = .ok (.invokevirtual 146, 3) := by decide +kernel
theorem dX6_canPlay_41 : decode cX6_canPlay 41 = .ok (.ifCond .eq 7, 3) := by decide +kernel
theorem dX6_canPlay_44 : decode cX6_canPlay 44 = .ok (.iconst 1, 1) := by decide +kernel
theorem dX6_canPlay_45 : decode cX6_canPlay 45 = .ok (.goto 4, 3) := by decide +kernel
theorem dX6_canPlay_48 : decode cX6_canPlay 48 = .ok (.iconst 0, 1) := by decide +kernel
theorem dX6_canPlay_49 : decode cX6_canPlay 49 = .ok (.ireturn, 1) := by decide +kernel
theorem dX6_strain_0 : decode cX6_strain 0 = .ok (.iload_n 1, 1) := by decide +kernel
theorem dX6_strain_1 : decode cX6_strain 1 = .ok (.iconst 0, 1) := by decide +kernel
theorem dX6_strain_2 : decode cX6_strain 2 = .ok (.invokestatic 132, 3) := by decide +kernel
theorem dX6_strain_5 : decode cX6_strain 5 = .ok (.aload_n 0, 1) := by decide +kernel
theorem dX6_strain_6 : decode cX6_strain 6 = .ok (.aload_n 0, 1) := by decide +kernel
theorem dX6_strain_7 : decode cX6_strain 7 = .ok (.getfield 10, 3) := by decide +kernel
theorem dX6_strain_10 : decode cX6_strain 10 = .ok (.getfield 139, 3) := by decide +kernel
theorem dX6_strain_13 : decode cX6_strain 13 = .ok (.iload_n 1, 1) := by decide +kernel
theorem dX6_strain_14 : decode cX6_strain 14 = .ok (.iaload, 1) := by decide +kernel
theorem dX6_strain_15 : decode cX6_strain 15 = .ok (.invokevirtual 150, 3) := by decide +kernel
theorem dX6_strain_18 : decode cX6_strain 18 = .ok (.istore_n 2, 1) := by decide +kernel
theorem dX6_strain_19 : decode cX6_strain 19 = .ok (.iload_n 2, 1) := by decide +kernel
theorem dX6_strain_20 : decode cX6_strain 20 = .ok (.iconst (-1), 1) := by decide +kernel
theorem dX6_strain_21 : decode cX6_strain 21 = .ok (.if_icmp .ne 7, 3) := by decide +kernel
theorem dX6_strain_24 : decode cX6_strain 24 = .ok (.iconst (-1), 1) := by decide +kernel
theorem dX6_strain_25 : decode cX6_strain 25 = .ok (.goto 7, 3) := by decide +kernel
theorem dX6_strain_28 : decode cX6_strain 28 = .ok (.iload_n 2, 1) := by decide +kernel
theorem dX6_strain_29 : decode cX6_strain 29 = .ok (.invokestatic 153, 3) := by decide +kernel
theorem dX6_strain_32 : decode cX6_strain 32 = .ok (.ireturn, 1) := by decide +kernel
theorem dX6_strainByAll_0 : decode cX6_strainByAll 0 = .ok (.iload_n 1, 1) := by decide +kernel
theorem dX6_strainByAll_1 : decode cX6_strainByAll 1 = .ok (.iconst 0, 1) := by decide +kernel
theorem dX6_strainByAll_2 : decode cX6_strainByAll 2 = .ok (.invokestatic 132, 3) := by decide +kernel
theorem dX6_strainByAll_5 : decode cX6_strainByAll 5 = .ok (.aload_n 0, 1) := by decide +kernel
theorem dX6_strainByAll_6 : decode cX6_strainByAll 6 = .ok (.aload_n 0, 1) := by decide +kernel
theorem dX6_strainByAll_7 : decode cX6_strainByAll 7 = .ok (.getfield 10, 3) := by decide +kernel
theorem dX6_strainByAll_10 : decode cX6_strainByAll 10 = .ok (.getfield 139, 3) := by decide +kernel
theorem dX6_strainByAll_13 : decode cX6_strainByAll 13 = .ok (.iload_n 1, 1) := by decide +kernel
theorem dX6_strainByAll_14 : decode cX6_strainByAll 14 = .ok (.iaload, 1) := by decide +kernel
theorem dX6_strainByAll_15 : decode cX6_strainByAll 15 = .ok (.invokevirtual 156, 3) := by decide +kernel
theorem dX6_strainByAll_18 : decode cX6_strainByAll 18 = .ok (.aload_n 0, 1) := by decide +kernel
theorem dX6_strainByAll_19 : decode cX6_strainByAll 19 = .ok (.getfield 33, 3) := by decide +kernel
theorem dX6_strainByAll_22 : decode cX6_strainByAll 22 = .ok (.aload_n 0, 1) := by decide +kernel
theorem dX6_strainByAll_23 : decode cX6_strainByAll 23 = .ok (.getfield 51, 3) := by decide +kernel
theorem dX6_strainByAll_26 : decode cX6_strainByAll 26 = .ok (.invokevirtual 159, 3) := by decide +kernel
theorem dX6_strainByAll_29 : decode cX6_strainByAll 29 = .ok (.ireturn, 1) := by decide +kernel
theorem dX6_work_0 : decode cX6_work 0 = .ok (.iload_n 1, 1) := by decide +kernel
theorem dX6_work_1 : decode cX6_work 1 = .ok (.iconst 0, 1) := by decide +kernel
theorem dX6_work_2 : decode cX6_work 2 = .ok (.invokestatic 132, 3) := by decide +kernel
theorem dX6_work_5 : decode cX6_work 5 = .ok (.aload_n 0, 1) := by decide +kernel
theorem dX6_work_6 : decode cX6_work 6 = .ok (.aload_n 0, 1) := by decide +kernel
theorem dX6_work_7 : decode cX6_work 7 = .ok (.getfield 10, 3) := by decide +kernel
theorem dX6_work_10 : decode cX6_work 10 = .ok (.getfield 139, 3) := by decide +kernel
theorem dX6_work_13 : decode cX6_work 13 = .ok (.iload_n 1, 1) := by decide +kernel
theorem dX6_work_14 : decode cX6_work 14 = .ok (.iaload, 1) := by decide +kernel
theorem dX6_work_15 : decode cX6_work 15 = .ok (.invokevirtual 150, 3) := by decide +kernel
theorem dX6_work_18 : decode cX6_work 18 = .ok (.istore_n 2, 1) := by decide +kernel
theorem dX6_work_19 : decode cX6_work 19 = .ok (.iload_n 2, 1) := by decide +kernel
theorem dX6_work_20 : decode cX6_work 20 = .ok (.iconst (-1), 1) := by decide +kernel
theorem dX6_work_21 : decode cX6_work 21 = .ok (.if_icmp .ne 7, 3) := by decide +kernel
theorem dX6_work_24 : decode cX6_work 24 = .ok (.iconst (-1), 1) := by decide +kernel
theorem dX6_work_25 : decode cX6_work 25 = .ok (.goto 7, 3) := by decide +kernel
theorem dX6_work_28 : decode cX6_work 28 = .ok (.iload_n 2, 1) := by decide +kernel
theorem dX6_work_29 : decode cX6_work 29 = .ok (.invokestatic 162, 3) := by decide +kernel
theorem dX6_work_32 : decode cX6_work 32 = .ok (.ireturn, 1) := by decide +kernel
theorem dX6_actorFor_0 : decode cX6_actorFor 0 = .ok (.iload_n 2, 1) := by decide +kernel
theorem dX6_actorFor_1 : decode cX6_actorFor 1 = .ok (.invokestatic 76, 3) := by decide +kernel
theorem dX6_actorFor_4 : decode cX6_actorFor 4 = .ok (.iload_n 1, 1) := by decide +kernel
theorem dX6_actorFor_5 : decode cX6_actorFor 5 = .ok (.iconst 0, 1) := by decide +kernel
theorem dX6_actorFor_6 : decode cX6_actorFor 6 = .ok (.invokestatic 132, 3) := by decide +kernel
theorem dX6_actorFor_9 : decode cX6_actorFor 9 = .ok (.aload_n 0, 1) := by decide +kernel
theorem dX6_actorFor_10 : decode cX6_actorFor 10 = .ok (.aload_n 0, 1) := by decide +kernel
theorem dX6_actorFor_11 : decode cX6_actorFor 11 = .ok (.getfield 10, 3) := by decide +kernel
theorem dX6_actorFor_14 : decode cX6_actorFor 14 = .ok (.getfield 139, 3) := by decide +kernel
theorem dX6_actorFor_17 : decode cX6_actorFor 17 = .ok (.iload_n 1, 1) := by decide +kernel
theorem dX6_actorFor_18 : decode cX6_actorFor 18 = .ok (.iaload, 1) := by decide +kernel
theorem dX6_actorFor_19 : decode cX6_actorFor 19 = .ok (.invokevirtual 150, 3) := by decide +kernel
theorem dX6_actorFor_22 : decode cX6_actorFor 22 = .ok (.istore_n 3, 1) := by decide +kernel
theorem dX6_actorFor_23 : decode cX6_actorFor 23 = .ok (.iload_n 3, 1) := by decide +kernel
theorem dX6_actorFor_24 : decode cX6_actorFor 24 = .ok (.iconst (-1), 1) := by decide +kernel
theorem dX6_actorFor_25 : decode cX6_actorFor 25 = .ok (.if_icmp .eq 11, 3) := by decide +kernel
theorem dX6_actorFor_28 : decode cX6_actorFor 28 = .ok (.iload_n 2, 1) := by decide +kernel
theorem dX6_actorFor_29 : decode cX6_actorFor 29 = .ok (.aload_n 0, 1) := by decide +kernel
theorem dX6_actorFor_30 : decode cX6_actorFor 30 = .ok (.getfield 51, 3) := by decide +kernel
theorem dX6_actorFor_33 : decode cX6_actorFor 33 = .ok (.if_icmp .lt 7, 3) := by decide +kernel
theorem dX6_actorFor_36 : decode cX6_actorFor 36 = .ok (.iconst (-1), 1) := by decide +kernel
theorem dX6_actorFor_37 : decode cX6_actorFor 37 = .ok (.goto 9, 3) := by decide +kernel
theorem dX6_actorFor_40 : decode cX6_actorFor 40 = .ok (.aload_n 0, 1) := by decide +kernel
theorem dX6_actorFor_41 : decode cX6_actorFor 41 = .ok (.iload_n 3, 1) := by decide +kernel
theorem dX6_actorFor_42 : decode cX6_actorFor 42 = .ok (.iload_n 2, 1) := by decide +kernel
theorem dX6_actorFor_43 : decode cX6_actorFor 43 = .ok (.invokevirtual 165, 3) := by decide +kernel
theorem dX6_actorFor_46 : decode cX6_actorFor 46 = .ok (.ireturn, 1) := by decide +kernel
theorem dX6_chain_0 : decode cX6_chain 0 = .ok (.iload_n 1, 1) := by decide +kernel
theorem dX6_chain_1 : decode cX6_chain 1 = .ok (.invokestatic 65, 3) := by decide +kernel
theorem dX6_chain_4 : decode cX6_chain 4 = .ok (.iload_n 2, 1) := by decide +kernel
theorem dX6_chain_5 : decode cX6_chain 5 = .ok (.iconst 0, 1) := by decide +kernel
theorem dX6_chain_6 : decode cX6_chain 6 = .ok (.invokestatic 132, 3) := by decide +kernel
theorem dX6_chain_9 : decode cX6_chain 9 = .ok (.aload_n 0, 1) := by decide +kernel
theorem dX6_chain_10 : decode cX6_chain 10 = .ok (.aload_n 0, 1) := by decide +kernel
theorem dX6_chain_11 : decode cX6_chain 11 = .ok (.getfield 10, 3) := by decide +kernel
theorem dX6_chain_14 : decode cX6_chain 14 = .ok (.getfield 139, 3) := by decide +kernel
theorem dX6_chain_17 : decode cX6_chain 17 = .ok (.iload_n 2, 1) := by decide +kernel
theorem dX6_chain_18 : decode cX6_chain 18 = .ok (.iaload, 1) := by decide +kernel
theorem dX6_chain_19 : decode cX6_chain 19 = .ok (.invokevirtual 150, 3) := by decide +kernel
theorem dX6_chain_22 : decode cX6_chain 22 = .ok (.istore_n 3, 1) := by decide +kernel
theorem dX6_chain_23 : decode cX6_chain 23 = .ok (.aload_n 0, 1) := by decide +kernel
theorem dX6_chain_24 : decode cX6_chain 24 = .ok (.aload_n 0, 1) := by decide +kernel
theorem dX6_chain_25 : decode cX6_chain 25 = .ok (.getfield 10, 3) := by decide +kernel
theorem dX6_chain_28 : decode cX6_chain 28 = .ok (.getfield 139, 3) := by decide +kernel
theorem dX6_chain_31 : decode cX6_chain 31 = .ok (.iload_n 2, 1) := by decide +kernel
theorem dX6_chain_32 : decode cX6_chain 32 = .ok (.iaload, 1) := by decide +kernel
theorem dX6_chain_33 : decode cX6_chain 33 = .ok (.iload_n 1, 1) := by decide +kernel
theorem dX6_chain_34 : decode cX6_chain 34 = .ok (.invokestatic 82, 3) := by decide +kernel
theorem dX6_chain_37 : decode cX6_chain 37 = .ok (.invokevirtual 150, 3) := by decide +kernel
theorem dX6_chain_40 : decode cX6_chain 40 = .ok (.istore 4, 2) := by decide +kernel
theorem dX6_chain_42 : decode cX6_chain 42 = .ok (.iload_n 3, 1) := by decide +kernel
theorem dX6_chain_43 : decode cX6_chain 43 = .ok (.iconst (-1), 1) := by decide +kernel
theorem dX6_chain_44 : decode cX6_chain 44 = .ok (.if_icmp .eq 9, 3) := by decide +kernel
theorem dX6_chain_47 : decode cX6_chain 47 = .ok (.iload 4, 2) := by decide +kernel
theorem dX6_chain_49 : decode cX6_chain 49 = .ok (.iconst (-1), 1) := by decide +kernel
theorem dX6_chain_50 : decode cX6_chain 50 = .ok (.if_icmp .ne 7, 3) := by decide +kernel
theorem dX6_chain_53 : decode cX6_chain 53 = .ok (.iconst (-1), 1) := by decide +kernel
theorem dX6_chain_54 : decode cX6_chain 54 = .ok (.goto 10, 3) := by decide +kernel
theorem dX6_chain_57 : decode cX6_chain 57 = .ok (.aload_n 0, 1) := by decide +kernel
theorem dX6_chain_58 : decode cX6_chain 58 = .ok (.iload_n 3, 1) := by decide +kernel
theorem dX6_chain_59 : decode cX6_chain 59 = .ok (.iload 4, 2) := by decide +kernel
theorem dX6_chain_61 : decode cX6_chain 61 = .ok (.invokevirtual 168, 3) := by decide +kernel
theorem dX6_chain_64 : decode cX6_chain 64 = .ok (.ireturn, 1) := by decide +kernel
theorem dX6_show_0 : decode cX6_show 0 = .ok (.iload_n 1, 1) := by decide +kernel
theorem dX6_show_1 : decode cX6_show 1 = .ok (.aload_n 0, 1) := by decide +kernel
theorem dX6_show_2 : decode cX6_show 2 = .ok (.getfield 55, 3) := by decide +kernel
theorem dX6_show_5 : decode cX6_show 5 = .ok (.invokestatic 132, 3) := by decide +kernel
theorem dX6_show_8 : decode cX6_show 8 = .ok (.aload_n 0, 1) := by decide +kernel
theorem dX6_show_9 : decode cX6_show 9 = .ok (.getfield 40, 3) := by decide +kernel
theorem dX6_show_12 : decode cX6_show 12 = .ok (.iload_n 1, 1) := by decide +kernel
theorem dX6_show_13 : decode cX6_show 13 = .ok (.invokevirtual 171, 3) := by decide +kernel
theorem dX6_show_16 : decode cX6_show 16 = .ok (.iconst (-1), 1) := by decide +kernel
theorem dX6_show_17 : decode cX6_show 17 = .ok (.if_icmp .eq 13, 3) := by decide +kernel
theorem dX6_show_20 : decode cX6_show 20 = .ok (.new 95, 3) := by decide +kernel
theorem dX6_show_23 : decode cX6_show 23 = .ok (.dup, 1) := by decide +kernel
theorem dX6_show_24 : decode cX6_show 24 = .ok (.ldc 174, 2) := by decide +kernel
theorem dX6_show_26 : decode cX6_show 26 = .ok (.invokespecial 99, 3) := by decide +kernel
theorem dX6_show_29 : decode cX6_show 29 = .ok (.athrow, 1) := by decide +kernel
theorem dX6_show_30 : decode cX6_show 30 = .ok (.aload_n 0, 1) := by decide +kernel
theorem dX6_show_31 : decode cX6_show 31 = .ok (.getfield 40, 3) := by decide +kernel
theorem dX6_show_34 : decode cX6_show 34 = .ok (.getfield 176, 3) := by decide +kernel
theorem dX6_show_37 : decode cX6_show 37 = .ok (.bipush 40, 2) := by decide +kernel
theorem dX6_show_39 : decode cX6_show 39 = .ok (.if_icmp .lt 13, 3) := by decide +kernel
theorem dX6_show_42 : decode cX6_show 42 = .ok (.new 95, 3) := by decide +kernel
theorem dX6_show_45 : decode cX6_show 45 = .ok (.dup, 1) := by decide +kernel
theorem dX6_show_46 : decode cX6_show 46 = .ok (.ldc 177, 2) := by decide +kernel
theorem dX6_show_48 : decode cX6_show 48 = .ok (.invokespecial 99, 3) := by decide +kernel
theorem dX6_show_51 : decode cX6_show 51 = .ok (.athrow, 1) := by decide +kernel
theorem dX6_show_52 : decode cX6_show 52 = .ok (.aload_n 0, 1) := by decide +kernel
theorem dX6_show_53 : decode cX6_show 53 = .ok (.getfield 40, 3) := by decide +kernel
theorem dX6_show_56 : decode cX6_show 56 = .ok (.iload_n 1, 1) := by decide +kernel
theorem dX6_show_57 : decode cX6_show 57 = .ok (.invokevirtual 179, 3) := by decide +kernel
theorem dX6_show_60 : decode cX6_show 60 = .ok (.ireturn, 1) := by decide +kernel
theorem dX6_sell_0 : decode cX6_sell 0 = .ok (.iload_n 1, 1) := by decide +kernel
theorem dX6_sell_1 : decode cX6_sell 1 = .ok (.aload_n 0, 1) := by decide +kernel
theorem dX6_sell_2 : decode cX6_sell 2 = .ok (.getfield 40, 3) := by decide +kernel
theorem dX6_sell_5 : decode cX6_sell 5 = .ok (.getfield 176, 3) := by decide +kernel
theorem dX6_sell_8 : decode cX6_sell 8 = .ok (.invokestatic 128, 3) := by decide +kernel
theorem dX6_sell_11 : decode cX6_sell 11 = .ok (.iload 4, 2) := by decide +kernel
theorem dX6_sell_13 : decode cX6_sell 13 = .ok (.invokestatic 76, 3) := by decide +kernel
theorem dX6_sell_16 : decode cX6_sell 16 = .ok (.iload_n 2, 1) := by decide +kernel
theorem dX6_sell_17 : decode cX6_sell 17 = .ok (.iconst 1, 1) := by decide +kernel
theorem dX6_sell_18 : decode cX6_sell 18 = .ok (.if_icmp .lt 10, 3) := by decide +kernel
theorem dX6_sell_21 : decode cX6_sell 21 = .ok (.iload_n 2, 1) := by decide +kernel
theorem dX6_sell_22 : decode cX6_sell 22 = .ok (.sipush 1000, 3) := by decide +kernel
theorem dX6_sell_25 : decode cX6_sell 25 = .ok (.if_icmp .le 13, 3) := by decide +kernel
theorem dX6_sell_28 : decode cX6_sell 28 = .ok (.new 58, 3) := by decide +kernel
theorem dX6_sell_31 : decode cX6_sell 31 = .ok (.dup, 1) := by decide +kernel
theorem dX6_sell_32 : decode cX6_sell 32 = .ok (.ldc 181, 2) := by decide +kernel
theorem dX6_sell_34 : decode cX6_sell 34 = .ok (.invokespecial 62, 3) := by decide +kernel
theorem dX6_sell_37 : decode cX6_sell 37 = .ok (.athrow, 1) := by decide +kernel
theorem dX6_sell_38 : decode cX6_sell 38 = .ok (.iload_n 3, 1) := by decide +kernel
theorem dX6_sell_39 : decode cX6_sell 39 = .ok (.ifCond .lt 8, 3) := by decide +kernel
theorem dX6_sell_42 : decode cX6_sell 42 = .ok (.iload_n 3, 1) := by decide +kernel
theorem dX6_sell_43 : decode cX6_sell 43 = .ok (.iconst 3, 1) := by decide +kernel
theorem dX6_sell_44 : decode cX6_sell 44 = .ok (.if_icmp .le 13, 3) := by decide +kernel
theorem dX6_sell_47 : decode cX6_sell 47 = .ok (.new 58, 3) := by decide +kernel
theorem dX6_sell_50 : decode cX6_sell 50 = .ok (.dup, 1) := by decide +kernel
theorem dX6_sell_51 : decode cX6_sell 51 = .ok (.ldc 183, 2) := by decide +kernel
theorem dX6_sell_53 : decode cX6_sell 53 = .ok (.invokespecial 62, 3) := by decide +kernel
theorem dX6_sell_56 : decode cX6_sell 56 = .ok (.athrow, 1) := by decide +kernel
theorem dX6_sell_57 : decode cX6_sell 57 = .ok (.aload_n 0, 1) := by decide +kernel
theorem dX6_sell_58 : decode cX6_sell 58 = .ok (.getfield 40, 3) := by decide +kernel
theorem dX6_sell_61 : decode cX6_sell 61 = .ok (.getfield 185, 3) := by decide +kernel
theorem dX6_sell_64 : decode cX6_sell 64 = .ok (.iload_n 1, 1) := by decide +kernel
theorem dX6_sell_65 : decode cX6_sell 65 = .ok (.iaload, 1) := by decide +kernel
theorem dX6_sell_66 : decode cX6_sell 66 = .ok (.ifCond .eq 13, 3) := by decide +kernel
theorem dX6_sell_69 : decode cX6_sell 69 = .ok (.new 95, 3) := by decide +kernel
theorem dX6_sell_72 : decode cX6_sell 72 = .ok (.dup, 1) := by decide +kernel
theorem dX6_sell_73 : decode cX6_sell 73 = .ok (.ldc 188, 2) := by decide +kernel
theorem dX6_sell_75 : decode cX6_sell 75 = .ok (.invokespecial 99, 3) := by decide +kernel
theorem dX6_sell_78 : decode cX6_sell 78 = .ok (.athrow, 1) := by decide +kernel
theorem dX6_sell_79 : decode cX6_sell 79 = .ok (.aload_n 0, 1) := by decide +kernel
theorem dX6_sell_80 : decode cX6_sell 80 = .ok (.getfield 47, 3) := by decide +kernel
theorem dX6_sell_83 : decode cX6_sell 83 = .ok (.getfield 190, 3) := by decide +kernel
theorem dX6_sell_86 : decode cX6_sell 86 = .ok (.bipush 100, 2) := by decide +kernel
theorem dX6_sell_88 : decode cX6_sell 88 = .ok (.if_icmp .lt 13, 3) := by decide +kernel
theorem dX6_sell_91 : decode cX6_sell 91 = .ok (.new 95, 3) := by decide +kernel
theorem dX6_sell_94 : decode cX6_sell 94 = .ok (.dup, 1) := by decide +kernel
theorem dX6_sell_95 : decode cX6_sell 95 = .ok (.ldc 191, 2) := by decide +kernel
theorem dX6_sell_97 : decode cX6_sell 97 = .ok (.invokespecial 99, 3) := by decide +kernel
theorem dX6_sell_100 : decode cX6_sell 100 = .ok (.athrow, 1) := by decide +kernel
theorem dX6_sell_101 : decode cX6_sell 101 = .ok (.aload_n 0, 1) := by decide +kernel
theorem dX6_sell_102 : decode cX6_sell 102 = .ok (.getfield 19, 3) := by decide +kernel
theorem dX6_sell_105 : decode cX6_sell 105 = .ok (.iload 4, 2) := by decide +kernel
theorem dX6_sell_107 : decode cX6_sell 107 = .ok (.iconst 0, 1) := by decide +kernel
theorem dX6_sell_108 : decode cX6_sell 108 = .ok (.invokevirtual 193, 3) := by decide +kernel
theorem dX6_sell_111 : decode cX6_sell 111 = .ok (.istore 5, 2) := by decide +kernel
theorem dX6_sell_113 : decode cX6_sell 113 = .ok (.iload_n 3, 1) := by decide +kernel
theorem dX6_sell_114 : decode cX6_sell 114 = .ok (.iconst 1, 1) := by decide +kernel
theorem dX6_sell_115 : decode cX6_sell 115 = .ok (.if_icmp .ne 19, 3) := by decide +kernel
theorem dX6_sell_118 : decode cX6_sell 118 = .ok (.iload 5, 2) := by decide +kernel
theorem dX6_sell_120 : decode cX6_sell 120 = .ok (.iconst (-1), 1) := by decide +kernel
theorem dX6_sell_121 : decode cX6_sell 121 = .ok (.if_icmp .ne 13, 3) := by decide +kernel
theorem dX6_sell_124 : decode cX6_sell 124 = .ok (.new 95, 3) := by decide +kernel
theorem dX6_sell_127 : decode cX6_sell 127 = .ok (.dup, 1) := by decide +kernel
theorem dX6_sell_128 : decode cX6_sell 128 = .ok (.ldc 196, 2) := by decide +kernel
theorem dX6_sell_130 : decode cX6_sell 130 = .ok (.invokespecial 99, 3) := by decide +kernel
theorem dX6_sell_133 : decode cX6_sell 133 = .ok (.athrow, 1) := by decide +kernel
theorem dX6_sell_134 : decode cX6_sell 134 = .ok (.aload_n 0, 1) := by decide +kernel
theorem dX6_sell_135 : decode cX6_sell 135 = .ok (.getfield 47, 3) := by decide +kernel
theorem dX6_sell_138 : decode cX6_sell 138 = .ok (.iload_n 1, 1) := by decide +kernel
theorem dX6_sell_139 : decode cX6_sell 139 = .ok (.iload_n 2, 1) := by decide +kernel
theorem dX6_sell_140 : decode cX6_sell 140 = .ok (.iload_n 3, 1) := by decide +kernel
theorem dX6_sell_141 : decode cX6_sell 141 = .ok (.iload 4, 2) := by decide +kernel
theorem dX6_sell_143 : decode cX6_sell 143 = .ok (.iload 5, 2) := by decide +kernel
theorem dX6_sell_145 : decode cX6_sell 145 = .ok (.invokevirtual 198, 3) := by decide +kernel
theorem dX6_sell_148 : decode cX6_sell 148 = .ok (.ireturn, 1) := by decide +kernel
theorem dX6_play_0 : decode cX6_play 0 = .ok (.aload_n 0, 1) := by decide +kernel
theorem dX6_play_1 : decode cX6_play 1 = .ok (.getfield 55, 3) := by decide +kernel
theorem dX6_play_4 : decode cX6_play 4 = .ok (.sipush 1000, 3) := by decide +kernel
theorem dX6_play_7 : decode cX6_play 7 = .ok (.if_icmp .lt 13, 3) := by decide +kernel
theorem dX6_play_10 : decode cX6_play 10 = .ok (.new 95, 3) := by decide +kernel
theorem dX6_play_13 : decode cX6_play 13 = .ok (.dup, 1) := by decide +kernel
theorem dX6_play_14 : decode cX6_play 14 = .ok (.ldc 201, 2) := by decide +kernel
theorem dX6_play_16 : decode cX6_play 16 = .ok (.invokespecial 99, 3) := by decide +kernel
theorem dX6_play_19 : decode cX6_play 19 = .ok (.athrow, 1) := by decide +kernel
theorem dX6_play_20 : decode cX6_play 20 = .ok (.aload_n 0, 1) := by decide +kernel
theorem dX6_play_21 : decode cX6_play 21 = .ok (.getfield 40, 3) := by decide +kernel
theorem dX6_play_24 : decode cX6_play 24 = .ok (.aload_n 0, 1) := by decide +kernel
theorem dX6_play_25 : decode cX6_play 25 = .ok (.getfield 55, 3) := by decide +kernel
theorem dX6_play_28 : decode cX6_play 28 = .ok (.invokevirtual 171, 3) := by decide +kernel
theorem dX6_play_31 : decode cX6_play 31 = .ok (.istore_n 1, 1) := by decide +kernel
theorem dX6_play_32 : decode cX6_play 32 = .ok (.iload_n 1, 1) := by decide +kernel
theorem dX6_play_33 : decode cX6_play 33 = .ok (.iconst (-1), 1) := by decide +kernel
theorem dX6_play_34 : decode cX6_play 34 = .ok (.if_icmp .ne 7, 3) := by decide +kernel
theorem dX6_play_37 : decode cX6_play 37 = .ok (.iconst 0, 1) := by decide +kernel
theorem dX6_play_38 : decode cX6_play 38 = .ok (.goto 8, 3) := by decide +kernel
theorem dX6_play_41 : decode cX6_play 41 = .ok (.aload_n 0, 1) := by decide +kernel
theorem dX6_play_42 : decode cX6_play 42 = .ok (.iload_n 1, 1) := by decide +kernel
theorem dX6_play_43 : decode cX6_play 43 = .ok (.invokevirtual 203, 3) := by decide +kernel
theorem dX6_play_46 : decode cX6_play 46 = .ok (.istore_n 2, 1) := by decide +kernel
theorem dX6_play_47 : decode cX6_play 47 = .ok (.aload_n 0, 1) := by decide +kernel
theorem dX6_play_48 : decode cX6_play 48 = .ok (.dup, 1) := by decide +kernel
theorem dX6_play_49 : decode cX6_play 49 = .ok (.getfield 55, 3) := by decide +kernel
theorem dX6_play_52 : decode cX6_play 52 = .ok (.iconst 1, 1) := by decide +kernel
theorem dX6_play_53 : decode cX6_play 53 = .ok (.iadd, 1) := by decide +kernel
theorem dX6_play_54 : decode cX6_play 54 = .ok (.putfield 55, 3) := by decide +kernel
theorem dX6_play_57 : decode cX6_play 57 = .ok (.iload_n 2, 1) := by decide +kernel
theorem dX6_play_58 : decode cX6_play 58 = .ok (.ireturn, 1) := by decide +kernel
theorem dX6_day_0 : decode cX6_day 0 = .ok (.aload_n 0, 1) := by decide +kernel
theorem dX6_day_1 : decode cX6_day 1 = .ok (.getfield 55, 3) := by decide +kernel
theorem dX6_day_4 : decode cX6_day 4 = .ok (.ireturn, 1) := by decide +kernel
theorem dX6_stateOf_0 : decode cX6_stateOf 0 = .ok (.iload_n 1, 1) := by decide +kernel
theorem dX6_stateOf_1 : decode cX6_stateOf 1 = .ok (.aload_n 0, 1) := by decide +kernel
theorem dX6_stateOf_2 : decode cX6_stateOf 2 = .ok (.getfield 40, 3) := by decide +kernel
theorem dX6_stateOf_5 : decode cX6_stateOf 5 = .ok (.getfield 176, 3) := by decide +kernel
theorem dX6_stateOf_8 : decode cX6_stateOf 8 = .ok (.invokestatic 128, 3) := by decide +kernel
theorem dX6_stateOf_11 : decode cX6_stateOf 11 = .ok (.aload_n 0, 1) := by decide +kernel
theorem dX6_stateOf_12 : decode cX6_stateOf 12 = .ok (.getfield 40, 3) := by decide +kernel
theorem dX6_stateOf_15 : decode cX6_stateOf 15 = .ok (.getfield 185, 3) := by decide +kernel
theorem dX6_stateOf_18 : decode cX6_stateOf 18 = .ok (.iload_n 1, 1) := by decide +kernel
theorem dX6_stateOf_19 : decode cX6_stateOf 19 = .ok (.iaload, 1) := by decide +kernel
theorem dX6_stateOf_20 : decode cX6_stateOf 20 = .ok (.ireturn, 1) := by decide +kernel
theorem dX6_played_0 : decode cX6_played 0 = .ok (.iload_n 1, 1) := by decide +kernel
theorem dX6_played_1 : decode cX6_played 1 = .ok (.aload_n 0, 1) := by decide +kernel
theorem dX6_played_2 : decode cX6_played 2 = .ok (.getfield 40, 3) := by decide +kernel
theorem dX6_played_5 : decode cX6_played 5 = .ok (.getfield 176, 3) := by decide +kernel
theorem dX6_played_8 : decode cX6_played 8 = .ok (.invokestatic 128, 3) := by decide +kernel
theorem dX6_played_11 : decode cX6_played 11 = .ok (.iload_n 2, 1) := by decide +kernel
theorem dX6_played_12 : decode cX6_played 12 = .ok (.invokestatic 76, 3) := by decide +kernel
theorem dX6_played_15 : decode cX6_played 15 = .ok (.aload_n 0, 1) := by decide +kernel
theorem dX6_played_16 : decode cX6_played 16 = .ok (.getfield 40, 3) := by decide +kernel
theorem dX6_played_19 : decode cX6_played 19 = .ok (.getfield 206, 3) := by decide +kernel
theorem dX6_played_22 : decode cX6_played 22 = .ok (.iload_n 1, 1) := by decide +kernel
theorem dX6_played_23 : decode cX6_played 23 = .ok (.bipush 8, 2) := by decide +kernel
theorem dX6_played_25 : decode cX6_played 25 = .ok (.imul, 1) := by decide +kernel
theorem dX6_played_26 : decode cX6_played 26 = .ok (.iload_n 2, 1) := by decide +kernel
theorem dX6_played_27 : decode cX6_played 27 = .ok (.iadd, 1) := by decide +kernel
theorem dX6_played_28 : decode cX6_played 28 = .ok (.iaload, 1) := by decide +kernel
theorem dX6_played_29 : decode cX6_played 29 = .ok (.ireturn, 1) := by decide +kernel
theorem dX6_refund_0 : decode cX6_refund 0 = .ok (.iload_n 1, 1) := by decide +kernel
theorem dX6_refund_1 : decode cX6_refund 1 = .ok (.aload_n 0, 1) := by decide +kernel
theorem dX6_refund_2 : decode cX6_refund 2 = .ok (.getfield 47, 3) := by decide +kernel
theorem dX6_refund_5 : decode cX6_refund 5 = .ok (.getfield 190, 3) := by decide +kernel
theorem dX6_refund_8 : decode cX6_refund 8 = .ok (.invokestatic 128, 3) := by decide +kernel
theorem dX6_refund_11 : decode cX6_refund 11 = .ok (.aload_n 0, 1) := by decide +kernel
theorem dX6_refund_12 : decode cX6_refund 12 = .ok (.getfield 47, 3) := by decide +kernel
theorem dX6_refund_15 : decode cX6_refund 15 = .ok (.getfield 209, 3) := by decide +kernel
theorem dX6_refund_18 : decode cX6_refund 18 = .ok (.iload_n 1, 1) := by decide +kernel
theorem dX6_refund_19 : decode cX6_refund 19 = .ok (.iaload, 1) := by decide +kernel
theorem dX6_refund_20 : decode cX6_refund 20 = .ok (.ireturn, 1) := by decide +kernel
theorem dX6_takings_0 : decode cX6_takings 0 = .ok (.aload_n 0, 1) := by decide +kernel
theorem dX6_takings_1 : decode cX6_takings 1 = .ok (.getfield 47, 3) := by decide +kernel
theorem dX6_takings_4 : decode cX6_takings 4 = .ok (.getfield 212, 3) := by decide +kernel
theorem dX6_takings_7 : decode cX6_takings 7 = .ok (.ireturn, 1) := by decide +kernel
theorem dX6_needActor_0 : decode cX6_needActor 0 = .ok (.iload_n 0, 1) := by decide +kernel
theorem dX6_needActor_1 : decode cX6_needActor 1 = .ok (.ifCond .lt 9, 3) := by decide +kernel
theorem dX6_needActor_4 : decode cX6_needActor 4 = .ok (.iload_n 0, 1) := by decide +kernel
theorem dX6_needActor_5 : decode cX6_needActor 5 = .ok (.bipush 12, 2) := by decide +kernel
theorem dX6_needActor_7 : decode cX6_needActor 7 = .ok (.if_icmp .lt 13, 3) := by decide +kernel
theorem dX6_needActor_10 : decode cX6_needActor 10 = .ok (.new 215, 3) := by decide +kernel
theorem dX6_needActor_13 : decode cX6_needActor 13 = .ok (.dup, 1) := by decide +kernel
theorem dX6_needActor_14 : decode cX6_needActor 14 = .ok (.ldc 217, 2) := by decide +kernel
theorem dX6_needActor_16 : decode cX6_needActor 16 = .ok (.invokespecial 219, 3) := by decide +kernel
theorem dX6_needActor_19 : decode cX6_needActor 19 = .ok (.athrow, 1) := by decide +kernel
theorem dX6_needActor_20 : decode cX6_needActor 20 = .ok (.return_, 1) := by decide +kernel
theorem dX6_needPart_0 : decode cX6_needPart 0 = .ok (.iload_n 0, 1) := by decide +kernel
theorem dX6_needPart_1 : decode cX6_needPart 1 = .ok (.ifCond .lt 9, 3) := by decide +kernel
theorem dX6_needPart_4 : decode cX6_needPart 4 = .ok (.iload_n 0, 1) := by decide +kernel
theorem dX6_needPart_5 : decode cX6_needPart 5 = .ok (.bipush 8, 2) := by decide +kernel
theorem dX6_needPart_7 : decode cX6_needPart 7 = .ok (.if_icmp .lt 13, 3) := by decide +kernel
theorem dX6_needPart_10 : decode cX6_needPart 10 = .ok (.new 215, 3) := by decide +kernel
theorem dX6_needPart_13 : decode cX6_needPart 13 = .ok (.dup, 1) := by decide +kernel
theorem dX6_needPart_14 : decode cX6_needPart 14 = .ok (.ldc 220, 2) := by decide +kernel
theorem dX6_needPart_16 : decode cX6_needPart 16 = .ok (.invokespecial 219, 3) := by decide +kernel
theorem dX6_needPart_19 : decode cX6_needPart 19 = .ok (.athrow, 1) := by decide +kernel
theorem dX6_needPart_20 : decode cX6_needPart 20 = .ok (.return_, 1) := by decide +kernel
theorem dX6_needOneOf_0 : decode cX6_needOneOf 0 = .ok (.iload_n 0, 1) := by decide +kernel
theorem dX6_needOneOf_1 : decode cX6_needOneOf 1 = .ok (.ifCond .lt 8, 3) := by decide +kernel
theorem dX6_needOneOf_4 : decode cX6_needOneOf 4 = .ok (.iload_n 0, 1) := by decide +kernel
theorem dX6_needOneOf_5 : decode cX6_needOneOf 5 = .ok (.iload_n 1, 1) := by decide +kernel
theorem dX6_needOneOf_6 : decode cX6_needOneOf 6 = .ok (.if_icmp .lt 13, 3) := by decide +kernel
theorem dX6_needOneOf_9 : decode cX6_needOneOf 9 = .ok (.new 215, 3) := by decide +kernel
theorem dX6_needOneOf_12 : decode cX6_needOneOf 12 = .ok (.dup, 1) := by decide +kernel
theorem dX6_needOneOf_13 : decode cX6_needOneOf 13 = .ok (.ldc 222, 2) := by decide +kernel
theorem dX6_needOneOf_15 : decode cX6_needOneOf 15 = .ok (.invokespecial 219, 3) := by decide +kernel
theorem dX6_needOneOf_18 : decode cX6_needOneOf 18 = .ok (.athrow, 1) := by decide +kernel
theorem dX6_needOneOf_19 : decode cX6_needOneOf 19 = .ok (.return_, 1) := by decide +kernel
theorem dX6_needSize_0 : decode cX6_needSize 0 = .ok (.iload_n 0, 1) := by decide +kernel
theorem dX6_needSize_1 : decode cX6_needSize 1 = .ok (.ifCond .lt 9, 3) := by decide +kernel
theorem dX6_needSize_4 : decode cX6_needSize 4 = .ok (.iload_n 0, 1) := by decide +kernel
theorem dX6_needSize_5 : decode cX6_needSize 5 = .ok (.bipush 9, 2) := by decide +kernel
theorem dX6_needSize_7 : decode cX6_needSize 7 = .ok (.if_icmp .le 13, 3) := by decide +kernel
theorem dX6_needSize_10 : decode cX6_needSize 10 = .ok (.new 58, 3) := by decide +kernel
theorem dX6_needSize_13 : decode cX6_needSize 13 = .ok (.dup, 1) := by decide +kernel
theorem dX6_needSize_14 : decode cX6_needSize 14 = .ok (.ldc 224, 2) := by decide +kernel
theorem dX6_needSize_16 : decode cX6_needSize 16 = .ok (.invokespecial 62, 3) := by decide +kernel
theorem dX6_needSize_19 : decode cX6_needSize 19 = .ok (.athrow, 1) := by decide +kernel
theorem dX6_needSize_20 : decode cX6_needSize 20 = .ok (.return_, 1) := by decide +kernel
theorem dX6_needDay_0 : decode cX6_needDay 0 = .ok (.iload_n 0, 1) := by decide +kernel
theorem dX6_needDay_1 : decode cX6_needDay 1 = .ok (.iload_n 1, 1) := by decide +kernel
theorem dX6_needDay_2 : decode cX6_needDay 2 = .ok (.if_icmp .lt 10, 3) := by decide +kernel
theorem dX6_needDay_5 : decode cX6_needDay 5 = .ok (.iload_n 0, 1) := by decide +kernel
theorem dX6_needDay_6 : decode cX6_needDay 6 = .ok (.sipush 1000, 3) := by decide +kernel
theorem dX6_needDay_9 : decode cX6_needDay 9 = .ok (.if_icmp .le 13, 3) := by decide +kernel
theorem dX6_needDay_12 : decode cX6_needDay 12 = .ok (.new 58, 3) := by decide +kernel
theorem dX6_needDay_15 : decode cX6_needDay 15 = .ok (.dup, 1) := by decide +kernel
theorem dX6_needDay_16 : decode cX6_needDay 16 = .ok (.ldc 226, 2) := by decide +kernel
theorem dX6_needDay_18 : decode cX6_needDay 18 = .ok (.invokespecial 62, 3) := by decide +kernel
theorem dX6_needDay_21 : decode cX6_needDay 21 = .ok (.athrow, 1) := by decide +kernel
theorem dX6_needDay_22 : decode cX6_needDay 22 = .ok (.return_, 1) := by decide +kernel
theorem dX6_has_0 : decode cX6_has 0 = .ok (.iload_n 0, 1) := by decide +kernel
theorem dX6_has_1 : decode cX6_has 1 = .ok (.iload_n 1, 1) := by decide +kernel
theorem dX6_has_2 : decode cX6_has 2 = .ok (.ishr, 1) := by decide +kernel
theorem dX6_has_3 : decode cX6_has 3 = .ok (.iconst 1, 1) := by decide +kernel
theorem dX6_has_4 : decode cX6_has 4 = .ok (.iand, 1) := by decide +kernel
theorem dX6_has_5 : decode cX6_has 5 = .ok (.ifCond .eq 7, 3) := by decide +kernel
theorem dX6_has_8 : decode cX6_has 8 = .ok (.iconst 1, 1) := by decide +kernel
theorem dX6_has_9 : decode cX6_has 9 = .ok (.goto 4, 3) := by decide +kernel
theorem dX6_has_12 : decode cX6_has 12 = .ok (.iconst 0, 1) := by decide +kernel
theorem dX6_has_13 : decode cX6_has 13 = .ok (.ireturn, 1) := by decide +kernel
theorem dX6_with_0 : decode cX6_with 0 = .ok (.iload_n 0, 1) := by decide +kernel
theorem dX6_with_1 : decode cX6_with 1 = .ok (.iconst 1, 1) := by decide +kernel
theorem dX6_with_2 : decode cX6_with 2 = .ok (.iload_n 1, 1) := by decide +kernel
theorem dX6_with_3 : decode cX6_with 3 = .ok (.ishl, 1) := by decide +kernel
theorem dX6_with_4 : decode cX6_with 4 = .ok (.ior, 1) := by decide +kernel
theorem dX6_with_5 : decode cX6_with 5 = .ok (.ireturn, 1) := by decide +kernel
theorem dX6_without_0 : decode cX6_without 0 = .ok (.iload_n 0, 1) := by decide +kernel
theorem dX6_without_1 : decode cX6_without 1 = .ok (.iconst 1, 1) := by decide +kernel
theorem dX6_without_2 : decode cX6_without 2 = .ok (.iload_n 1, 1) := by decide +kernel
theorem dX6_without_3 : decode cX6_without 3 = .ok (.ishl, 1) := by decide +kernel
theorem dX6_without_4 : decode cX6_without 4 = .ok (.iconst (-1), 1) := by decide +kernel
theorem dX6_without_5 : decode cX6_without 5 = .ok (.ixor, 1) := by decide +kernel
theorem dX6_without_6 : decode cX6_without 6 = .ok (.iand, 1) := by decide +kernel
theorem dX6_without_7 : decode cX6_without 7 = .ok (.ireturn, 1) := by decide +kernel
theorem dX6_isReady_0 : decode cX6_isReady 0 = .ok (.aload_n 0, 1) := by decide +kernel
theorem dX6_isReady_1 : decode cX6_isReady 1 = .ok (.getfield 10, 3) := by decide +kernel
theorem dX6_isReady_4 : decode cX6_isReady 4 = .ok (.getfield 72, 3) := by decide +kernel
theorem dX6_isReady_7 : decode cX6_isReady 7 = .ok (.iload_n 1, 1) := by decide +kernel
theorem dX6_isReady_8 : decode cX6_isReady 8 = .ok (.iaload, 1) := by decide +kernel
theorem dX6_isReady_9 : decode cX6_isReady 9 = .ok (.istore 4, 2) := by decide +kernel
theorem dX6_isReady_11 : decode cX6_isReady 11 = .ok (.aload_n 0, 1) := by decide +kernel
theorem dX6_isReady_12 : decode cX6_isReady 12 = .ok (.getfield 10, 3) := by decide +kernel
theorem dX6_isReady_15 : decode cX6_isReady 15 = .ok (.getfield 79, 3) := by decide +kernel
theorem dX6_isReady_18 : decode cX6_isReady 18 = .ok (.iload_n 1, 1) := by decide +kernel
theorem dX6_isReady_19 : decode cX6_isReady 19 = .ok (.iaload, 1) := by decide +kernel
theorem dX6_isReady_20 : decode cX6_isReady 20 = .ok (.iload_n 2, 1) := by decide +kernel
theorem dX6_isReady_21 : decode cX6_isReady 21 = .ok (.invokestatic 142, 3) := by decide +kernel
theorem dX6_isReady_24 : decode cX6_isReady 24 = .ok (.ifCond .eq 43, 3) := by decide +kernel
theorem dX6_isReady_27 : decode cX6_isReady 27 = .ok (.iload_n 3, 1) := by decide +kernel
theorem dX6_isReady_28 : decode cX6_isReady 28 = .ok (.iload_n 1, 1) := by decide +kernel
theorem dX6_isReady_29 : decode cX6_isReady 29 = .ok (.invokestatic 142, 3) := by decide +kernel
theorem dX6_isReady_32 : decode cX6_isReady 32 = .ok (.ifCond .ne 35, 3) := by decide +kernel
theorem dX6_isReady_35 : decode cX6_isReady 35 = .ok (.aload_n 0, 1) := by decide +kernel
theorem dX6_isReady_36 : decode cX6_isReady 36 = .ok (.getfield 26, 3) := by decide +kernel
theorem dX6_isReady_39 : decode cX6_isReady 39 = .ok (.iload_n 2, 1) := by decide +kernel
theorem dX6_isReady_40 : decode cX6_isReady 40 = .ok (.iload 4, 2) := by decide +kernel
theorem dX6_isReady_42 : decode cX6_isReady 42 = .ok (.invokevirtual 228, 3) := by decide +kernel
theorem dX6_isReady_45 : decode cX6_isReady 45 = .ok (.iconst (-1), 1) := by decide +kernel
theorem dX6_isReady_46 : decode cX6_isReady 46 = .ok (.if_icmp .ne 17, 3) := by decide +kernel
theorem dX6_isReady_49 : decode cX6_isReady 49 = .ok (.aload_n 0, 1) := by decide +kernel
theorem dX6_isReady_50 : decode cX6_isReady 50 = .ok (.getfield 26, 3) := by decide +kernel
theorem dX6_isReady_53 : decode cX6_isReady 53 = .ok (.iload_n 2, 1) := by decide +kernel
theorem dX6_isReady_54 : decode cX6_isReady 54 = .ok (.iload 4, 2) := by decide +kernel
theorem dX6_isReady_56 : decode cX6_isReady 56 = .ok (.invokevirtual 231, 3) := by decide +kernel
theorem dX6_isReady_59 : decode cX6_isReady 59 = .ok (.iconst (-1), 1) := by decide +kernel
theorem dX6_isReady_60 : decode cX6_isReady 60 = .ok (.if_icmp .eq 7, 3) := by decide +kernel
theorem dX6_isReady_63 : decode cX6_isReady 63 = .ok (.iconst 1, 1) := by decide +kernel
theorem dX6_isReady_64 : decode cX6_isReady 64 = .ok (.goto 4, 3) := by decide +kernel
theorem dX6_isReady_67 : decode cX6_isReady 67 = .ok (.iconst 0, 1) := by decide +kernel
theorem dX6_isReady_68 : decode cX6_isReady 68 = .ok (.ireturn, 1) := by decide +kernel
theorem dX6_offerActors_0 : decode cX6_offerActors 0 = .ok (.aload_n 0, 1) := by decide +kernel
theorem dX6_offerActors_1 : decode cX6_offerActors 1 = .ok (.getfield 33, 3) := by decide +kernel
theorem dX6_offerActors_4 : decode cX6_offerActors 4 = .ok (.invokevirtual 234, 3) := by decide +kernel
theorem dX6_offerActors_7 : decode cX6_offerActors 7 = .ok (.iconst 0, 1) := by decide +kernel
theorem dX6_offerActors_8 : decode cX6_offerActors 8 = .ok (.istore_n 2, 1) := by decide +kernel
theorem dX6_offerActors_9 : decode cX6_offerActors 9 = .ok (.iload_n 2, 1) := by decide +kernel
theorem dX6_offerActors_10 : decode cX6_offerActors 10 = .ok (.aload_n 0, 1) := by decide +kernel
theorem dX6_offerActors_11 : decode cX6_offerActors 11 = .ok (.getfield 51, 3) := by decide +kernel
theorem dX6_offerActors_14 : decode cX6_offerActors 14 = .ok (.if_icmp .ge 100, 3) := by decide +kernel
theorem dX6_offerActors_17 : decode cX6_offerActors 17 = .ok (.iconst 0, 1) := by decide +kernel
theorem dX6_offerActors_18 : decode cX6_offerActors 18 = .ok (.istore_n 3, 1) := by decide +kernel
theorem dX6_offerActors_19 : decode cX6_offerActors 19 = .ok (.iload_n 3, 1) := by decide +kernel
theorem dX6_offerActors_20 : decode cX6_offerActors 20 = .ok (.iconst 4, 1) := by decide +kernel
theorem dX6_offerActors_21 : decode cX6_offerActors 21 = .ok (.if_icmp .ge 87, 3) := by decide +kernel
theorem dX6_offerActors_24 : decode cX6_offerActors 24 = .ok (.aload_n 0, 1) := by decide +kernel
theorem dX6_offerActors_25 : decode cX6_offerActors 25 = .ok (.getfield 19, 3) := by decide +kernel
theorem dX6_offerActors_28 : decode cX6_offerActors 28 = .ok (.iload_n 2, 1) := by decide +kernel
theorem dX6_offerActors_29 : decode cX6_offerActors 29 = .ok (.iload_n 3, 1) := by decide +kernel
theorem dX6_offerActors_30 : decode cX6_offerActors 30 = .ok (.invokevirtual 193, 3) := by decide +kernel
theorem dX6_offerActors_33 : decode cX6_offerActors 33 = .ok (.istore 4, 2) := by decide +kernel
theorem dX6_offerActors_35 : decode cX6_offerActors 35 = .ok (.iload 4, 2) := by decide +kernel
theorem dX6_offerActors_37 : decode cX6_offerActors 37 = .ok (.iconst (-1), 1) := by decide +kernel
theorem dX6_offerActors_38 : decode cX6_offerActors 38 = .ok (.if_icmp .eq 64, 3) := by decide +kernel
theorem dX6_offerActors_41 : decode cX6_offerActors 41 = .ok (.aload_n 0, 1) := by decide +kernel
theorem dX6_offerActors_42 : decode cX6_offerActors 42 = .ok (.iload 4, 2) := by decide +kernel
theorem dX6_offerActors_44 : decode cX6_offerActors 44 = .ok (.iload_n 2, 1) := by decide +kernel
theorem dX6_offerActors_45 : decode cX6_offerActors 45 = .ok (.iload_n 1, 1) := by decide +kernel
theorem dX6_offerActors_46 : decode cX6_offerActors 46 = .ok (.invokevirtual 146, 3) := by decide +kernel
theorem dX6_offerActors_49 : decode cX6_offerActors 49 = .ok (.ifCond .eq 53, 3) := by decide +kernel
theorem dX6_offerActors_52 : decode cX6_offerActors 52 = .ok (.aload_n 0, 1) := by decide +kernel
theorem dX6_offerActors_53 : decode cX6_offerActors 53 = .ok (.getfield 26, 3) := by decide +kernel
theorem dX6_offerActors_56 : decode cX6_offerActors 56 = .ok (.iload_n 2, 1) := by decide +kernel
theorem dX6_offerActors_57 : decode cX6_offerActors 57 = .ok (.aload_n 0, 1) := by decide +kernel
theorem dX6_offerActors_58 : decode cX6_offerActors 58 = .ok (.getfield 10, 3) := by decide +kernel
theorem dX6_offerActors_61 : decode cX6_offerActors 61 = .ok (.getfield 72, 3) := by decide +kernel
theorem dX6_offerActors_64 : decode cX6_offerActors 64 = .ok (.iload 4, 2) := by decide +kernel
theorem dX6_offerActors_66 : decode cX6_offerActors 66 = .ok (.iaload, 1) := by decide +kernel
theorem dX6_offerActors_67 : decode cX6_offerActors 67 = .ok (.invokevirtual 228, 3) := by decide +kernel
theorem dX6_offerActors_70 : decode cX6_offerActors 70 = .ok (.iconst (-1), 1) := by decide +kernel
theorem dX6_offerActors_71 : decode cX6_offerActors 71 = .ok (.if_icmp .ne 7, 3) := by decide +kernel
theorem dX6_offerActors_74 : decode cX6_offerActors 74 = .ok (.iconst 1, 1) := by decide +kernel
theorem dX6_offerActors_75 : decode cX6_offerActors 75 = .ok (.goto 4, 3) := by decide +kernel
theorem dX6_offerActors_78 : decode cX6_offerActors 78 = .ok (.iconst 0, 1) := by decide +kernel
theorem dX6_offerActors_79 : decode cX6_offerActors 79 = .ok (.istore 5, 2) := by decide +kernel
theorem dX6_offerActors_81 : decode cX6_offerActors 81 = .ok (.aload_n 0, 1) := by decide +kernel
theorem dX6_offerActors_82 : decode cX6_offerActors 82 = .ok (.getfield 33, 3) := by decide +kernel
theorem dX6_offerActors_85 : decode cX6_offerActors 85 = .ok (.iload_n 2, 1) := by decide +kernel
theorem dX6_offerActors_86 : decode cX6_offerActors 86 = .ok (.iload_n 3, 1) := by decide +kernel
theorem dX6_offerActors_87 : decode cX6_offerActors 87 = .ok (.iload 4, 2) := by decide +kernel
theorem dX6_offerActors_89 : decode cX6_offerActors 89 = .ok (.iload 5, 2) := by decide +kernel
theorem dX6_offerActors_91 : decode cX6_offerActors 91 = .ok (.ifCond .eq 7, 3) := by decide +kernel
theorem dX6_offerActors_94 : decode cX6_offerActors 94 = .ok (.iconst 1, 1) := by decide +kernel
theorem dX6_offerActors_95 : decode cX6_offerActors 95 = .ok (.goto 4, 3) := by decide +kernel
theorem dX6_offerActors_98 : decode cX6_offerActors 98 = .ok (.iconst 0, 1) := by decide +kernel
theorem dX6_offerActors_99 : decode cX6_offerActors 99 = .ok (.invokevirtual 237, 3) := by decide +kernel
theorem dX6_offerActors_102 : decode cX6_offerActors 102 = .ok (.iinc 3 1, 3) := by decide +kernel
theorem dX6_offerActors_105 : decode cX6_offerActors 105 = .ok (.goto (-86), 3) := by decide +kernel
theorem dX6_offerActors_108 : decode cX6_offerActors 108 = .ok (.iinc 2 1, 3) := by decide +kernel
theorem dX6_offerActors_111 : decode cX6_offerActors 111 = .ok (.goto (-102), 3) := by decide +kernel
theorem dX6_offerActors_114 : decode cX6_offerActors 114 = .ok (.return_, 1) := by decide +kernel
theorem dX6_bestCast_0 : decode cX6_bestCast 0 = .ok (.aload_n 0, 1) := by decide +kernel
theorem dX6_bestCast_1 : decode cX6_bestCast 1 = .ok (.iload_n 1, 1) := by decide +kernel
theorem dX6_bestCast_2 : decode cX6_bestCast 2 = .ok (.invokevirtual 156, 3) := by decide +kernel
theorem dX6_bestCast_5 : decode cX6_bestCast 5 = .ok (.aload_n 0, 1) := by decide +kernel
theorem dX6_bestCast_6 : decode cX6_bestCast 6 = .ok (.getfield 33, 3) := by decide +kernel
theorem dX6_bestCast_9 : decode cX6_bestCast 9 = .ok (.aload_n 0, 1) := by decide +kernel
theorem dX6_bestCast_10 : decode cX6_bestCast 10 = .ok (.getfield 51, 3) := by decide +kernel
theorem dX6_bestCast_13 : decode cX6_bestCast 13 = .ok (.invokevirtual 241, 3) := by decide +kernel
theorem dX6_bestCast_16 : decode cX6_bestCast 16 = .ok (.ireturn, 1) := by decide +kernel
theorem dX6_actorIn_0 : decode cX6_actorIn 0 = .ok (.aload_n 0, 1) := by decide +kernel
theorem dX6_actorIn_1 : decode cX6_actorIn 1 = .ok (.getfield 19, 3) := by decide +kernel
theorem dX6_actorIn_4 : decode cX6_actorIn 4 = .ok (.iload_n 2, 1) := by decide +kernel
theorem dX6_actorIn_5 : decode cX6_actorIn 5 = .ok (.iload_n 1, 1) := by decide +kernel
theorem dX6_actorIn_6 : decode cX6_actorIn 6 = .ok (.iload_n 2, 1) := by decide +kernel
theorem dX6_actorIn_7 : decode cX6_actorIn 7 = .ok (.invokestatic 244, 3) := by decide +kernel
theorem dX6_actorIn_10 : decode cX6_actorIn 10 = .ok (.invokevirtual 193, 3) := by decide +kernel
theorem dX6_actorIn_13 : decode cX6_actorIn 13 = .ok (.ireturn, 1) := by decide +kernel
theorem dX6_countOthers_0 : decode cX6_countOthers 0 = .ok (.iconst 0, 1) := by decide +kernel
theorem dX6_countOthers_1 : decode cX6_countOthers 1 = .ok (.istore_n 3, 1) := by decide +kernel
theorem dX6_countOthers_2 : decode cX6_countOthers 2 = .ok (.iconst 0, 1) := by decide +kernel
theorem dX6_countOthers_3 : decode cX6_countOthers 3 = .ok (.istore 4, 2) := by decide +kernel
theorem dX6_countOthers_5 : decode cX6_countOthers 5 = .ok (.iload 4, 2) := by decide +kernel
theorem dX6_countOthers_7 : decode cX6_countOthers 7 = .ok (.aload_n 0, 1) := by decide +kernel
theorem dX6_countOthers_8 : decode cX6_countOthers 8 = .ok (.getfield 51, 3) := by decide +kernel
theorem dX6_countOthers_11 : decode cX6_countOthers 11 = .ok (.if_icmp .ge 29, 3) := by decide +kernel
theorem dX6_countOthers_14 : decode cX6_countOthers 14 = .ok (.aload_n 0, 1) := by decide +kernel
theorem dX6_countOthers_15 : decode cX6_countOthers 15 = .ok (.iload_n 1, 1) := by decide +kernel
theorem dX6_countOthers_16 : decode cX6_countOthers 16 = .ok (.iload 4, 2) := by decide +kernel
theorem dX6_countOthers_18 : decode cX6_countOthers 18 = .ok (.invokevirtual 165, 3) := by decide +kernel
theorem dX6_countOthers_21 : decode cX6_countOthers 21 = .ok (.aload_n 0, 1) := by decide +kernel
theorem dX6_countOthers_22 : decode cX6_countOthers 22 = .ok (.iload_n 2, 1) := by decide +kernel
theorem dX6_countOthers_23 : decode cX6_countOthers 23 = .ok (.iload 4, 2) := by decide +kernel
theorem dX6_countOthers_25 : decode cX6_countOthers 25 = .ok (.invokevirtual 165, 3) := by decide +kernel
theorem dX6_countOthers_28 : decode cX6_countOthers 28 = .ok (.if_icmp .eq 6, 3) := by decide +kernel
theorem dX6_countOthers_31 : decode cX6_countOthers 31 = .ok (.iinc 3 1, 3) := by decide +kernel
theorem dX6_countOthers_34 : decode cX6_countOthers 34 = .ok (.iinc 4 1, 3) := by decide +kernel
theorem dX6_countOthers_37 : decode cX6_countOthers 37 = .ok (.goto (-32), 3) := by decide +kernel
theorem dX6_countOthers_40 : decode cX6_countOthers 40 = .ok (.iload_n 3, 1) := by decide +kernel
theorem dX6_countOthers_41 : decode cX6_countOthers 41 = .ok (.ireturn, 1) := by decide +kernel
theorem dX6_perform_0 : decode cX6_perform 0 = .ok (.aload_n 0, 1) := by decide +kernel
theorem dX6_perform_1 : decode cX6_perform 1 = .ok (.aload_n 0, 1) := by decide +kernel
theorem dX6_perform_2 : decode cX6_perform 2 = .ok (.getfield 10, 3) := by decide +kernel
theorem dX6_perform_5 : decode cX6_perform 5 = .ok (.getfield 139, 3) := by decide +kernel
theorem dX6_perform_8 : decode cX6_perform 8 = .ok (.aload_n 0, 1) := by decide +kernel
theorem dX6_perform_9 : decode cX6_perform 9 = .ok (.getfield 55, 3) := by decide +kernel
theorem dX6_perform_12 : decode cX6_perform 12 = .ok (.iaload, 1) := by decide +kernel
theorem dX6_perform_13 : decode cX6_perform 13 = .ok (.invokevirtual 150, 3) := by decide +kernel
theorem dX6_perform_16 : decode cX6_perform 16 = .ok (.istore_n 2, 1) := by decide +kernel
theorem dX6_perform_17 : decode cX6_perform 17 = .ok (.iload_n 2, 1) := by decide +kernel
theorem dX6_perform_18 : decode cX6_perform 18 = .ok (.iconst (-1), 1) := by decide +kernel
theorem dX6_perform_19 : decode cX6_perform 19 = .ok (.if_icmp .ne 16, 3) := by decide +kernel
theorem dX6_perform_22 : decode cX6_perform 22 = .ok (.aload_n 0, 1) := by decide +kernel
theorem dX6_perform_23 : decode cX6_perform 23 = .ok (.getfield 40, 3) := by decide +kernel
theorem dX6_perform_26 : decode cX6_perform 26 = .ok (.getfield 185, 3) := by decide +kernel
theorem dX6_perform_29 : decode cX6_perform 29 = .ok (.iload_n 1, 1) := by decide +kernel
theorem dX6_perform_30 : decode cX6_perform 30 = .ok (.iconst 2, 1) := by decide +kernel
theorem dX6_perform_31 : decode cX6_perform 31 = .ok (.iastore, 1) := by decide +kernel
theorem dX6_perform_32 : decode cX6_perform 32 = .ok (.goto 60, 3) := by decide +kernel
theorem dX6_perform_35 : decode cX6_perform 35 = .ok (.aload_n 0, 1) := by decide +kernel
theorem dX6_perform_36 : decode cX6_perform 36 = .ok (.getfield 40, 3) := by decide +kernel
theorem dX6_perform_39 : decode cX6_perform 39 = .ok (.getfield 185, 3) := by decide +kernel
theorem dX6_perform_42 : decode cX6_perform 42 = .ok (.iload_n 1, 1) := by decide +kernel
theorem dX6_perform_43 : decode cX6_perform 43 = .ok (.iconst 1, 1) := by decide +kernel
theorem dX6_perform_44 : decode cX6_perform 44 = .ok (.iastore, 1) := by decide +kernel
theorem dX6_perform_45 : decode cX6_perform 45 = .ok (.iconst 0, 1) := by decide +kernel
theorem dX6_perform_46 : decode cX6_perform 46 = .ok (.istore_n 3, 1) := by decide +kernel
theorem dX6_perform_47 : decode cX6_perform 47 = .ok (.iload_n 3, 1) := by decide +kernel
theorem dX6_perform_48 : decode cX6_perform 48 = .ok (.aload_n 0, 1) := by decide +kernel
theorem dX6_perform_49 : decode cX6_perform 49 = .ok (.getfield 51, 3) := by decide +kernel
theorem dX6_perform_52 : decode cX6_perform 52 = .ok (.if_icmp .ge 40, 3) := by decide +kernel
theorem dX6_perform_55 : decode cX6_perform 55 = .ok (.aload_n 0, 1) := by decide +kernel
theorem dX6_perform_56 : decode cX6_perform 56 = .ok (.iload_n 2, 1) := by decide +kernel
theorem dX6_perform_57 : decode cX6_perform 57 = .ok (.iload_n 3, 1) := by decide +kernel
theorem dX6_perform_58 : decode cX6_perform 58 = .ok (.invokevirtual 165, 3) := by decide +kernel
theorem dX6_perform_61 : decode cX6_perform 61 = .ok (.istore 4, 2) := by decide +kernel
theorem dX6_perform_63 : decode cX6_perform 63 = .ok (.aload_n 0, 1) := by decide +kernel
theorem dX6_perform_64 : decode cX6_perform 64 = .ok (.getfield 40, 3) := by decide +kernel
theorem dX6_perform_67 : decode cX6_perform 67 = .ok (.getfield 206, 3) := by decide +kernel
theorem dX6_perform_70 : decode cX6_perform 70 = .ok (.iload_n 1, 1) := by decide +kernel
theorem dX6_perform_71 : decode cX6_perform 71 = .ok (.bipush 8, 2) := by decide +kernel
theorem dX6_perform_73 : decode cX6_perform 73 = .ok (.imul, 1) := by decide +kernel
theorem dX6_perform_74 : decode cX6_perform 74 = .ok (.iload_n 3, 1) := by decide +kernel
theorem dX6_perform_75 : decode cX6_perform 75 = .ok (.iadd, 1) := by decide +kernel
theorem dX6_perform_76 : decode cX6_perform 76 = .ok (.iload 4, 2) := by decide +kernel
theorem dX6_perform_78 : decode cX6_perform 78 = .ok (.iastore, 1) := by decide +kernel
theorem dX6_perform_79 : decode cX6_perform 79 = .ok (.aload_n 0, 1) := by decide +kernel
theorem dX6_perform_80 : decode cX6_perform 80 = .ok (.iload_n 3, 1) := by decide +kernel
theorem dX6_perform_81 : decode cX6_perform 81 = .ok (.iload 4, 2) := by decide +kernel
theorem dX6_perform_83 : decode cX6_perform 83 = .ok (.invokevirtual 247, 3) := by decide +kernel
theorem dX6_perform_86 : decode cX6_perform 86 = .ok (.iinc 3 1, 3) := by decide +kernel
theorem dX6_perform_89 : decode cX6_perform 89 = .ok (.goto (-42), 3) := by decide +kernel
theorem dX6_perform_92 : decode cX6_perform 92 = .ok (.aload_n 0, 1) := by decide +kernel
theorem dX6_perform_93 : decode cX6_perform 93 = .ok (.iload_n 1, 1) := by decide +kernel
theorem dX6_perform_94 : decode cX6_perform 94 = .ok (.iload_n 2, 1) := by decide +kernel
theorem dX6_perform_95 : decode cX6_perform 95 = .ok (.invokevirtual 250, 3) := by decide +kernel
theorem dX6_perform_98 : decode cX6_perform 98 = .ok (.ireturn, 1) := by decide +kernel
theorem dX6_dress_0 : decode cX6_dress 0 = .ok (.iload_n 2, 1) := by decide +kernel
theorem dX6_dress_1 : decode cX6_dress 1 = .ok (.iconst (-1), 1) := by decide +kernel
theorem dX6_dress_2 : decode cX6_dress 2 = .ok (.if_icmp .ne 4, 3) := by decide +kernel
theorem dX6_dress_5 : decode cX6_dress 5 = .ok (.return_, 1) := by decide +kernel
theorem dX6_dress_6 : decode cX6_dress 6 = .ok (.aload_n 0, 1) := by decide +kernel
theorem dX6_dress_7 : decode cX6_dress 7 = .ok (.getfield 10, 3) := by decide +kernel
theorem dX6_dress_10 : decode cX6_dress 10 = .ok (.getfield 72, 3) := by decide +kernel
theorem dX6_dress_13 : decode cX6_dress 13 = .ok (.iload_n 2, 1) := by decide +kernel
theorem dX6_dress_14 : decode cX6_dress 14 = .ok (.iaload, 1) := by decide +kernel
theorem dX6_dress_15 : decode cX6_dress 15 = .ok (.istore_n 3, 1) := by decide +kernel
theorem dX6_dress_16 : decode cX6_dress 16 = .ok (.aload_n 0, 1) := by decide +kernel
theorem dX6_dress_17 : decode cX6_dress 17 = .ok (.getfield 26, 3) := by decide +kernel
theorem dX6_dress_20 : decode cX6_dress 20 = .ok (.iload_n 1, 1) := by decide +kernel
theorem dX6_dress_21 : decode cX6_dress 21 = .ok (.iload_n 3, 1) := by decide +kernel
theorem dX6_dress_22 : decode cX6_dress 22 = .ok (.invokevirtual 228, 3) := by decide +kernel
theorem dX6_dress_25 : decode cX6_dress 25 = .ok (.iconst (-1), 1) := by decide +kernel
theorem dX6_dress_26 : decode cX6_dress 26 = .ok (.if_icmp .ne 19, 3) := by decide +kernel
theorem dX6_dress_29 : decode cX6_dress 29 = .ok (.aload_n 0, 1) := by decide +kernel
theorem dX6_dress_30 : decode cX6_dress 30 = .ok (.getfield 26, 3) := by decide +kernel
theorem dX6_dress_33 : decode cX6_dress 33 = .ok (.aload_n 0, 1) := by decide +kernel
theorem dX6_dress_34 : decode cX6_dress 34 = .ok (.getfield 26, 3) := by decide +kernel
theorem dX6_dress_37 : decode cX6_dress 37 = .ok (.iload_n 1, 1) := by decide +kernel
theorem dX6_dress_38 : decode cX6_dress 38 = .ok (.iload_n 3, 1) := by decide +kernel
theorem dX6_dress_39 : decode cX6_dress 39 = .ok (.invokevirtual 231, 3) := by decide +kernel
theorem dX6_dress_42 : decode cX6_dress 42 = .ok (.invokevirtual 253, 3) := by decide +kernel
theorem dX6_dress_45 : decode cX6_dress 45 = .ok (.return_, 1) := by decide +kernel
theorem dX6_refundSeats_0 : decode cX6_refundSeats 0 = .ok (.iconst 0, 1) := by decide +kernel
theorem dX6_refundSeats_1 : decode cX6_refundSeats 1 = .ok (.istore_n 3, 1) := by decide +kernel
theorem dX6_refundSeats_2 : decode cX6_refundSeats 2 = .ok (.iconst 0, 1) := by decide +kernel
theorem dX6_refundSeats_3 : decode cX6_refundSeats 3 = .ok (.istore 4, 2) := by decide +kernel
theorem dX6_refundSeats_5 : decode cX6_refundSeats 5 = .ok (.iload 4, 2) := by decide +kernel
theorem dX6_refundSeats_7 : decode cX6_refundSeats 7 = .ok (.aload_n 0, 1) := by decide +kernel
theorem dX6_refundSeats_8 : decode cX6_refundSeats 8 = .ok (.getfield 47, 3) := by decide +kernel
theorem dX6_refundSeats_11 : decode cX6_refundSeats 11 = .ok (.getfield 190, 3) := by decide +kernel
theorem dX6_refundSeats_14 : decode cX6_refundSeats 14 = .ok (.if_icmp .ge 55, 3) := by decide +kernel
theorem dX6_refundSeats_17 : decode cX6_refundSeats 17 = .ok (.aload_n 0, 1) := by decide +kernel
theorem dX6_refundSeats_18 : decode cX6_refundSeats 18 = .ok (.getfield 47, 3) := by decide +kernel
theorem dX6_refundSeats_21 : decode cX6_refundSeats 21 = .ok (.getfield 256, 3) := by decide +kernel
theorem dX6_refundSeats_24 : decode cX6_refundSeats 24 = .ok (.iload 4, 2) := by decide +kernel
theorem dX6_refundSeats_26 : decode cX6_refundSeats 26 = .ok (.iaload, 1) := by decide +kernel
theorem dX6_refundSeats_27 : decode cX6_refundSeats 27 = .ok (.iload_n 1, 1) := by decide +kernel
theorem dX6_refundSeats_28 : decode cX6_refundSeats 28 = .ok (.if_icmp .ne 35, 3) := by decide +kernel
theorem dX6_refundSeats_31 : decode cX6_refundSeats 31 = .ok (.iload_n 2, 1) := by decide +kernel
theorem dX6_refundSeats_32 : decode cX6_refundSeats 32 = .ok (.iconst (-1), 1) := by decide +kernel
theorem dX6_refundSeats_33 : decode cX6_refundSeats 33 = .ok (.if_icmp .ne 7, 3) := by decide +kernel
theorem dX6_refundSeats_36 : decode cX6_refundSeats 36 = .ok (.iconst 1, 1) := by decide +kernel
theorem dX6_refundSeats_37 : decode cX6_refundSeats 37 = .ok (.goto 10, 3) := by decide +kernel
theorem dX6_refundSeats_40 : decode cX6_refundSeats 40 = .ok (.aload_n 0, 1) := by decide +kernel
theorem dX6_refundSeats_41 : decode cX6_refundSeats 41 = .ok (.iload 4, 2) := by decide +kernel
theorem dX6_refundSeats_43 : decode cX6_refundSeats 43 = .ok (.iload_n 2, 1) := by decide +kernel
theorem dX6_refundSeats_44 : decode cX6_refundSeats 44 = .ok (.invokevirtual 259, 3) := by decide +kernel
theorem dX6_refundSeats_47 : decode cX6_refundSeats 47 = .ok (.istore 5, 2) := by decide +kernel
theorem dX6_refundSeats_49 : decode cX6_refundSeats 49 = .ok (.iload_n 3, 1) := by decide +kernel
theorem dX6_refundSeats_50 : decode cX6_refundSeats 50 = .ok (.aload_n 0, 1) := by decide +kernel
theorem dX6_refundSeats_51 : decode cX6_refundSeats 51 = .ok (.getfield 47, 3) := by decide +kernel
theorem dX6_refundSeats_54 : decode cX6_refundSeats 54 = .ok (.iload 4, 2) := by decide +kernel
theorem dX6_refundSeats_56 : decode cX6_refundSeats 56 = .ok (.iload 5, 2) := by decide +kernel
theorem dX6_refundSeats_58 : decode cX6_refundSeats 58 = .ok (.invokevirtual 262, 3) := by decide +kernel
theorem dX6_refundSeats_61 : decode cX6_refundSeats 61 = .ok (.iadd, 1) := by decide +kernel
theorem dX6_refundSeats_62 : decode cX6_refundSeats 62 = .ok (.istore_n 3, 1) := by decide +kernel
theorem dX6_refundSeats_63 : decode cX6_refundSeats 63 = .ok (.iinc 4 1, 3) := by decide +kernel
theorem dX6_refundSeats_66 : decode cX6_refundSeats 66 = .ok (.goto (-61), 3) := by decide +kernel
theorem dX6_refundSeats_69 : decode cX6_refundSeats 69 = .ok (.iload_n 3, 1) := by decide +kernel
theorem dX6_refundSeats_70 : decode cX6_refundSeats 70 = .ok (.ireturn, 1) := by decide +kernel
theorem dX6_shareBack_0 : decode cX6_shareBack 0 = .ok (.aload_n 0, 1) := by decide +kernel
theorem dX6_shareBack_1 : decode cX6_shareBack 1 = .ok (.getfield 47, 3) := by decide +kernel
theorem dX6_shareBack_4 : decode cX6_shareBack 4 = .ok (.getfield 265, 3) := by decide +kernel
theorem dX6_shareBack_7 : decode cX6_shareBack 7 = .ok (.iload_n 1, 1) := by decide +kernel
theorem dX6_shareBack_8 : decode cX6_shareBack 8 = .ok (.iaload, 1) := by decide +kernel
theorem dX6_shareBack_9 : decode cX6_shareBack 9 = .ok (.istore_n 3, 1) := by decide +kernel
theorem dX6_shareBack_10 : decode cX6_shareBack 10 = .ok (.iload_n 3, 1) := by decide +kernel
theorem dX6_shareBack_11 : decode cX6_shareBack 11 = .ok (.aload_n 0, 1) := by decide +kernel
theorem dX6_shareBack_12 : decode cX6_shareBack 12 = .ok (.getfield 51, 3) := by decide +kernel
theorem dX6_shareBack_15 : decode cX6_shareBack 15 = .ok (.if_icmp .ge 7, 3) := by decide +kernel
theorem dX6_shareBack_18 : decode cX6_shareBack 18 = .ok (.iconst 1, 1) := by decide +kernel
theorem dX6_shareBack_19 : decode cX6_shareBack 19 = .ok (.goto 4, 3) := by decide +kernel
theorem dX6_shareBack_22 : decode cX6_shareBack 22 = .ok (.iconst 0, 1) := by decide +kernel
theorem dX6_shareBack_23 : decode cX6_shareBack 23 = .ok (.istore 4, 2) := by decide +kernel
theorem dX6_shareBack_25 : decode cX6_shareBack 25 = .ok (.aload_n 0, 1) := by decide +kernel
theorem dX6_shareBack_26 : decode cX6_shareBack 26 = .ok (.getfield 47, 3) := by decide +kernel
theorem dX6_shareBack_29 : decode cX6_shareBack 29 = .ok (.getfield 268, 3) := by decide +kernel
theorem dX6_shareBack_32 : decode cX6_shareBack 32 = .ok (.iload_n 1, 1) := by decide +kernel
theorem dX6_shareBack_33 : decode cX6_shareBack 33 = .ok (.iaload, 1) := by decide +kernel
theorem dX6_shareBack_34 : decode cX6_shareBack 34 = .ok (.tableswitch 89 1 3 #[26, 55, 68], 26) := by decide +kernel
theorem dX6_shareBack_60 : decode cX6_shareBack 60 = .ok (.iload 4, 2) := by decide +kernel
theorem dX6_shareBack_62 : decode cX6_shareBack 62 = .ok (.ifCond .eq 25, 3) := by decide +kernel
theorem dX6_shareBack_65 : decode cX6_shareBack 65 = .ok (.aload_n 0, 1) := by decide +kernel
theorem dX6_shareBack_66 : decode cX6_shareBack 66 = .ok (.iload_n 2, 1) := by decide +kernel
theorem dX6_shareBack_67 : decode cX6_shareBack 67 = .ok (.iload_n 3, 1) := by decide +kernel
theorem dX6_shareBack_68 : decode cX6_shareBack 68 = .ok (.invokevirtual 165, 3) := by decide +kernel
theorem dX6_shareBack_71 : decode cX6_shareBack 71 = .ok (.aload_n 0, 1) := by decide +kernel
theorem dX6_shareBack_72 : decode cX6_shareBack 72 = .ok (.getfield 47, 3) := by decide +kernel
theorem dX6_shareBack_75 : decode cX6_shareBack 75 = .ok (.getfield 271, 3) := by decide +kernel
theorem dX6_shareBack_78 : decode cX6_shareBack 78 = .ok (.iload_n 1, 1) := by decide +kernel
theorem dX6_shareBack_79 : decode cX6_shareBack 79 = .ok (.iaload, 1) := by decide +kernel
theorem dX6_shareBack_80 : decode cX6_shareBack 80 = .ok (.if_icmp .eq 7, 3) := by decide +kernel
theorem dX6_shareBack_83 : decode cX6_shareBack 83 = .ok (.iconst 2, 1) := by decide +kernel
theorem dX6_shareBack_84 : decode cX6_shareBack 84 = .ok (.goto 4, 3) := by decide +kernel
theorem dX6_shareBack_87 : decode cX6_shareBack 87 = .ok (.iconst 0, 1) := by decide +kernel
theorem dX6_shareBack_88 : decode cX6_shareBack 88 = .ok (.ireturn, 1) := by decide +kernel
theorem dX6_shareBack_89 : decode cX6_shareBack 89 = .ok (.iload_n 2, 1) := by decide +kernel
theorem dX6_shareBack_90 : decode cX6_shareBack 90 = .ok (.invokestatic 153, 3) := by decide +kernel
theorem dX6_shareBack_93 : decode cX6_shareBack 93 = .ok (.ifCond .le 7, 3) := by decide +kernel
theorem dX6_shareBack_96 : decode cX6_shareBack 96 = .ok (.iconst 4, 1) := by decide +kernel
theorem dX6_shareBack_97 : decode cX6_shareBack 97 = .ok (.goto 4, 3) := by decide +kernel
theorem dX6_shareBack_100 : decode cX6_shareBack 100 = .ok (.iconst 0, 1) := by decide +kernel
theorem dX6_shareBack_101 : decode cX6_shareBack 101 = .ok (.ireturn, 1) := by decide +kernel
theorem dX6_shareBack_102 : decode cX6_shareBack 102 = .ok (.iload 4, 2) := by decide +kernel
theorem dX6_shareBack_104 : decode cX6_shareBack 104 = .ok (.ifCond .eq 17, 3) := by decide +kernel
theorem dX6_shareBack_107 : decode cX6_shareBack 107 = .ok (.iload_n 2, 1) := by decide +kernel
theorem dX6_shareBack_108 : decode cX6_shareBack 108 = .ok (.iload_n 3, 1) := by decide +kernel
theorem dX6_shareBack_109 : decode cX6_shareBack 109 = .ok (.invokestatic 244, 3) := by decide +kernel
theorem dX6_shareBack_112 : decode cX6_shareBack 112 = .ok (.iconst 1, 1) := by decide +kernel
theorem dX6_shareBack_113 : decode cX6_shareBack 113 = .ok (.if_icmp .le 8, 3) := by decide +kernel
theorem dX6_shareBack_116 : decode cX6_shareBack 116 = .ok (.bipush 10, 2) := by decide +kernel
theorem dX6_shareBack_118 : decode cX6_shareBack 118 = .ok (.goto 4, 3) := by decide +kernel
theorem dX6_shareBack_121 : decode cX6_shareBack 121 = .ok (.iconst 0, 1) := by decide +kernel
theorem dX6_shareBack_122 : decode cX6_shareBack 122 = .ok (.ireturn, 1) := by decide +kernel
theorem dX6_shareBack_123 : decode cX6_shareBack 123 = .ok (.iconst 0, 1) := by decide +kernel
theorem dX6_shareBack_124 : decode cX6_shareBack 124 = .ok (.ireturn, 1) := by decide +kernel
theorem dX7_init_0 : decode cX7_init 0 = .ok (.aload_n 0, 1) := by decide +kernel
theorem dX7_init_1 : decode cX7_init 1 = .ok (.invokespecial 1, 3) := by decide +kernel
theorem dX7_init_4 : decode cX7_init 4 = .ok (.aload_n 0, 1) := by decide +kernel
theorem dX7_init_5 : decode cX7_init 5 = .ok (.iconst 1, 1) := by decide +kernel
theorem dX7_init_6 : decode cX7_init 6 = .ok (.putfield 7, 3) := by decide +kernel
theorem dX7_init_9 : decode cX7_init 9 = .ok (.aload_n 0, 1) := by decide +kernel
theorem dX7_init_10 : decode cX7_init 10 = .ok (.bipush 12, 2) := by decide +kernel
theorem dX7_init_12 : decode cX7_init 12 = .ok (.newarray .int, 2) := by decide +kernel
theorem dX7_init_14 : decode cX7_init 14 = .ok (.putfield 13, 3) := by decide +kernel
theorem dX7_init_17 : decode cX7_init 17 = .ok (.aload_n 0, 1) := by decide +kernel
theorem dX7_init_18 : decode cX7_init 18 = .ok (.bipush 12, 2) := by decide +kernel
theorem dX7_init_20 : decode cX7_init 20 = .ok (.newarray .int, 2) := by decide +kernel
theorem dX7_init_22 : decode cX7_init 22 = .ok (.putfield 17, 3) := by decide +kernel
theorem dX7_init_25 : decode cX7_init 25 = .ok (.aload_n 0, 1) := by decide +kernel
theorem dX7_init_26 : decode cX7_init 26 = .ok (.bipush 32, 2) := by decide +kernel
theorem dX7_init_28 : decode cX7_init 28 = .ok (.newarray .int, 2) := by decide +kernel
theorem dX7_init_30 : decode cX7_init 30 = .ok (.putfield 20, 3) := by decide +kernel
theorem dX7_init_33 : decode cX7_init 33 = .ok (.aload_n 0, 1) := by decide +kernel
theorem dX7_init_34 : decode cX7_init 34 = .ok (.bipush 8, 2) := by decide +kernel
theorem dX7_init_36 : decode cX7_init 36 = .ok (.newarray .int, 2) := by decide +kernel
theorem dX7_init_38 : decode cX7_init 38 = .ok (.putfield 23, 3) := by decide +kernel
theorem dX7_init_41 : decode cX7_init 41 = .ok (.aload_n 0, 1) := by decide +kernel
theorem dX7_init_42 : decode cX7_init 42 = .ok (.bipush 40, 2) := by decide +kernel
theorem dX7_init_44 : decode cX7_init 44 = .ok (.newarray .int, 2) := by decide +kernel
theorem dX7_init_46 : decode cX7_init 46 = .ok (.putfield 26, 3) := by decide +kernel
theorem dX7_init_49 : decode cX7_init 49 = .ok (.aload_n 0, 1) := by decide +kernel
theorem dX7_init_50 : decode cX7_init 50 = .ok (.bipush 40, 2) := by decide +kernel
theorem dX7_init_52 : decode cX7_init 52 = .ok (.newarray .int, 2) := by decide +kernel
theorem dX7_init_54 : decode cX7_init 54 = .ok (.putfield 29, 3) := by decide +kernel
theorem dX7_init_57 : decode cX7_init 57 = .ok (.aload_n 0, 1) := by decide +kernel
theorem dX7_init_58 : decode cX7_init 58 = .ok (.bipush 40, 2) := by decide +kernel
theorem dX7_init_60 : decode cX7_init 60 = .ok (.newarray .int, 2) := by decide +kernel
theorem dX7_init_62 : decode cX7_init 62 = .ok (.putfield 32, 3) := by decide +kernel
theorem dX7_init_65 : decode cX7_init 65 = .ok (.aload_n 0, 1) := by decide +kernel
theorem dX7_init_66 : decode cX7_init 66 = .ok (.sipush 12012, 3) := by decide +kernel
theorem dX7_init_69 : decode cX7_init 69 = .ok (.newarray .int, 2) := by decide +kernel
theorem dX7_init_71 : decode cX7_init 71 = .ok (.putfield 35, 3) := by decide +kernel
theorem dX7_init_74 : decode cX7_init 74 = .ok (.aload_n 0, 1) := by decide +kernel
theorem dX7_init_75 : decode cX7_init 75 = .ok (.bipush 40, 2) := by decide +kernel
theorem dX7_init_77 : decode cX7_init 77 = .ok (.newarray .int, 2) := by decide +kernel
theorem dX7_init_79 : decode cX7_init 79 = .ok (.putfield 38, 3) := by decide +kernel
theorem dX7_init_82 : decode cX7_init 82 = .ok (.aload_n 0, 1) := by decide +kernel
theorem dX7_init_83 : decode cX7_init 83 = .ok (.bipush 40, 2) := by decide +kernel
theorem dX7_init_85 : decode cX7_init 85 = .ok (.newarray .int, 2) := by decide +kernel
theorem dX7_init_87 : decode cX7_init 87 = .ok (.putfield 41, 3) := by decide +kernel
theorem dX7_init_90 : decode cX7_init 90 = .ok (.aload_n 0, 1) := by decide +kernel
theorem dX7_init_91 : decode cX7_init 91 = .ok (.sipush 320, 3) := by decide +kernel
theorem dX7_init_94 : decode cX7_init 94 = .ok (.newarray .int, 2) := by decide +kernel
theorem dX7_init_96 : decode cX7_init 96 = .ok (.putfield 44, 3) := by decide +kernel
theorem dX7_init_99 : decode cX7_init 99 = .ok (.aload_n 0, 1) := by decide +kernel
theorem dX7_init_100 : decode cX7_init 100 = .ok (.bipush 100, 2) := by decide +kernel
theorem dX7_init_102 : decode cX7_init 102 = .ok (.newarray .int, 2) := by decide +kernel
theorem dX7_init_104 : decode cX7_init 104 = .ok (.putfield 47, 3) := by decide +kernel
theorem dX7_init_107 : decode cX7_init 107 = .ok (.aload_n 0, 1) := by decide +kernel
theorem dX7_init_108 : decode cX7_init 108 = .ok (.bipush 100, 2) := by decide +kernel
theorem dX7_init_110 : decode cX7_init 110 = .ok (.newarray .int, 2) := by decide +kernel
theorem dX7_init_112 : decode cX7_init 112 = .ok (.putfield 50, 3) := by decide +kernel
theorem dX7_init_115 : decode cX7_init 115 = .ok (.aload_n 0, 1) := by decide +kernel
theorem dX7_init_116 : decode cX7_init 116 = .ok (.bipush 100, 2) := by decide +kernel
theorem dX7_init_118 : decode cX7_init 118 = .ok (.newarray .int, 2) := by decide +kernel
theorem dX7_init_120 : decode cX7_init 120 = .ok (.putfield 53, 3) := by decide +kernel
theorem dX7_init_123 : decode cX7_init 123 = .ok (.aload_n 0, 1) := by decide +kernel
theorem dX7_init_124 : decode cX7_init 124 = .ok (.bipush 100, 2) := by decide +kernel
theorem dX7_init_126 : decode cX7_init 126 = .ok (.newarray .int, 2) := by decide +kernel
theorem dX7_init_128 : decode cX7_init 128 = .ok (.putfield 56, 3) := by decide +kernel
theorem dX7_init_131 : decode cX7_init 131 = .ok (.aload_n 0, 1) := by decide +kernel
theorem dX7_init_132 : decode cX7_init 132 = .ok (.bipush 100, 2) := by decide +kernel
theorem dX7_init_134 : decode cX7_init 134 = .ok (.newarray .int, 2) := by decide +kernel
theorem dX7_init_136 : decode cX7_init 136 = .ok (.putfield 59, 3) := by decide +kernel
theorem dX7_init_139 : decode cX7_init 139 = .ok (.aload_n 0, 1) := by decide +kernel
theorem dX7_init_140 : decode cX7_init 140 = .ok (.bipush 100, 2) := by decide +kernel
theorem dX7_init_142 : decode cX7_init 142 = .ok (.newarray .int, 2) := by decide +kernel
theorem dX7_init_144 : decode cX7_init 144 = .ok (.putfield 62, 3) := by decide +kernel
theorem dX7_init_147 : decode cX7_init 147 = .ok (.aload_n 0, 1) := by decide +kernel
theorem dX7_init_148 : decode cX7_init 148 = .ok (.bipush 32, 2) := by decide +kernel
theorem dX7_init_150 : decode cX7_init 150 = .ok (.newarray .int, 2) := by decide +kernel
theorem dX7_init_152 : decode cX7_init 152 = .ok (.putfield 65, 3) := by decide +kernel
theorem dX7_init_155 : decode cX7_init 155 = .ok (.aload_n 0, 1) := by decide +kernel
theorem dX7_init_156 : decode cX7_init 156 = .ok (.bipush 8, 2) := by decide +kernel
theorem dX7_init_158 : decode cX7_init 158 = .ok (.newarray .int, 2) := by decide +kernel
theorem dX7_init_160 : decode cX7_init 160 = .ok (.putfield 68, 3) := by decide +kernel
theorem dX7_init_163 : decode cX7_init 163 = .ok (.aload_n 0, 1) := by decide +kernel
theorem dX7_init_164 : decode cX7_init 164 = .ok (.bipush 8, 2) := by decide +kernel
theorem dX7_init_166 : decode cX7_init 166 = .ok (.newarray .int, 2) := by decide +kernel
theorem dX7_init_168 : decode cX7_init 168 = .ok (.putfield 71, 3) := by decide +kernel
theorem dX7_init_171 : decode cX7_init 171 = .ok (.iconst 0, 1) := by decide +kernel
theorem dX7_init_172 : decode cX7_init 172 = .ok (.istore_n 1, 1) := by decide +kernel
theorem dX7_init_173 : decode cX7_init 173 = .ok (.iload_n 1, 1) := by decide +kernel
theorem dX7_init_174 : decode cX7_init 174 = .ok (.bipush 12, 2) := by decide +kernel
theorem dX7_init_176 : decode cX7_init 176 = .ok (.if_icmp .ge 16, 3) := by decide +kernel
theorem dX7_init_179 : decode cX7_init 179 = .ok (.aload_n 0, 1) := by decide +kernel
theorem dX7_init_180 : decode cX7_init 180 = .ok (.getfield 13, 3) := by decide +kernel
theorem dX7_init_183 : decode cX7_init 183 = .ok (.iload_n 1, 1) := by decide +kernel
theorem dX7_init_184 : decode cX7_init 184 = .ok (.iconst 5, 1) := by decide +kernel
theorem dX7_init_185 : decode cX7_init 185 = .ok (.iastore, 1) := by decide +kernel
theorem dX7_init_186 : decode cX7_init 186 = .ok (.iinc 1 1, 3) := by decide +kernel
theorem dX7_init_189 : decode cX7_init 189 = .ok (.goto (-16), 3) := by decide +kernel
theorem dX7_init_192 : decode cX7_init 192 = .ok (.return_, 1) := by decide +kernel
theorem dX7_thrown_0 : decode cX7_thrown 0 = .ok (.aload_n 0, 1) := by decide +kernel
theorem dX7_thrown_1 : decode cX7_thrown 1 = .ok (.getfield 74, 3) := by decide +kernel
theorem dX7_thrown_4 : decode cX7_thrown 4 = .ok (.ireturn, 1) := by decide +kernel
theorem dX7_fails_0 : decode cX7_fails 0 = .ok (.aload_n 0, 1) := by decide +kernel
theorem dX7_fails_1 : decode cX7_fails 1 = .ok (.iload_n 1, 1) := by decide +kernel
theorem dX7_fails_2 : decode cX7_fails 2 = .ok (.putfield 74, 3) := by decide +kernel
theorem dX7_fails_5 : decode cX7_fails 5 = .ok (.iconst 0, 1) := by decide +kernel
theorem dX7_fails_6 : decode cX7_fails 6 = .ok (.ireturn, 1) := by decide +kernel
theorem dX7_in_0 : decode cX7_in 0 = .ok (.iload_n 0, 1) := by decide +kernel
theorem dX7_in_1 : decode cX7_in 1 = .ok (.iload_n 1, 1) := by decide +kernel
theorem dX7_in_2 : decode cX7_in 2 = .ok (.if_icmp .lt 12, 3) := by decide +kernel
theorem dX7_in_5 : decode cX7_in 5 = .ok (.iload_n 0, 1) := by decide +kernel
theorem dX7_in_6 : decode cX7_in 6 = .ok (.iload_n 2, 1) := by decide +kernel
theorem dX7_in_7 : decode cX7_in 7 = .ok (.if_icmp .gt 7, 3) := by decide +kernel
theorem dX7_in_10 : decode cX7_in 10 = .ok (.iconst 1, 1) := by decide +kernel
theorem dX7_in_11 : decode cX7_in 11 = .ok (.goto 4, 3) := by decide +kernel
theorem dX7_in_14 : decode cX7_in 14 = .ok (.iconst 0, 1) := by decide +kernel
theorem dX7_in_15 : decode cX7_in 15 = .ok (.ireturn, 1) := by decide +kernel
theorem dX7_isActor_0 : decode cX7_isActor 0 = .ok (.iload_n 0, 1) := by decide +kernel
theorem dX7_isActor_1 : decode cX7_isActor 1 = .ok (.iconst 0, 1) := by decide +kernel
theorem dX7_isActor_2 : decode cX7_isActor 2 = .ok (.bipush 11, 2) := by decide +kernel
theorem dX7_isActor_4 : decode cX7_isActor 4 = .ok (.invokestatic 77, 3) := by decide +kernel
theorem dX7_isActor_7 : decode cX7_isActor 7 = .ok (.ireturn, 1) := by decide +kernel
theorem dX7_isPart_0 : decode cX7_isPart 0 = .ok (.iload_n 0, 1) := by decide +kernel
theorem dX7_isPart_1 : decode cX7_isPart 1 = .ok (.iconst 0, 1) := by decide +kernel
theorem dX7_isPart_2 : decode cX7_isPart 2 = .ok (.bipush 7, 2) := by decide +kernel
theorem dX7_isPart_4 : decode cX7_isPart 4 = .ok (.invokestatic 77, 3) := by decide +kernel
theorem dX7_isPart_7 : decode cX7_isPart 7 = .ok (.ireturn, 1) := by decide +kernel
theorem dX7_isDay_0 : decode cX7_isDay 0 = .ok (.iload_n 0, 1) := by decide +kernel
theorem dX7_isDay_1 : decode cX7_isDay 1 = .ok (.iconst 0, 1) := by decide +kernel
theorem dX7_isDay_2 : decode cX7_isDay 2 = .ok (.sipush 1000, 3) := by decide +kernel
theorem dX7_isDay_5 : decode cX7_isDay 5 = .ok (.invokestatic 77, 3) := by decide +kernel
theorem dX7_isDay_8 : decode cX7_isDay 8 = .ok (.ireturn, 1) := by decide +kernel
theorem dX7_setParts_0 : decode cX7_setParts 0 = .ok (.aload_n 0, 1) := by decide +kernel
theorem dX7_setParts_1 : decode cX7_setParts 1 = .ok (.iconst 0, 1) := by decide +kernel
theorem dX7_setParts_2 : decode cX7_setParts 2 = .ok (.putfield 74, 3) := by decide +kernel
theorem dX7_setParts_5 : decode cX7_setParts 5 = .ok (.iload_n 1, 1) := by decide +kernel
theorem dX7_setParts_6 : decode cX7_setParts 6 = .ok (.iconst 1, 1) := by decide +kernel
theorem dX7_setParts_7 : decode cX7_setParts 7 = .ok (.bipush 8, 2) := by decide +kernel
theorem dX7_setParts_9 : decode cX7_setParts 9 = .ok (.invokestatic 77, 3) := by decide +kernel
theorem dX7_setParts_12 : decode cX7_setParts 12 = .ok (.ifCond .ne 9, 3) := by decide +kernel
theorem dX7_setParts_15 : decode cX7_setParts 15 = .ok (.aload_n 0, 1) := by decide +kernel
theorem dX7_setParts_16 : decode cX7_setParts 16 = .ok (.iconst 1, 1) := by decide +kernel
theorem dX7_setParts_17 : decode cX7_setParts 17 = .ok (.invokevirtual 81, 3) := by decide +kernel
theorem dX7_setParts_20 : decode cX7_setParts 20 = .ok (.ireturn, 1) := by decide +kernel
theorem dX7_setParts_21 : decode cX7_setParts 21 = .ok (.aload_n 0, 1) := by decide +kernel
theorem dX7_setParts_22 : decode cX7_setParts 22 = .ok (.getfield 7, 3) := by decide +kernel
theorem dX7_setParts_25 : decode cX7_setParts 25 = .ok (.istore_n 2, 1) := by decide +kernel
theorem dX7_setParts_26 : decode cX7_setParts 26 = .ok (.aload_n 0, 1) := by decide +kernel
theorem dX7_setParts_27 : decode cX7_setParts 27 = .ok (.iload_n 1, 1) := by decide +kernel
theorem dX7_setParts_28 : decode cX7_setParts 28 = .ok (.putfield 7, 3) := by decide +kernel
theorem dX7_setParts_31 : decode cX7_setParts 31 = .ok (.iload_n 2, 1) := by decide +kernel
theorem dX7_setParts_32 : decode cX7_setParts 32 = .ok (.ireturn, 1) := by decide +kernel
theorem dX7_setSize_0 : decode cX7_setSize 0 = .ok (.aload_n 0, 1) := by decide +kernel
theorem dX7_setSize_1 : decode cX7_setSize 1 = .ok (.iconst 0, 1) := by decide +kernel
theorem dX7_setSize_2 : decode cX7_setSize 2 = .ok (.putfield 74, 3) := by decide +kernel
theorem dX7_setSize_5 : decode cX7_setSize 5 = .ok (.iload_n 1, 1) := by decide +kernel
theorem dX7_setSize_6 : decode cX7_setSize 6 = .ok (.invokestatic 85, 3) := by decide +kernel
theorem dX7_setSize_9 : decode cX7_setSize 9 = .ok (.ifCond .ne 9, 3) := by decide +kernel
theorem dX7_setSize_12 : decode cX7_setSize 12 = .ok (.aload_n 0, 1) := by decide +kernel
theorem dX7_setSize_13 : decode cX7_setSize 13 = .ok (.iconst 1, 1) := by decide +kernel
theorem dX7_setSize_14 : decode cX7_setSize 14 = .ok (.invokevirtual 81, 3) := by decide +kernel
theorem dX7_setSize_17 : decode cX7_setSize 17 = .ok (.ireturn, 1) := by decide +kernel
theorem dX7_setSize_18 : decode cX7_setSize 18 = .ok (.iload_n 2, 1) := by decide +kernel
theorem dX7_setSize_19 : decode cX7_setSize 19 = .ok (.iconst 0, 1) := by decide +kernel
theorem dX7_setSize_20 : decode cX7_setSize 20 = .ok (.bipush 9, 2) := by decide +kernel
theorem dX7_setSize_22 : decode cX7_setSize 22 = .ok (.invokestatic 77, 3) := by decide +kernel
theorem dX7_setSize_25 : decode cX7_setSize 25 = .ok (.ifCond .ne 9, 3) := by decide +kernel
theorem dX7_setSize_28 : decode cX7_setSize 28 = .ok (.aload_n 0, 1) := by decide +kernel
theorem dX7_setSize_29 : decode cX7_setSize 29 = .ok (.iconst 2, 1) := by decide +kernel
theorem dX7_setSize_30 : decode cX7_setSize 30 = .ok (.invokevirtual 81, 3) := by decide +kernel
theorem dX7_setSize_33 : decode cX7_setSize 33 = .ok (.ireturn, 1) := by decide +kernel
theorem dX7_setSize_34 : decode cX7_setSize 34 = .ok (.aload_n 0, 1) := by decide +kernel
theorem dX7_setSize_35 : decode cX7_setSize 35 = .ok (.getfield 13, 3) := by decide +kernel
theorem dX7_setSize_38 : decode cX7_setSize 38 = .ok (.iload_n 1, 1) := by decide +kernel
theorem dX7_setSize_39 : decode cX7_setSize 39 = .ok (.iaload, 1) := by decide +kernel
theorem dX7_setSize_40 : decode cX7_setSize 40 = .ok (.istore_n 3, 1) := by decide +kernel
theorem dX7_setSize_41 : decode cX7_setSize 41 = .ok (.aload_n 0, 1) := by decide +kernel
theorem dX7_setSize_42 : decode cX7_setSize 42 = .ok (.getfield 13, 3) := by decide +kernel
theorem dX7_setSize_45 : decode cX7_setSize 45 = .ok (.iload_n 1, 1) := by decide +kernel
theorem dX7_setSize_46 : decode cX7_setSize 46 = .ok (.iload_n 2, 1) := by decide +kernel
theorem dX7_setSize_47 : decode cX7_setSize 47 = .ok (.iastore, 1) := by decide +kernel
theorem dX7_setSize_48 : decode cX7_setSize 48 = .ok (.iload_n 3, 1) := by decide +kernel
theorem dX7_setSize_49 : decode cX7_setSize 49 = .ok (.ireturn, 1) := by decide +kernel
theorem dX7_knownBy_0 : decode cX7_knownBy 0 = .ok (.iconst 0, 1) := by decide +kernel
theorem dX7_knownBy_1 : decode cX7_knownBy 1 = .ok (.istore_n 2, 1) := by decide +kernel
theorem dX7_knownBy_2 : decode cX7_knownBy 2 = .ok (.iconst 0, 1) := by decide +kernel
theorem dX7_knownBy_3 : decode cX7_knownBy 3 = .ok (.istore_n 3, 1) := by decide +kernel
theorem dX7_knownBy_4 : decode cX7_knownBy 4 = .ok (.iload_n 3, 1) := by decide +kernel
theorem dX7_knownBy_5 : decode cX7_knownBy 5 = .ok (.bipush 8, 2) := by decide +kernel
theorem dX7_knownBy_7 : decode cX7_knownBy 7 = .ok (.if_icmp .ge 22, 3) := by decide +kernel
theorem dX7_knownBy_10 : decode cX7_knownBy 10 = .ok (.iload_n 2, 1) := by decide +kernel
theorem dX7_knownBy_11 : decode cX7_knownBy 11 = .ok (.aload_n 0, 1) := by decide +kernel
theorem dX7_knownBy_12 : decode cX7_knownBy 12 = .ok (.getfield 17, 3) := by decide +kernel
theorem dX7_knownBy_15 : decode cX7_knownBy 15 = .ok (.iload_n 1, 1) := by decide +kernel
theorem dX7_knownBy_16 : decode cX7_knownBy 16 = .ok (.iaload, 1) := by decide +kernel
theorem dX7_knownBy_17 : decode cX7_knownBy 17 = .ok (.iload_n 3, 1) := by decide +kernel
theorem dX7_knownBy_18 : decode cX7_knownBy 18 = .ok (.ishr, 1) := by decide +kernel
theorem dX7_knownBy_19 : decode cX7_knownBy 19 = .ok (.iconst 1, 1) := by decide +kernel
theorem dX7_knownBy_20 : decode cX7_knownBy 20 = .ok (.iand, 1) := by decide +kernel
theorem dX7_knownBy_21 : decode cX7_knownBy 21 = .ok (.iadd, 1) := by decide +kernel
theorem dX7_knownBy_22 : decode cX7_knownBy 22 = .ok (.istore_n 2, 1) := by decide +kernel
theorem dX7_knownBy_23 : decode cX7_knownBy 23 = .ok (.iinc 3 1, 3) := by decide +kernel
theorem dX7_knownBy_26 : decode cX7_knownBy 26 = .ok (.goto (-22), 3) := by decide +kernel
theorem dX7_knownBy_29 : decode cX7_knownBy 29 = .ok (.iload_n 2, 1) := by decide +kernel
theorem dX7_knownBy_30 : decode cX7_knownBy 30 = .ok (.ireturn, 1) := by decide +kernel
theorem dX7_knows_0 : decode cX7_knows 0 = .ok (.aload_n 0, 1) := by decide +kernel
theorem dX7_knows_1 : decode cX7_knows 1 = .ok (.getfield 17, 3) := by decide +kernel
theorem dX7_knows_4 : decode cX7_knows 4 = .ok (.iload_n 1, 1) := by decide +kernel
theorem dX7_knows_5 : decode cX7_knows 5 = .ok (.iaload, 1) := by decide +kernel
theorem dX7_knows_6 : decode cX7_knows 6 = .ok (.iload_n 2, 1) := by decide +kernel
theorem dX7_knows_7 : decode cX7_knows 7 = .ok (.ishr, 1) := by decide +kernel
theorem dX7_knows_8 : decode cX7_knows 8 = .ok (.iconst 1, 1) := by decide +kernel
theorem dX7_knows_9 : decode cX7_knows 9 = .ok (.iand, 1) := by decide +kernel
theorem dX7_knows_10 : decode cX7_knows 10 = .ok (.iconst 1, 1) := by decide +kernel
theorem dX7_knows_11 : decode cX7_knows 11 = .ok (.if_icmp .ne 7, 3) := by decide +kernel
theorem dX7_knows_14 : decode cX7_knows 14 = .ok (.iconst 1, 1) := by decide +kernel
theorem dX7_knows_15 : decode cX7_knows 15 = .ok (.goto 4, 3) := by decide +kernel
theorem dX7_knows_18 : decode cX7_knows 18 = .ok (.iconst 0, 1) := by decide +kernel
theorem dX7_knows_19 : decode cX7_knows 19 = .ok (.ireturn, 1) := by decide +kernel
theorem dX7_learn_0 : decode cX7_learn 0 = .ok (.aload_n 0, 1) := by decide +kernel
theorem dX7_learn_1 : decode cX7_learn 1 = .ok (.iconst 0, 1) := by decide +kernel
theorem dX7_learn_2 : decode cX7_learn 2 = .ok (.putfield 74, 3) := by decide +kernel
theorem dX7_learn_5 : decode cX7_learn 5 = .ok (.iload_n 1, 1) := by decide +kernel
theorem dX7_learn_6 : decode cX7_learn 6 = .ok (.invokestatic 85, 3) := by decide +kernel
theorem dX7_learn_9 : decode cX7_learn 9 = .ok (.ifCond .eq 10, 3) := by decide +kernel
theorem dX7_learn_12 : decode cX7_learn 12 = .ok (.iload_n 2, 1) := by decide +kernel
theorem dX7_learn_13 : decode cX7_learn 13 = .ok (.invokestatic 89, 3) := by decide +kernel
theorem dX7_learn_16 : decode cX7_learn 16 = .ok (.ifCond .ne 9, 3) := by decide +kernel
theorem dX7_learn_19 : decode cX7_learn 19 = .ok (.aload_n 0, 1) := by decide +kernel
theorem dX7_learn_20 : decode cX7_learn 20 = .ok (.iconst 1, 1) := by decide +kernel
theorem dX7_learn_21 : decode cX7_learn 21 = .ok (.invokevirtual 81, 3) := by decide +kernel
theorem dX7_learn_24 : decode cX7_learn 24 = .ok (.ireturn, 1) := by decide +kernel
theorem dX7_learn_25 : decode cX7_learn 25 = .ok (.iload_n 3, 1) := by decide +kernel
theorem dX7_learn_26 : decode cX7_learn 26 = .ok (.ifCond .eq 27, 3) := by decide +kernel
theorem dX7_learn_29 : decode cX7_learn 29 = .ok (.aload_n 0, 1) := by decide +kernel
theorem dX7_learn_30 : decode cX7_learn 30 = .ok (.iload_n 1, 1) := by decide +kernel
theorem dX7_learn_31 : decode cX7_learn 31 = .ok (.iload_n 2, 1) := by decide +kernel
theorem dX7_learn_32 : decode cX7_learn 32 = .ok (.invokevirtual 92, 3) := by decide +kernel
theorem dX7_learn_35 : decode cX7_learn 35 = .ok (.ifCond .ne 18, 3) := by decide +kernel
theorem dX7_learn_38 : decode cX7_learn 38 = .ok (.aload_n 0, 1) := by decide +kernel
theorem dX7_learn_39 : decode cX7_learn 39 = .ok (.iload_n 1, 1) := by decide +kernel
theorem dX7_learn_40 : decode cX7_learn 40 = .ok (.invokevirtual 96, 3) := by decide +kernel
theorem dX7_learn_43 : decode cX7_learn 43 = .ok (.iconst 4, 1) := by decide +kernel
theorem dX7_learn_44 : decode cX7_learn 44 = .ok (.if_icmp .ne 9, 3) := by decide +kernel
theorem dX7_learn_47 : decode cX7_learn 47 = .ok (.aload_n 0, 1) := by decide +kernel
theorem dX7_learn_48 : decode cX7_learn 48 = .ok (.iconst 2, 1) := by decide +kernel
theorem dX7_learn_49 : decode cX7_learn 49 = .ok (.invokevirtual 81, 3) := by decide +kernel
theorem dX7_learn_52 : decode cX7_learn 52 = .ok (.ireturn, 1) := by decide +kernel
theorem dX7_learn_53 : decode cX7_learn 53 = .ok (.iload_n 3, 1) := by decide +kernel
theorem dX7_learn_54 : decode cX7_learn 54 = .ok (.aload_n 0, 1) := by decide +kernel
theorem dX7_learn_55 : decode cX7_learn 55 = .ok (.iload_n 1, 1) := by decide +kernel
theorem dX7_learn_56 : decode cX7_learn 56 = .ok (.iload_n 2, 1) := by decide +kernel
theorem dX7_learn_57 : decode cX7_learn 57 = .ok (.invokevirtual 92, 3) := by decide +kernel
theorem dX7_learn_60 : decode cX7_learn 60 = .ok (.if_icmp .eq 15, 3) := by decide +kernel
theorem dX7_learn_63 : decode cX7_learn 63 = .ok (.aload_n 0, 1) := by decide +kernel
theorem dX7_learn_64 : decode cX7_learn 64 = .ok (.getfield 17, 3) := by decide +kernel
theorem dX7_learn_67 : decode cX7_learn 67 = .ok (.iload_n 1, 1) := by decide +kernel
theorem dX7_learn_68 : decode cX7_learn 68 = .ok (.dup2, 1) := by decide +kernel
theorem dX7_learn_69 : decode cX7_learn 69 = .ok (.iaload, 1) := by decide +kernel
theorem dX7_learn_70 : decode cX7_learn 70 = .ok (.iconst 1, 1) := by decide +kernel
theorem dX7_learn_71 : decode cX7_learn 71 = .ok (.iload_n 2, 1) := by decide +kernel
theorem dX7_learn_72 : decode cX7_learn 72 = .ok (.ishl, 1) := by decide +kernel
theorem dX7_learn_73 : decode cX7_learn 73 = .ok (.ixor, 1) := by decide +kernel
theorem dX7_learn_74 : decode cX7_learn 74 = .ok (.iastore, 1) := by decide +kernel
theorem dX7_learn_75 : decode cX7_learn 75 = .ok (.aload_n 0, 1) := by decide +kernel
theorem dX7_learn_76 : decode cX7_learn 76 = .ok (.iload_n 1, 1) := by decide +kernel
theorem dX7_learn_77 : decode cX7_learn 77 = .ok (.invokevirtual 96, 3) := by decide +kernel
theorem dX7_learn_80 : decode cX7_learn 80 = .ok (.ireturn, 1) := by decide +kernel
theorem dX7_rankOf_0 : decode cX7_rankOf 0 = .ok (.iconst 0, 1) := by decide +kernel
theorem dX7_rankOf_1 : decode cX7_rankOf 1 = .ok (.istore_n 3, 1) := by decide +kernel
theorem dX7_rankOf_2 : decode cX7_rankOf 2 = .ok (.iload_n 3, 1) := by decide +kernel
theorem dX7_rankOf_3 : decode cX7_rankOf 3 = .ok (.aload_n 0, 1) := by decide +kernel
theorem dX7_rankOf_4 : decode cX7_rankOf 4 = .ok (.getfield 23, 3) := by decide +kernel
theorem dX7_rankOf_7 : decode cX7_rankOf 7 = .ok (.iload_n 1, 1) := by decide +kernel
theorem dX7_rankOf_8 : decode cX7_rankOf 8 = .ok (.iaload, 1) := by decide +kernel
theorem dX7_rankOf_9 : decode cX7_rankOf 9 = .ok (.if_icmp .ge 23, 3) := by decide +kernel
theorem dX7_rankOf_12 : decode cX7_rankOf 12 = .ok (.aload_n 0, 1) := by decide +kernel
theorem dX7_rankOf_13 : decode cX7_rankOf 13 = .ok (.getfield 20, 3) := by decide +kernel
theorem dX7_rankOf_16 : decode cX7_rankOf 16 = .ok (.iconst 4, 1) := by decide +kernel
theorem dX7_rankOf_17 : decode cX7_rankOf 17 = .ok (.iload_n 1, 1) := by decide +kernel
theorem dX7_rankOf_18 : decode cX7_rankOf 18 = .ok (.imul, 1) := by decide +kernel
theorem dX7_rankOf_19 : decode cX7_rankOf 19 = .ok (.iload_n 3, 1) := by decide +kernel
theorem dX7_rankOf_20 : decode cX7_rankOf 20 = .ok (.iadd, 1) := by decide +kernel
theorem dX7_rankOf_21 : decode cX7_rankOf 21 = .ok (.iaload, 1) := by decide +kernel
theorem dX7_rankOf_22 : decode cX7_rankOf 22 = .ok (.iload_n 2, 1) := by decide +kernel
theorem dX7_rankOf_23 : decode cX7_rankOf 23 = .ok (.if_icmp .eq 9, 3) := by decide +kernel
theorem dX7_rankOf_26 : decode cX7_rankOf 26 = .ok (.iinc 3 1, 3) := by decide +kernel
theorem dX7_rankOf_29 : decode cX7_rankOf 29 = .ok (.goto (-27), 3) := by decide +kernel
theorem dX7_rankOf_32 : decode cX7_rankOf 32 = .ok (.iload_n 3, 1) := by decide +kernel
theorem dX7_rankOf_33 : decode cX7_rankOf 33 = .ok (.aload_n 0, 1) := by decide +kernel
theorem dX7_rankOf_34 : decode cX7_rankOf 34 = .ok (.getfield 23, 3) := by decide +kernel
theorem dX7_rankOf_37 : decode cX7_rankOf 37 = .ok (.iload_n 1, 1) := by decide +kernel
theorem dX7_rankOf_38 : decode cX7_rankOf 38 = .ok (.iaload, 1) := by decide +kernel
theorem dX7_rankOf_39 : decode cX7_rankOf 39 = .ok (.if_icmp .ge 7, 3) := by decide +kernel
theorem dX7_rankOf_42 : decode cX7_rankOf 42 = .ok (.iload_n 3, 1) := by decide +kernel
theorem dX7_rankOf_43 : decode cX7_rankOf 43 = .ok (.goto 4, 3) := by decide +kernel
theorem dX7_rankOf_46 : decode cX7_rankOf 46 = .ok (.iconst (-1), 1) := by decide +kernel
theorem dX7_rankOf_47 : decode cX7_rankOf 47 = .ok (.ireturn, 1) := by decide +kernel
theorem dX7_put_0 : decode cX7_put 0 = .ok (.aload_n 0, 1) := by decide +kernel
theorem dX7_put_1 : decode cX7_put 1 = .ok (.iconst 0, 1) := by decide +kernel
theorem dX7_put_2 : decode cX7_put 2 = .ok (.putfield 74, 3) := by decide +kernel
theorem dX7_put_5 : decode cX7_put 5 = .ok (.iload_n 1, 1) := by decide +kernel
theorem dX7_put_6 : decode cX7_put 6 = .ok (.invokestatic 89, 3) := by decide +kernel
theorem dX7_put_9 : decode cX7_put 9 = .ok (.ifCond .eq 10, 3) := by decide +kernel
theorem dX7_put_12 : decode cX7_put 12 = .ok (.iload_n 2, 1) := by decide +kernel
theorem dX7_put_13 : decode cX7_put 13 = .ok (.invokestatic 85, 3) := by decide +kernel
theorem dX7_put_16 : decode cX7_put 16 = .ok (.ifCond .ne 9, 3) := by decide +kernel
theorem dX7_put_19 : decode cX7_put 19 = .ok (.aload_n 0, 1) := by decide +kernel
theorem dX7_put_20 : decode cX7_put 20 = .ok (.iconst 1, 1) := by decide +kernel
theorem dX7_put_21 : decode cX7_put 21 = .ok (.invokevirtual 81, 3) := by decide +kernel
theorem dX7_put_24 : decode cX7_put 24 = .ok (.ireturn, 1) := by decide +kernel
theorem dX7_put_25 : decode cX7_put 25 = .ok (.aload_n 0, 1) := by decide +kernel
theorem dX7_put_26 : decode cX7_put 26 = .ok (.iload_n 1, 1) := by decide +kernel
theorem dX7_put_27 : decode cX7_put 27 = .ok (.iload_n 2, 1) := by decide +kernel
theorem dX7_put_28 : decode cX7_put 28 = .ok (.invokevirtual 99, 3) := by decide +kernel
theorem dX7_put_31 : decode cX7_put 31 = .ok (.iconst (-1), 1) := by decide +kernel
theorem dX7_put_32 : decode cX7_put 32 = .ok (.if_icmp .ne 13, 3) := by decide +kernel
theorem dX7_put_35 : decode cX7_put 35 = .ok (.aload_n 0, 1) := by decide +kernel
theorem dX7_put_36 : decode cX7_put 36 = .ok (.getfield 23, 3) := by decide +kernel
theorem dX7_put_39 : decode cX7_put 39 = .ok (.iload_n 1, 1) := by decide +kernel
theorem dX7_put_40 : decode cX7_put 40 = .ok (.iaload, 1) := by decide +kernel
theorem dX7_put_41 : decode cX7_put 41 = .ok (.iconst 4, 1) := by decide +kernel
theorem dX7_put_42 : decode cX7_put 42 = .ok (.if_icmp .ne 9, 3) := by decide +kernel
theorem dX7_put_45 : decode cX7_put 45 = .ok (.aload_n 0, 1) := by decide +kernel
theorem dX7_put_46 : decode cX7_put 46 = .ok (.iconst 2, 1) := by decide +kernel
theorem dX7_put_47 : decode cX7_put 47 = .ok (.invokevirtual 81, 3) := by decide +kernel
theorem dX7_put_50 : decode cX7_put 50 = .ok (.ireturn, 1) := by decide +kernel
theorem dX7_put_51 : decode cX7_put 51 = .ok (.aload_n 0, 1) := by decide +kernel
theorem dX7_put_52 : decode cX7_put 52 = .ok (.getfield 20, 3) := by decide +kernel
theorem dX7_put_55 : decode cX7_put 55 = .ok (.iconst 4, 1) := by decide +kernel
theorem dX7_put_56 : decode cX7_put 56 = .ok (.iload_n 1, 1) := by decide +kernel
theorem dX7_put_57 : decode cX7_put 57 = .ok (.imul, 1) := by decide +kernel
theorem dX7_put_58 : decode cX7_put 58 = .ok (.aload_n 0, 1) := by decide +kernel
theorem dX7_put_59 : decode cX7_put 59 = .ok (.getfield 23, 3) := by decide +kernel
theorem dX7_put_62 : decode cX7_put 62 = .ok (.iload_n 1, 1) := by decide +kernel
theorem dX7_put_63 : decode cX7_put 63 = .ok (.iaload, 1) := by decide +kernel
theorem dX7_put_64 : decode cX7_put 64 = .ok (.iadd, 1) := by decide +kernel
theorem dX7_put_65 : decode cX7_put 65 = .ok (.iload_n 2, 1) := by decide +kernel
theorem dX7_put_66 : decode cX7_put 66 = .ok (.iastore, 1) := by decide +kernel
theorem dX7_put_67 : decode cX7_put 67 = .ok (.aload_n 0, 1) := by decide +kernel
theorem dX7_put_68 : decode cX7_put 68 = .ok (.getfield 23, 3) := by decide +kernel
theorem dX7_put_71 : decode cX7_put 71 = .ok (.iload_n 1, 1) := by decide +kernel
theorem dX7_put_72 : decode cX7_put 72 = .ok (.dup2, 1) := by decide +kernel
theorem dX7_put_73 : decode cX7_put 73 = .ok (.iaload, 1) := by decide +kernel
theorem dX7_put_74 : decode cX7_put 74 = .ok (.iconst 1, 1) := by decide +kernel
theorem dX7_put_75 : decode cX7_put 75 = .ok (.iadd, 1) := by decide +kernel
theorem dX7_put_76 : decode cX7_put 76 = .ok (.iastore, 1) := by decide +kernel
theorem dX7_put_77 : decode cX7_put 77 = .ok (.aload_n 0, 1) := by decide +kernel
theorem dX7_put_78 : decode cX7_put 78 = .ok (.getfield 23, 3) := by decide +kernel
theorem dX7_put_81 : decode cX7_put 81 = .ok (.iload_n 1, 1) := by decide +kernel
theorem dX7_put_82 : decode cX7_put 82 = .ok (.iaload, 1) := by decide +kernel
theorem dX7_put_83 : decode cX7_put 83 = .ok (.iconst 1, 1) := by decide +kernel
theorem dX7_put_84 : decode cX7_put 84 = .ok (.isub, 1) := by decide +kernel
theorem dX7_put_85 : decode cX7_put 85 = .ok (.ireturn, 1) := by decide +kernel
theorem dX7_take_0 : decode cX7_take 0 = .ok (.aload_n 0, 1) := by decide +kernel
theorem dX7_take_1 : decode cX7_take 1 = .ok (.iconst 0, 1) := by decide +kernel
theorem dX7_take_2 : decode cX7_take 2 = .ok (.putfield 74, 3) := by decide +kernel
theorem dX7_take_5 : decode cX7_take 5 = .ok (.iload_n 1, 1) := by decide +kernel
theorem dX7_take_6 : decode cX7_take 6 = .ok (.invokestatic 89, 3) := by decide +kernel
theorem dX7_take_9 : decode cX7_take 9 = .ok (.ifCond .eq 10, 3) := by decide +kernel
theorem dX7_take_12 : decode cX7_take 12 = .ok (.iload_n 2, 1) := by decide +kernel
theorem dX7_take_13 : decode cX7_take 13 = .ok (.invokestatic 85, 3) := by decide +kernel
theorem dX7_take_16 : decode cX7_take 16 = .ok (.ifCond .ne 9, 3) := by decide +kernel
theorem dX7_take_19 : decode cX7_take 19 = .ok (.aload_n 0, 1) := by decide +kernel
theorem dX7_take_20 : decode cX7_take 20 = .ok (.iconst 1, 1) := by decide +kernel
theorem dX7_take_21 : decode cX7_take 21 = .ok (.invokevirtual 81, 3) := by decide +kernel
theorem dX7_take_24 : decode cX7_take 24 = .ok (.ireturn, 1) := by decide +kernel
theorem dX7_take_25 : decode cX7_take 25 = .ok (.aload_n 0, 1) := by decide +kernel
theorem dX7_take_26 : decode cX7_take 26 = .ok (.iload_n 1, 1) := by decide +kernel
theorem dX7_take_27 : decode cX7_take 27 = .ok (.iload_n 2, 1) := by decide +kernel
theorem dX7_take_28 : decode cX7_take 28 = .ok (.invokevirtual 99, 3) := by decide +kernel
theorem dX7_take_31 : decode cX7_take 31 = .ok (.istore_n 3, 1) := by decide +kernel
theorem dX7_take_32 : decode cX7_take 32 = .ok (.iload_n 3, 1) := by decide +kernel
theorem dX7_take_33 : decode cX7_take 33 = .ok (.iconst (-1), 1) := by decide +kernel
theorem dX7_take_34 : decode cX7_take 34 = .ok (.if_icmp .ne 9, 3) := by decide +kernel
theorem dX7_take_37 : decode cX7_take 37 = .ok (.aload_n 0, 1) := by decide +kernel
theorem dX7_take_38 : decode cX7_take 38 = .ok (.iconst 2, 1) := by decide +kernel
theorem dX7_take_39 : decode cX7_take 39 = .ok (.invokevirtual 81, 3) := by decide +kernel
theorem dX7_take_42 : decode cX7_take 42 = .ok (.ireturn, 1) := by decide +kernel
theorem dX7_take_43 : decode cX7_take 43 = .ok (.aload_n 0, 1) := by decide +kernel
theorem dX7_take_44 : decode cX7_take 44 = .ok (.getfield 23, 3) := by decide +kernel
theorem dX7_take_47 : decode cX7_take 47 = .ok (.iload_n 1, 1) := by decide +kernel
theorem dX7_take_48 : decode cX7_take 48 = .ok (.dup2, 1) := by decide +kernel
theorem dX7_take_49 : decode cX7_take 49 = .ok (.iaload, 1) := by decide +kernel
theorem dX7_take_50 : decode cX7_take 50 = .ok (.iconst 1, 1) := by decide +kernel
theorem dX7_take_51 : decode cX7_take 51 = .ok (.isub, 1) := by decide +kernel
theorem dX7_take_52 : decode cX7_take 52 = .ok (.iastore, 1) := by decide +kernel
theorem dX7_take_53 : decode cX7_take 53 = .ok (.iload_n 3, 1) := by decide +kernel
theorem dX7_take_54 : decode cX7_take 54 = .ok (.istore 4, 2) := by decide +kernel
theorem dX7_take_56 : decode cX7_take 56 = .ok (.iload 4, 2) := by decide +kernel
theorem dX7_take_58 : decode cX7_take 58 = .ok (.aload_n 0, 1) := by decide +kernel
theorem dX7_take_59 : decode cX7_take 59 = .ok (.getfield 23, 3) := by decide +kernel
theorem dX7_take_62 : decode cX7_take 62 = .ok (.iload_n 1, 1) := by decide +kernel
theorem dX7_take_63 : decode cX7_take 63 = .ok (.iaload, 1) := by decide +kernel
theorem dX7_take_64 : decode cX7_take 64 = .ok (.if_icmp .ge 33, 3) := by decide +kernel
theorem dX7_take_67 : decode cX7_take 67 = .ok (.aload_n 0, 1) := by decide +kernel
theorem dX7_take_68 : decode cX7_take 68 = .ok (.getfield 20, 3) := by decide +kernel
theorem dX7_take_71 : decode cX7_take 71 = .ok (.iconst 4, 1) := by decide +kernel
theorem dX7_take_72 : decode cX7_take 72 = .ok (.iload_n 1, 1) := by decide +kernel
theorem dX7_take_73 : decode cX7_take 73 = .ok (.imul, 1) := by decide +kernel
theorem dX7_take_74 : decode cX7_take 74 = .ok (.iload 4, 2) := by decide +kernel
theorem dX7_take_76 : decode cX7_take 76 = .ok (.iadd, 1) := by decide +kernel
theorem dX7_take_77 : decode cX7_take 77 = .ok (.aload_n 0, 1) := by decide +kernel
theorem dX7_take_78 : decode cX7_take 78 = .ok (.getfield 20, 3) := by decide +kernel
theorem dX7_take_81 : decode cX7_take 81 = .ok (.iconst 4, 1) := by decide +kernel
theorem dX7_take_82 : decode cX7_take 82 = .ok (.iload_n 1, 1) := by decide +kernel
theorem dX7_take_83 : decode cX7_take 83 = .ok (.imul, 1) := by decide +kernel
theorem dX7_take_84 : decode cX7_take 84 = .ok (.iload 4, 2) := by decide +kernel
theorem dX7_take_86 : decode cX7_take 86 = .ok (.iadd, 1) := by decide +kernel
theorem dX7_take_87 : decode cX7_take 87 = .ok (.iconst 1, 1) := by decide +kernel
theorem dX7_take_88 : decode cX7_take 88 = .ok (.iadd, 1) := by decide +kernel
theorem dX7_take_89 : decode cX7_take 89 = .ok (.iaload, 1) := by decide +kernel
theorem dX7_take_90 : decode cX7_take 90 = .ok (.iastore, 1) := by decide +kernel
theorem dX7_take_91 : decode cX7_take 91 = .ok (.iinc 4 1, 3) := by decide +kernel
theorem dX7_take_94 : decode cX7_take 94 = .ok (.goto (-38), 3) := by decide +kernel
theorem dX7_take_97 : decode cX7_take 97 = .ok (.iload_n 3, 1) := by decide +kernel
theorem dX7_take_98 : decode cX7_take 98 = .ok (.ireturn, 1) := by decide +kernel
theorem dX7_costume_0 : decode cX7_costume 0 = .ok (.aload_n 0, 1) := by decide +kernel
theorem dX7_costume_1 : decode cX7_costume 1 = .ok (.iconst 0, 1) := by decide +kernel
theorem dX7_costume_2 : decode cX7_costume 2 = .ok (.putfield 74, 3) := by decide +kernel
theorem dX7_costume_5 : decode cX7_costume 5 = .ok (.iload_n 1, 1) := by decide +kernel
theorem dX7_costume_6 : decode cX7_costume 6 = .ok (.invokestatic 89, 3) := by decide +kernel
theorem dX7_costume_9 : decode cX7_costume 9 = .ok (.ifCond .ne 9, 3) := by decide +kernel
theorem dX7_costume_12 : decode cX7_costume 12 = .ok (.aload_n 0, 1) := by decide +kernel
theorem dX7_costume_13 : decode cX7_costume 13 = .ok (.iconst 1, 1) := by decide +kernel
theorem dX7_costume_14 : decode cX7_costume 14 = .ok (.invokevirtual 81, 3) := by decide +kernel
theorem dX7_costume_17 : decode cX7_costume 17 = .ok (.ireturn, 1) := by decide +kernel
theorem dX7_costume_18 : decode cX7_costume 18 = .ok (.iload_n 2, 1) := by decide +kernel
theorem dX7_costume_19 : decode cX7_costume 19 = .ok (.iconst 0, 1) := by decide +kernel
theorem dX7_costume_20 : decode cX7_costume 20 = .ok (.bipush 9, 2) := by decide +kernel
theorem dX7_costume_22 : decode cX7_costume 22 = .ok (.invokestatic 77, 3) := by decide +kernel
theorem dX7_costume_25 : decode cX7_costume 25 = .ok (.ifCond .ne 9, 3) := by decide +kernel
theorem dX7_costume_28 : decode cX7_costume 28 = .ok (.aload_n 0, 1) := by decide +kernel
theorem dX7_costume_29 : decode cX7_costume 29 = .ok (.iconst 2, 1) := by decide +kernel
theorem dX7_costume_30 : decode cX7_costume 30 = .ok (.invokevirtual 81, 3) := by decide +kernel
theorem dX7_costume_33 : decode cX7_costume 33 = .ok (.ireturn, 1) := by decide +kernel
theorem dX7_costume_34 : decode cX7_costume 34 = .ok (.aload_n 0, 1) := by decide +kernel
theorem dX7_costume_35 : decode cX7_costume 35 = .ok (.getfield 103, 3) := by decide +kernel
theorem dX7_costume_38 : decode cX7_costume 38 = .ok (.bipush 40, 2) := by decide +kernel
theorem dX7_costume_40 : decode cX7_costume 40 = .ok (.if_icmp .ne 9, 3) := by decide +kernel
theorem dX7_costume_43 : decode cX7_costume 43 = .ok (.aload_n 0, 1) := by decide +kernel
theorem dX7_costume_44 : decode cX7_costume 44 = .ok (.iconst 3, 1) := by decide +kernel
theorem dX7_costume_45 : decode cX7_costume 45 = .ok (.invokevirtual 81, 3) := by decide +kernel
theorem dX7_costume_48 : decode cX7_costume 48 = .ok (.ireturn, 1) := by decide +kernel
theorem dX7_costume_49 : decode cX7_costume 49 = .ok (.aload_n 0, 1) := by decide +kernel
theorem dX7_costume_50 : decode cX7_costume 50 = .ok (.getfield 26, 3) := by decide +kernel
theorem dX7_costume_53 : decode cX7_costume 53 = .ok (.aload_n 0, 1) := by decide +kernel
theorem dX7_costume_54 : decode cX7_costume 54 = .ok (.getfield 103, 3) := by decide +kernel
theorem dX7_costume_57 : decode cX7_costume 57 = .ok (.iload_n 1, 1) := by decide +kernel
theorem dX7_costume_58 : decode cX7_costume 58 = .ok (.iastore, 1) := by decide +kernel
theorem dX7_costume_59 : decode cX7_costume 59 = .ok (.aload_n 0, 1) := by decide +kernel
theorem dX7_costume_60 : decode cX7_costume 60 = .ok (.getfield 29, 3) := by decide +kernel
theorem dX7_costume_63 : decode cX7_costume 63 = .ok (.aload_n 0, 1) := by decide +kernel
theorem dX7_costume_64 : decode cX7_costume 64 = .ok (.getfield 103, 3) := by decide +kernel
theorem dX7_costume_67 : decode cX7_costume 67 = .ok (.iload_n 2, 1) := by decide +kernel
theorem dX7_costume_68 : decode cX7_costume 68 = .ok (.iastore, 1) := by decide +kernel
theorem dX7_costume_69 : decode cX7_costume 69 = .ok (.aload_n 0, 1) := by decide +kernel
theorem dX7_costume_70 : decode cX7_costume 70 = .ok (.dup, 1) := by decide +kernel
theorem dX7_costume_71 : decode cX7_costume 71 = .ok (.getfield 103, 3) := by decide +kernel
theorem dX7_costume_74 : decode cX7_costume 74 = .ok (.iconst 1, 1) := by decide +kernel
theorem dX7_costume_75 : decode cX7_costume 75 = .ok (.iadd, 1) := by decide +kernel
theorem dX7_costume_76 : decode cX7_costume 76 = .ok (.putfield 103, 3) := by decide +kernel
theorem dX7_costume_79 : decode cX7_costume 79 = .ok (.aload_n 0, 1) := by decide +kernel
theorem dX7_costume_80 : decode cX7_costume 80 = .ok (.getfield 103, 3) := by decide +kernel
theorem dX7_costume_83 : decode cX7_costume 83 = .ok (.iconst 1, 1) := by decide +kernel
theorem dX7_costume_84 : decode cX7_costume 84 = .ok (.isub, 1) := by decide +kernel
theorem dX7_costume_85 : decode cX7_costume 85 = .ok (.ireturn, 1) := by decide +kernel
theorem dX7_sizeOf_0 : decode cX7_sizeOf 0 = .ok (.aload_n 0, 1) := by decide +kernel
theorem dX7_sizeOf_1 : decode cX7_sizeOf 1 = .ok (.iconst 0, 1) := by decide +kernel
theorem dX7_sizeOf_2 : decode cX7_sizeOf 2 = .ok (.putfield 74, 3) := by decide +kernel
theorem dX7_sizeOf_5 : decode cX7_sizeOf 5 = .ok (.iload_n 1, 1) := by decide +kernel
theorem dX7_sizeOf_6 : decode cX7_sizeOf 6 = .ok (.iconst 0, 1) := by decide +kernel
theorem dX7_sizeOf_7 : decode cX7_sizeOf 7 = .ok (.aload_n 0, 1) := by decide +kernel
theorem dX7_sizeOf_8 : decode cX7_sizeOf 8 = .ok (.getfield 103, 3) := by decide +kernel
theorem dX7_sizeOf_11 : decode cX7_sizeOf 11 = .ok (.iconst 1, 1) := by decide +kernel
theorem dX7_sizeOf_12 : decode cX7_sizeOf 12 = .ok (.isub, 1) := by decide +kernel
theorem dX7_sizeOf_13 : decode cX7_sizeOf 13 = .ok (.invokestatic 77, 3) := by decide +kernel
theorem dX7_sizeOf_16 : decode cX7_sizeOf 16 = .ok (.ifCond .eq 12, 3) := by decide +kernel
theorem dX7_sizeOf_19 : decode cX7_sizeOf 19 = .ok (.aload_n 0, 1) := by decide +kernel
theorem dX7_sizeOf_20 : decode cX7_sizeOf 20 = .ok (.getfield 29, 3) := by decide +kernel
theorem dX7_sizeOf_23 : decode cX7_sizeOf 23 = .ok (.iload_n 1, 1) := by decide +kernel
theorem dX7_sizeOf_24 : decode cX7_sizeOf 24 = .ok (.iaload, 1) := by decide +kernel
theorem dX7_sizeOf_25 : decode cX7_sizeOf 25 = .ok (.goto 8, 3) := by decide +kernel
theorem dX7_sizeOf_28 : decode cX7_sizeOf 28 = .ok (.aload_n 0, 1) := by decide +kernel
theorem dX7_sizeOf_29 : decode cX7_sizeOf 29 = .ok (.iconst 1, 1) := by decide +kernel
theorem dX7_sizeOf_30 : decode cX7_sizeOf 30 = .ok (.invokevirtual 81, 3) := by decide +kernel
theorem dX7_sizeOf_33 : decode cX7_sizeOf 33 = .ok (.ireturn, 1) := by decide +kernel
theorem dX7_cold_0 : decode cX7_cold 0 = .ok (.aload_n 0, 1) := by decide +kernel
theorem dX7_cold_1 : decode cX7_cold 1 = .ok (.iconst 0, 1) := by decide +kernel
theorem dX7_cold_2 : decode cX7_cold 2 = .ok (.putfield 74, 3) := by decide +kernel
theorem dX7_cold_5 : decode cX7_cold 5 = .ok (.iload_n 1, 1) := by decide +kernel
theorem dX7_cold_6 : decode cX7_cold 6 = .ok (.invokestatic 85, 3) := by decide +kernel
theorem dX7_cold_9 : decode cX7_cold 9 = .ok (.ifCond .ne 9, 3) := by decide +kernel
theorem dX7_cold_12 : decode cX7_cold 12 = .ok (.aload_n 0, 1) := by decide +kernel
theorem dX7_cold_13 : decode cX7_cold 13 = .ok (.iconst 1, 1) := by decide +kernel
theorem dX7_cold_14 : decode cX7_cold 14 = .ok (.invokevirtual 81, 3) := by decide +kernel
theorem dX7_cold_17 : decode cX7_cold 17 = .ok (.ireturn, 1) := by decide +kernel
theorem dX7_cold_18 : decode cX7_cold 18 = .ok (.iload_n 2, 1) := by decide +kernel
theorem dX7_cold_19 : decode cX7_cold 19 = .ok (.aload_n 0, 1) := by decide +kernel
theorem dX7_cold_20 : decode cX7_cold 20 = .ok (.getfield 106, 3) := by decide +kernel
theorem dX7_cold_23 : decode cX7_cold 23 = .ok (.sipush 1000, 3) := by decide +kernel
theorem dX7_cold_26 : decode cX7_cold 26 = .ok (.invokestatic 77, 3) := by decide +kernel
theorem dX7_cold_29 : decode cX7_cold 29 = .ok (.ifCond .eq 14, 3) := by decide +kernel
theorem dX7_cold_32 : decode cX7_cold 32 = .ok (.iload_n 3, 1) := by decide +kernel
theorem dX7_cold_33 : decode cX7_cold 33 = .ok (.iload_n 2, 1) := by decide +kernel
theorem dX7_cold_34 : decode cX7_cold 34 = .ok (.sipush 1000, 3) := by decide +kernel
theorem dX7_cold_37 : decode cX7_cold 37 = .ok (.invokestatic 77, 3) := by decide +kernel
theorem dX7_cold_40 : decode cX7_cold 40 = .ok (.ifCond .ne 9, 3) := by decide +kernel
theorem dX7_cold_43 : decode cX7_cold 43 = .ok (.aload_n 0, 1) := by decide +kernel
theorem dX7_cold_44 : decode cX7_cold 44 = .ok (.iconst 2, 1) := by decide +kernel
theorem dX7_cold_45 : decode cX7_cold 45 = .ok (.invokevirtual 81, 3) := by decide +kernel
theorem dX7_cold_48 : decode cX7_cold 48 = .ok (.ireturn, 1) := by decide +kernel
theorem dX7_cold_49 : decode cX7_cold 49 = .ok (.iconst 0, 1) := by decide +kernel
theorem dX7_cold_50 : decode cX7_cold 50 = .ok (.istore 4, 2) := by decide +kernel
theorem dX7_cold_52 : decode cX7_cold 52 = .ok (.iload_n 2, 1) := by decide +kernel
theorem dX7_cold_53 : decode cX7_cold 53 = .ok (.istore 5, 2) := by decide +kernel
theorem dX7_cold_55 : decode cX7_cold 55 = .ok (.iload 5, 2) := by decide +kernel
theorem dX7_cold_57 : decode cX7_cold 57 = .ok (.iload_n 3, 1) := by decide +kernel
theorem dX7_cold_58 : decode cX7_cold 58 = .ok (.if_icmp .gt 43, 3) := by decide +kernel
theorem dX7_cold_61 : decode cX7_cold 61 = .ok (.iload 4, 2) := by decide +kernel
theorem dX7_cold_63 : decode cX7_cold 63 = .ok (.iconst 1, 1) := by decide +kernel
theorem dX7_cold_64 : decode cX7_cold 64 = .ok (.aload_n 0, 1) := by decide +kernel
theorem dX7_cold_65 : decode cX7_cold 65 = .ok (.getfield 35, 3) := by decide +kernel
theorem dX7_cold_68 : decode cX7_cold 68 = .ok (.sipush 1001, 3) := by decide +kernel
theorem dX7_cold_71 : decode cX7_cold 71 = .ok (.iload_n 1, 1) := by decide +kernel
theorem dX7_cold_72 : decode cX7_cold 72 = .ok (.imul, 1) := by decide +kernel
theorem dX7_cold_73 : decode cX7_cold 73 = .ok (.iload 5, 2) := by decide +kernel
theorem dX7_cold_75 : decode cX7_cold 75 = .ok (.iadd, 1) := by decide +kernel
theorem dX7_cold_76 : decode cX7_cold 76 = .ok (.iaload, 1) := by decide +kernel
theorem dX7_cold_77 : decode cX7_cold 77 = .ok (.isub, 1) := by decide +kernel
theorem dX7_cold_78 : decode cX7_cold 78 = .ok (.iadd, 1) := by decide +kernel
theorem dX7_cold_79 : decode cX7_cold 79 = .ok (.istore 4, 2) := by decide +kernel
theorem dX7_cold_81 : decode cX7_cold 81 = .ok (.aload_n 0, 1) := by decide +kernel
theorem dX7_cold_82 : decode cX7_cold 82 = .ok (.getfield 35, 3) := by decide +kernel
theorem dX7_cold_85 : decode cX7_cold 85 = .ok (.sipush 1001, 3) := by decide +kernel
theorem dX7_cold_88 : decode cX7_cold 88 = .ok (.iload_n 1, 1) := by decide +kernel
theorem dX7_cold_89 : decode cX7_cold 89 = .ok (.imul, 1) := by decide +kernel
theorem dX7_cold_90 : decode cX7_cold 90 = .ok (.iload 5, 2) := by decide +kernel
theorem dX7_cold_92 : decode cX7_cold 92 = .ok (.iadd, 1) := by decide +kernel
theorem dX7_cold_93 : decode cX7_cold 93 = .ok (.iconst 1, 1) := by decide +kernel
theorem dX7_cold_94 : decode cX7_cold 94 = .ok (.iastore, 1) := by decide +kernel
theorem dX7_cold_95 : decode cX7_cold 95 = .ok (.iinc 5 1, 3) := by decide +kernel
theorem dX7_cold_98 : decode cX7_cold 98 = .ok (.goto (-43), 3) := by decide +kernel
theorem dX7_cold_101 : decode cX7_cold 101 = .ok (.iload 4, 2) := by decide +kernel
theorem dX7_cold_103 : decode cX7_cold 103 = .ok (.ireturn, 1) := by decide +kernel
theorem dX7_isIll_0 : decode cX7_isIll 0 = .ok (.aload_n 0, 1) := by decide +kernel
theorem dX7_isIll_1 : decode cX7_isIll 1 = .ok (.iconst 0, 1) := by decide +kernel
theorem dX7_isIll_2 : decode cX7_isIll 2 = .ok (.putfield 74, 3) := by decide +kernel
theorem dX7_isIll_5 : decode cX7_isIll 5 = .ok (.iload_n 1, 1) := by decide +kernel
theorem dX7_isIll_6 : decode cX7_isIll 6 = .ok (.invokestatic 85, 3) := by decide +kernel
theorem dX7_isIll_9 : decode cX7_isIll 9 = .ok (.ifCond .ne 18, 3) := by decide +kernel
theorem dX7_isIll_12 : decode cX7_isIll 12 = .ok (.aload_n 0, 1) := by decide +kernel
theorem dX7_isIll_13 : decode cX7_isIll 13 = .ok (.iconst 1, 1) := by decide +kernel
theorem dX7_isIll_14 : decode cX7_isIll 14 = .ok (.invokevirtual 81, 3) := by decide +kernel
theorem dX7_isIll_17 : decode cX7_isIll 17 = .ok (.iconst 1, 1) := by decide +kernel
theorem dX7_isIll_18 : decode cX7_isIll 18 = .ok (.if_icmp .ne 7, 3) := by decide +kernel
theorem dX7_isIll_21 : decode cX7_isIll 21 = .ok (.iconst 1, 1) := by decide +kernel
theorem dX7_isIll_22 : decode cX7_isIll 22 = .ok (.goto 4, 3) := by decide +kernel
theorem dX7_isIll_25 : decode cX7_isIll 25 = .ok (.iconst 0, 1) := by decide +kernel
theorem dX7_isIll_26 : decode cX7_isIll 26 = .ok (.ireturn, 1) := by decide +kernel
theorem dX7_isIll_27 : decode cX7_isIll 27 = .ok (.iload_n 2, 1) := by decide +kernel
theorem dX7_isIll_28 : decode cX7_isIll 28 = .ok (.invokestatic 109, 3) := by decide +kernel
theorem dX7_isIll_31 : decode cX7_isIll 31 = .ok (.ifCond .ne 18, 3) := by decide +kernel
theorem dX7_isIll_34 : decode cX7_isIll 34 = .ok (.aload_n 0, 1) := by decide +kernel
theorem dX7_isIll_35 : decode cX7_isIll 35 = .ok (.iconst 2, 1) := by decide +kernel
theorem dX7_isIll_36 : decode cX7_isIll 36 = .ok (.invokevirtual 81, 3) := by decide +kernel
theorem dX7_isIll_39 : decode cX7_isIll 39 = .ok (.iconst 1, 1) := by decide +kernel
theorem dX7_isIll_40 : decode cX7_isIll 40 = .ok (.if_icmp .ne 7, 3) := by decide +kernel
theorem dX7_isIll_43 : decode cX7_isIll 43 = .ok (.iconst 1, 1) := by decide +kernel
theorem dX7_isIll_44 : decode cX7_isIll 44 = .ok (.goto 4, 3) := by decide +kernel
theorem dX7_isIll_47 : decode cX7_isIll 47 = .ok (.iconst 0, 1) := by decide +kernel
theorem dX7_isIll_48 : decode cX7_isIll 48 = .ok (.ireturn, 1) := by decide +kernel
theorem dX7_isIll_49 : decode cX7_isIll 49 = .ok (.aload_n 0, 1) := by decide +kernel
theorem dX7_isIll_50 : decode cX7_isIll 50 = .ok (.getfield 35, 3) := by decide +kernel
theorem dX7_isIll_53 : decode cX7_isIll 53 = .ok (.sipush 1001, 3) := by decide +kernel
theorem dX7_isIll_56 : decode cX7_isIll 56 = .ok (.iload_n 1, 1) := by decide +kernel
theorem dX7_isIll_57 : decode cX7_isIll 57 = .ok (.imul, 1) := by decide +kernel
theorem dX7_isIll_58 : decode cX7_isIll 58 = .ok (.iload_n 2, 1) := by decide +kernel
theorem dX7_isIll_59 : decode cX7_isIll 59 = .ok (.iadd, 1) := by decide +kernel
theorem dX7_isIll_60 : decode cX7_isIll 60 = .ok (.iaload, 1) := by decide +kernel
theorem dX7_isIll_61 : decode cX7_isIll 61 = .ok (.iconst 1, 1) := by decide +kernel
theorem dX7_isIll_62 : decode cX7_isIll 62 = .ok (.if_icmp .ne 7, 3) := by decide +kernel
theorem dX7_isIll_65 : decode cX7_isIll 65 = .ok (.iconst 1, 1) := by decide +kernel
theorem dX7_isIll_66 : decode cX7_isIll 66 = .ok (.goto 4, 3) := by decide +kernel
theorem dX7_isIll_69 : decode cX7_isIll 69 = .ok (.iconst 0, 1) := by decide +kernel
theorem dX7_isIll_70 : decode cX7_isIll 70 = .ok (.ireturn, 1) := by decide +kernel
theorem dX7_fits_0 : decode cX7_fits 0 = .ok (.iconst 0, 1) := by decide +kernel
theorem dX7_fits_1 : decode cX7_fits 1 = .ok (.istore_n 3, 1) := by decide +kernel
theorem dX7_fits_2 : decode cX7_fits 2 = .ok (.iconst 0, 1) := by decide +kernel
theorem dX7_fits_3 : decode cX7_fits 3 = .ok (.istore 4, 2) := by decide +kernel
theorem dX7_fits_5 : decode cX7_fits 5 = .ok (.iload 4, 2) := by decide +kernel
theorem dX7_fits_7 : decode cX7_fits 7 = .ok (.aload_n 0, 1) := by decide +kernel
theorem dX7_fits_8 : decode cX7_fits 8 = .ok (.getfield 103, 3) := by decide +kernel
theorem dX7_fits_11 : decode cX7_fits 11 = .ok (.if_icmp .ge 44, 3) := by decide +kernel
theorem dX7_fits_14 : decode cX7_fits 14 = .ok (.iload_n 3, 1) := by decide +kernel
theorem dX7_fits_15 : decode cX7_fits 15 = .ok (.aload_n 0, 1) := by decide +kernel
theorem dX7_fits_16 : decode cX7_fits 16 = .ok (.getfield 26, 3) := by decide +kernel
theorem dX7_fits_19 : decode cX7_fits 19 = .ok (.iload 4, 2) := by decide +kernel
theorem dX7_fits_21 : decode cX7_fits 21 = .ok (.iaload, 1) := by decide +kernel
theorem dX7_fits_22 : decode cX7_fits 22 = .ok (.iload_n 2, 1) := by decide +kernel
theorem dX7_fits_23 : decode cX7_fits 23 = .ok (.if_icmp .ne 23, 3) := by decide +kernel
theorem dX7_fits_26 : decode cX7_fits 26 = .ok (.aload_n 0, 1) := by decide +kernel
theorem dX7_fits_27 : decode cX7_fits 27 = .ok (.getfield 29, 3) := by decide +kernel
theorem dX7_fits_30 : decode cX7_fits 30 = .ok (.iload 4, 2) := by decide +kernel
theorem dX7_fits_32 : decode cX7_fits 32 = .ok (.iaload, 1) := by decide +kernel
theorem dX7_fits_33 : decode cX7_fits 33 = .ok (.aload_n 0, 1) := by decide +kernel
theorem dX7_fits_34 : decode cX7_fits 34 = .ok (.getfield 13, 3) := by decide +kernel
theorem dX7_fits_37 : decode cX7_fits 37 = .ok (.iload_n 1, 1) := by decide +kernel
theorem dX7_fits_38 : decode cX7_fits 38 = .ok (.iaload, 1) := by decide +kernel
theorem dX7_fits_39 : decode cX7_fits 39 = .ok (.if_icmp .ne 7, 3) := by decide +kernel
theorem dX7_fits_42 : decode cX7_fits 42 = .ok (.iconst 1, 1) := by decide +kernel
theorem dX7_fits_43 : decode cX7_fits 43 = .ok (.goto 4, 3) := by decide +kernel
theorem dX7_fits_46 : decode cX7_fits 46 = .ok (.iconst 0, 1) := by decide +kernel
theorem dX7_fits_47 : decode cX7_fits 47 = .ok (.ior, 1) := by decide +kernel
theorem dX7_fits_48 : decode cX7_fits 48 = .ok (.istore_n 3, 1) := by decide +kernel
theorem dX7_fits_49 : decode cX7_fits 49 = .ok (.iinc 4 1, 3) := by decide +kernel
theorem dX7_fits_52 : decode cX7_fits 52 = .ok (.goto (-47), 3) := by decide +kernel
theorem dX7_fits_55 : decode cX7_fits 55 = .ok (.iload_n 3, 1) := by decide +kernel
theorem dX7_fits_56 : decode cX7_fits 56 = .ok (.ireturn, 1) := by decide +kernel
theorem dX7_toLetOut_0 : decode cX7_toLetOut 0 = .ok (.iconst 0, 1) := by decide +kernel
theorem dX7_toLetOut_1 : decode cX7_toLetOut 1 = .ok (.istore_n 3, 1) := by decide +kernel
theorem dX7_toLetOut_2 : decode cX7_toLetOut 2 = .ok (.iload_n 3, 1) := by decide +kernel
theorem dX7_toLetOut_3 : decode cX7_toLetOut 3 = .ok (.aload_n 0, 1) := by decide +kernel
theorem dX7_toLetOut_4 : decode cX7_toLetOut 4 = .ok (.getfield 103, 3) := by decide +kernel
theorem dX7_toLetOut_7 : decode cX7_toLetOut 7 = .ok (.if_icmp .ge 46, 3) := by decide +kernel
theorem dX7_toLetOut_10 : decode cX7_toLetOut 10 = .ok (.aload_n 0, 1) := by decide +kernel
theorem dX7_toLetOut_11 : decode cX7_toLetOut 11 = .ok (.getfield 26, 3) := by decide +kernel
theorem dX7_toLetOut_14 : decode cX7_toLetOut 14 = .ok (.iload_n 3, 1) := by decide +kernel
theorem dX7_toLetOut_15 : decode cX7_toLetOut 15 = .ok (.iaload, 1) := by decide +kernel
theorem dX7_toLetOut_16 : decode cX7_toLetOut 16 = .ok (.iload_n 2, 1) := by decide +kernel
theorem dX7_toLetOut_17 : decode cX7_toLetOut 17 = .ok (.if_icmp .ne 30, 3) := by decide +kernel
theorem dX7_toLetOut_20 : decode cX7_toLetOut 20 = .ok (.aload_n 0, 1) := by decide +kernel
theorem dX7_toLetOut_21 : decode cX7_toLetOut 21 = .ok (.getfield 32, 3) := by decide +kernel
theorem dX7_toLetOut_24 : decode cX7_toLetOut 24 = .ok (.iload_n 3, 1) := by decide +kernel
theorem dX7_toLetOut_25 : decode cX7_toLetOut 25 = .ok (.iaload, 1) := by decide +kernel
theorem dX7_toLetOut_26 : decode cX7_toLetOut 26 = .ok (.iconst 1, 1) := by decide +kernel
theorem dX7_toLetOut_27 : decode cX7_toLetOut 27 = .ok (.if_icmp .eq 20, 3) := by decide +kernel
theorem dX7_toLetOut_30 : decode cX7_toLetOut 30 = .ok (.aload_n 0, 1) := by decide +kernel
theorem dX7_toLetOut_31 : decode cX7_toLetOut 31 = .ok (.getfield 29, 3) := by decide +kernel
theorem dX7_toLetOut_34 : decode cX7_toLetOut 34 = .ok (.iload_n 3, 1) := by decide +kernel
theorem dX7_toLetOut_35 : decode cX7_toLetOut 35 = .ok (.iaload, 1) := by decide +kernel
theorem dX7_toLetOut_36 : decode cX7_toLetOut 36 = .ok (.iconst 1, 1) := by decide +kernel
theorem dX7_toLetOut_37 : decode cX7_toLetOut 37 = .ok (.iadd, 1) := by decide +kernel
theorem dX7_toLetOut_38 : decode cX7_toLetOut 38 = .ok (.aload_n 0, 1) := by decide +kernel
theorem dX7_toLetOut_39 : decode cX7_toLetOut 39 = .ok (.getfield 13, 3) := by decide +kernel
theorem dX7_toLetOut_42 : decode cX7_toLetOut 42 = .ok (.iload_n 1, 1) := by decide +kernel
theorem dX7_toLetOut_43 : decode cX7_toLetOut 43 = .ok (.iaload, 1) := by decide +kernel
theorem dX7_toLetOut_44 : decode cX7_toLetOut 44 = .ok (.if_icmp .eq 9, 3) := by decide +kernel
theorem dX7_toLetOut_47 : decode cX7_toLetOut 47 = .ok (.iinc 3 1, 3) := by decide +kernel
theorem dX7_toLetOut_50 : decode cX7_toLetOut 50 = .ok (.goto (-48), 3) := by decide +kernel
theorem dX7_toLetOut_53 : decode cX7_toLetOut 53 = .ok (.iload_n 3, 1) := by decide +kernel
theorem dX7_toLetOut_54 : decode cX7_toLetOut 54 = .ok (.aload_n 0, 1) := by decide +kernel
theorem dX7_toLetOut_55 : decode cX7_toLetOut 55 = .ok (.getfield 103, 3) := by decide +kernel
theorem dX7_toLetOut_58 : decode cX7_toLetOut 58 = .ok (.if_icmp .ge 7, 3) := by decide +kernel
theorem dX7_toLetOut_61 : decode cX7_toLetOut 61 = .ok (.iload_n 3, 1) := by decide +kernel
theorem dX7_toLetOut_62 : decode cX7_toLetOut 62 = .ok (.goto 4, 3) := by decide +kernel
theorem dX7_toLetOut_65 : decode cX7_toLetOut 65 = .ok (.iconst (-1), 1) := by decide +kernel
theorem dX7_toLetOut_66 : decode cX7_toLetOut 66 = .ok (.ireturn, 1) := by decide +kernel
theorem dX7_can_0 : decode cX7_can 0 = .ok (.aload_n 0, 1) := by decide +kernel
theorem dX7_can_1 : decode cX7_can 1 = .ok (.iload_n 2, 1) := by decide +kernel
theorem dX7_can_2 : decode cX7_can 2 = .ok (.iload_n 1, 1) := by decide +kernel
theorem dX7_can_3 : decode cX7_can 3 = .ok (.invokevirtual 99, 3) := by decide +kernel
theorem dX7_can_6 : decode cX7_can 6 = .ok (.iconst (-1), 1) := by decide +kernel
theorem dX7_can_7 : decode cX7_can 7 = .ok (.if_icmp .eq 31, 3) := by decide +kernel
theorem dX7_can_10 : decode cX7_can 10 = .ok (.aload_n 0, 1) := by decide +kernel
theorem dX7_can_11 : decode cX7_can 11 = .ok (.iload_n 1, 1) := by decide +kernel
theorem dX7_can_12 : decode cX7_can 12 = .ok (.iload_n 2, 1) := by decide +kernel
theorem dX7_can_13 : decode cX7_can 13 = .ok (.invokevirtual 92, 3) := by decide +kernel
theorem dX7_can_16 : decode cX7_can 16 = .ok (.ifCond .eq 22, 3) := by decide +kernel
theorem dX7_can_19 : decode cX7_can 19 = .ok (.aload_n 0, 1) := by decide +kernel
theorem dX7_can_20 : decode cX7_can 20 = .ok (.getfield 35, 3) := by decide +kernel
theorem dX7_can_23 : decode cX7_can 23 = .ok (.sipush 1001, 3) := by decide +kernel
theorem dX7_can_26 : decode cX7_can 26 = .ok (.iload_n 1, 1) := by decide +kernel
theorem dX7_can_27 : decode cX7_can 27 = .ok (.imul, 1) := by decide +kernel
theorem dX7_can_28 : decode cX7_can 28 = .ok (.iload_n 3, 1) := by decide +kernel
theorem dX7_can_29 : decode cX7_can 29 = .ok (.iadd, 1) := by decide +kernel
theorem dX7_can_30 : decode cX7_can 30 = .ok (.iaload, 1) := by decide +kernel
theorem dX7_can_31 : decode cX7_can 31 = .ok (.ifCond .ne 7, 3) := by decide +kernel
theorem dX7_can_34 : decode cX7_can 34 = .ok (.iconst 1, 1) := by decide +kernel
theorem dX7_can_35 : decode cX7_can 35 = .ok (.goto 4, 3) := by decide +kernel
theorem dX7_can_38 : decode cX7_can 38 = .ok (.iconst 0, 1) := by decide +kernel
theorem dX7_can_39 : decode cX7_can 39 = .ok (.istore 4, 2) := by decide +kernel
theorem dX7_can_41 : decode cX7_can 41 = .ok (.iload 4, 2) := by decide +kernel
theorem dX7_can_43 : decode cX7_can 43 = .ok (.ifCond .eq 26, 3) := by decide +kernel
theorem dX7_can_46 : decode cX7_can 46 = .ok (.aload_n 0, 1) := by decide +kernel
theorem dX7_can_47 : decode cX7_can 47 = .ok (.iload_n 1, 1) := by decide +kernel
theorem dX7_can_48 : decode cX7_can 48 = .ok (.iload_n 2, 1) := by decide +kernel
theorem dX7_can_49 : decode cX7_can 49 = .ok (.invokevirtual 112, 3) := by decide +kernel
theorem dX7_can_52 : decode cX7_can 52 = .ok (.ifCond .ne 13, 3) := by decide +kernel
theorem dX7_can_55 : decode cX7_can 55 = .ok (.aload_n 0, 1) := by decide +kernel
theorem dX7_can_56 : decode cX7_can 56 = .ok (.iload_n 1, 1) := by decide +kernel
theorem dX7_can_57 : decode cX7_can 57 = .ok (.iload_n 2, 1) := by decide +kernel
theorem dX7_can_58 : decode cX7_can 58 = .ok (.invokevirtual 115, 3) := by decide +kernel
theorem dX7_can_61 : decode cX7_can 61 = .ok (.iconst (-1), 1) := by decide +kernel
theorem dX7_can_62 : decode cX7_can 62 = .ok (.if_icmp .eq 7, 3) := by decide +kernel
theorem dX7_can_65 : decode cX7_can 65 = .ok (.iconst 1, 1) := by decide +kernel
theorem dX7_can_66 : decode cX7_can 66 = .ok (.goto 4, 3) := by decide +kernel
theorem dX7_can_69 : decode cX7_can 69 = .ok (.iconst 0, 1) := by decide +kernel
theorem dX7_can_70 : decode cX7_can 70 = .ok (.ireturn, 1) := by decide +kernel
theorem dX7_canPlay_0 : decode cX7_canPlay 0 = .ok (.aload_n 0, 1) := by decide +kernel
theorem dX7_canPlay_1 : decode cX7_canPlay 1 = .ok (.iconst 0, 1) := by decide +kernel
theorem dX7_canPlay_2 : decode cX7_canPlay 2 = .ok (.putfield 74, 3) := by decide +kernel
theorem dX7_canPlay_5 : decode cX7_canPlay 5 = .ok (.iload_n 1, 1) := by decide +kernel
theorem dX7_canPlay_6 : decode cX7_canPlay 6 = .ok (.invokestatic 85, 3) := by decide +kernel
theorem dX7_canPlay_9 : decode cX7_canPlay 9 = .ok (.ifCond .eq 10, 3) := by decide +kernel
theorem dX7_canPlay_12 : decode cX7_canPlay 12 = .ok (.iload_n 2, 1) := by decide +kernel
theorem dX7_canPlay_13 : decode cX7_canPlay 13 = .ok (.invokestatic 89, 3) := by decide +kernel
theorem dX7_canPlay_16 : decode cX7_canPlay 16 = .ok (.ifCond .ne 18, 3) := by decide +kernel
theorem dX7_canPlay_19 : decode cX7_canPlay 19 = .ok (.aload_n 0, 1) := by decide +kernel
theorem dX7_canPlay_20 : decode cX7_canPlay 20 = .ok (.iconst 1, 1) := by decide +kernel
theorem dX7_canPlay_21 : decode cX7_canPlay 21 = .ok (.invokevirtual 81, 3) := by decide +kernel
theorem dX7_canPlay_24 : decode cX7_canPlay 24 = .ok (.iconst 1, 1) := by decide +kernel
theorem dX7_canPlay_25 : decode cX7_canPlay 25 = .ok (.if_icmp .ne 7, 3) := by decide +kernel
theorem dX7_canPlay_28 : decode cX7_canPlay 28 = .ok (.iconst 1, 1) := by decide +kernel
theorem dX7_canPlay_29 : decode cX7_canPlay 29 = .ok (.goto 4, 3) := by decide +kernel
theorem dX7_canPlay_32 : decode cX7_canPlay 32 = .ok (.iconst 0, 1) := by decide +kernel
theorem dX7_canPlay_33 : decode cX7_canPlay 33 = .ok (.ireturn, 1) := by decide +kernel
theorem dX7_canPlay_34 : decode cX7_canPlay 34 = .ok (.iload_n 3, 1) := by decide +kernel
theorem dX7_canPlay_35 : decode cX7_canPlay 35 = .ok (.invokestatic 109, 3) := by decide +kernel
theorem dX7_canPlay_38 : decode cX7_canPlay 38 = .ok (.ifCond .ne 18, 3) := by decide +kernel
theorem dX7_canPlay_41 : decode cX7_canPlay 41 = .ok (.aload_n 0, 1) := by decide +kernel
theorem dX7_canPlay_42 : decode cX7_canPlay 42 = .ok (.iconst 2, 1) := by decide +kernel
theorem dX7_canPlay_43 : decode cX7_canPlay 43 = .ok (.invokevirtual 81, 3) := by decide +kernel
theorem dX7_canPlay_46 : decode cX7_canPlay 46 = .ok (.iconst 1, 1) := by decide +kernel
theorem dX7_canPlay_47 : decode cX7_canPlay 47 = .ok (.if_icmp .ne 7, 3) := by decide +kernel
theorem dX7_canPlay_50 : decode cX7_canPlay 50 = .ok (.iconst 1, 1) := by decide +kernel
theorem dX7_canPlay_51 : decode cX7_canPlay 51 = .ok (.goto 4, 3) := by decide +kernel
theorem dX7_canPlay_54 : decode cX7_canPlay 54 = .ok (.iconst 0, 1) := by decide +kernel
theorem dX7_canPlay_55 : decode cX7_canPlay 55 = .ok (.ireturn, 1) := by decide +kernel
theorem dX7_canPlay_56 : decode cX7_canPlay 56 = .ok (.aload_n 0, 1) := by decide +kernel
theorem dX7_canPlay_57 : decode cX7_canPlay 57 = .ok (.iload_n 1, 1) := by decide +kernel
theorem dX7_canPlay_58 : decode cX7_canPlay 58 = .ok (.iload_n 2, 1) := by decide +kernel
theorem dX7_canPlay_59 : decode cX7_canPlay 59 = .ok (.iload_n 3, 1) := by decide +kernel
theorem dX7_canPlay_60 : decode cX7_canPlay 60 = .ok (.invokevirtual 118, 3) := by decide +kernel
theorem dX7_canPlay_63 : decode cX7_canPlay 63 = .ok (.ireturn, 1) := by decide +kernel
theorem dX7_layAble_0 : decode cX7_layAble 0 = .ok (.iconst 0, 1) := by decide +kernel
theorem dX7_layAble_1 : decode cX7_layAble 1 = .ok (.istore_n 3, 1) := by decide +kernel
theorem dX7_layAble_2 : decode cX7_layAble 2 = .ok (.iload_n 3, 1) := by decide +kernel
theorem dX7_layAble_3 : decode cX7_layAble 3 = .ok (.iconst 4, 1) := by decide +kernel
theorem dX7_layAble_4 : decode cX7_layAble 4 = .ok (.aload_n 0, 1) := by decide +kernel
theorem dX7_layAble_5 : decode cX7_layAble 5 = .ok (.getfield 7, 3) := by decide +kernel
theorem dX7_layAble_8 : decode cX7_layAble 8 = .ok (.imul, 1) := by decide +kernel
theorem dX7_layAble_9 : decode cX7_layAble 9 = .ok (.if_icmp .ge 95, 3) := by decide +kernel
theorem dX7_layAble_12 : decode cX7_layAble 12 = .ok (.iload_n 3, 1) := by decide +kernel
theorem dX7_layAble_13 : decode cX7_layAble 13 = .ok (.iconst 4, 1) := by decide +kernel
theorem dX7_layAble_14 : decode cX7_layAble 14 = .ok (.idiv, 1) := by decide +kernel
theorem dX7_layAble_15 : decode cX7_layAble 15 = .ok (.istore 4, 2) := by decide +kernel
theorem dX7_layAble_17 : decode cX7_layAble 17 = .ok (.iload_n 3, 1) := by decide +kernel
theorem dX7_layAble_18 : decode cX7_layAble 18 = .ok (.iconst 4, 1) := by decide +kernel
theorem dX7_layAble_19 : decode cX7_layAble 19 = .ok (.irem, 1) := by decide +kernel
theorem dX7_layAble_20 : decode cX7_layAble 20 = .ok (.aload_n 0, 1) := by decide +kernel
theorem dX7_layAble_21 : decode cX7_layAble 21 = .ok (.getfield 23, 3) := by decide +kernel
theorem dX7_layAble_24 : decode cX7_layAble 24 = .ok (.iload 4, 2) := by decide +kernel
theorem dX7_layAble_26 : decode cX7_layAble 26 = .ok (.iaload, 1) := by decide +kernel
theorem dX7_layAble_27 : decode cX7_layAble 27 = .ok (.if_icmp .ge 33, 3) := by decide +kernel
theorem dX7_layAble_30 : decode cX7_layAble 30 = .ok (.aload_n 0, 1) := by decide +kernel
theorem dX7_layAble_31 : decode cX7_layAble 31 = .ok (.getfield 20, 3) := by decide +kernel
theorem dX7_layAble_34 : decode cX7_layAble 34 = .ok (.iload_n 3, 1) := by decide +kernel
theorem dX7_layAble_35 : decode cX7_layAble 35 = .ok (.iaload, 1) := by decide +kernel
theorem dX7_layAble_36 : decode cX7_layAble 36 = .ok (.iload_n 2, 1) := by decide +kernel
theorem dX7_layAble_37 : decode cX7_layAble 37 = .ok (.if_icmp .eq 23, 3) := by decide +kernel
theorem dX7_layAble_40 : decode cX7_layAble 40 = .ok (.aload_n 0, 1) := by decide +kernel
theorem dX7_layAble_41 : decode cX7_layAble 41 = .ok (.aload_n 0, 1) := by decide +kernel
theorem dX7_layAble_42 : decode cX7_layAble 42 = .ok (.getfield 20, 3) := by decide +kernel
theorem dX7_layAble_45 : decode cX7_layAble 45 = .ok (.iload_n 3, 1) := by decide +kernel
theorem dX7_layAble_46 : decode cX7_layAble 46 = .ok (.iaload, 1) := by decide +kernel
theorem dX7_layAble_47 : decode cX7_layAble 47 = .ok (.iload 4, 2) := by decide +kernel
theorem dX7_layAble_49 : decode cX7_layAble 49 = .ok (.iload_n 1, 1) := by decide +kernel
theorem dX7_layAble_50 : decode cX7_layAble 50 = .ok (.invokevirtual 118, 3) := by decide +kernel
theorem dX7_layAble_53 : decode cX7_layAble 53 = .ok (.ifCond .eq 7, 3) := by decide +kernel
theorem dX7_layAble_56 : decode cX7_layAble 56 = .ok (.iconst 1, 1) := by decide +kernel
theorem dX7_layAble_57 : decode cX7_layAble 57 = .ok (.goto 4, 3) := by decide +kernel
theorem dX7_layAble_60 : decode cX7_layAble 60 = .ok (.iconst 0, 1) := by decide +kernel
theorem dX7_layAble_61 : decode cX7_layAble 61 = .ok (.istore 5, 2) := by decide +kernel
theorem dX7_layAble_63 : decode cX7_layAble 63 = .ok (.aload_n 0, 1) := by decide +kernel
theorem dX7_layAble_64 : decode cX7_layAble 64 = .ok (.getfield 65, 3) := by decide +kernel
theorem dX7_layAble_67 : decode cX7_layAble 67 = .ok (.iload_n 3, 1) := by decide +kernel
theorem dX7_layAble_68 : decode cX7_layAble 68 = .ok (.iload 5, 2) := by decide +kernel
theorem dX7_layAble_70 : decode cX7_layAble 70 = .ok (.ifCond .ne 7, 3) := by decide +kernel
theorem dX7_layAble_73 : decode cX7_layAble 73 = .ok (.iconst 0, 1) := by decide +kernel
theorem dX7_layAble_74 : decode cX7_layAble 74 = .ok (.goto 23, 3) := by decide +kernel
theorem dX7_layAble_77 : decode cX7_layAble 77 = .ok (.aload_n 0, 1) := by decide +kernel
theorem dX7_layAble_78 : decode cX7_layAble 78 = .ok (.aload_n 0, 1) := by decide +kernel
theorem dX7_layAble_79 : decode cX7_layAble 79 = .ok (.getfield 20, 3) := by decide +kernel
theorem dX7_layAble_82 : decode cX7_layAble 82 = .ok (.iload_n 3, 1) := by decide +kernel
theorem dX7_layAble_83 : decode cX7_layAble 83 = .ok (.iaload, 1) := by decide +kernel
theorem dX7_layAble_84 : decode cX7_layAble 84 = .ok (.iload 4, 2) := by decide +kernel
theorem dX7_layAble_86 : decode cX7_layAble 86 = .ok (.invokevirtual 112, 3) := by decide +kernel
theorem dX7_layAble_89 : decode cX7_layAble 89 = .ok (.ifCond .eq 7, 3) := by decide +kernel
theorem dX7_layAble_92 : decode cX7_layAble 92 = .ok (.iconst 1, 1) := by decide +kernel
theorem dX7_layAble_93 : decode cX7_layAble 93 = .ok (.goto 4, 3) := by decide +kernel
theorem dX7_layAble_96 : decode cX7_layAble 96 = .ok (.iconst 2, 1) := by decide +kernel
theorem dX7_layAble_97 : decode cX7_layAble 97 = .ok (.iastore, 1) := by decide +kernel
theorem dX7_layAble_98 : decode cX7_layAble 98 = .ok (.iinc 3 1, 3) := by decide +kernel
theorem dX7_layAble_101 : decode cX7_layAble 101 = .ok (.goto (-99), 3) := by decide +kernel
theorem dX7_layAble_104 : decode cX7_layAble 104 = .ok (.return_, 1) := by decide +kernel
theorem dX7_firstBad_0 : decode cX7_firstBad 0 = .ok (.iconst 0, 1) := by decide +kernel
theorem dX7_firstBad_1 : decode cX7_firstBad 1 = .ok (.istore_n 2, 1) := by decide +kernel
theorem dX7_firstBad_2 : decode cX7_firstBad 2 = .ok (.iconst 0, 1) := by decide +kernel
theorem dX7_firstBad_3 : decode cX7_firstBad 3 = .ok (.istore_n 3, 1) := by decide +kernel
theorem dX7_firstBad_4 : decode cX7_firstBad 4 = .ok (.iload_n 3, 1) := by decide +kernel
theorem dX7_firstBad_5 : decode cX7_firstBad 5 = .ok (.aload_n 0, 1) := by decide +kernel
theorem dX7_firstBad_6 : decode cX7_firstBad 6 = .ok (.getfield 7, 3) := by decide +kernel
theorem dX7_firstBad_9 : decode cX7_firstBad 9 = .ok (.if_icmp .ge 68, 3) := by decide +kernel
theorem dX7_firstBad_12 : decode cX7_firstBad 12 = .ok (.iconst 4, 1) := by decide +kernel
theorem dX7_firstBad_13 : decode cX7_firstBad 13 = .ok (.iload_n 3, 1) := by decide +kernel
theorem dX7_firstBad_14 : decode cX7_firstBad 14 = .ok (.imul, 1) := by decide +kernel
theorem dX7_firstBad_15 : decode cX7_firstBad 15 = .ok (.iload_n 1, 1) := by decide +kernel
theorem dX7_firstBad_16 : decode cX7_firstBad 16 = .ok (.iconst 2, 1) := by decide +kernel
theorem dX7_firstBad_17 : decode cX7_firstBad 17 = .ok (.aload_n 0, 1) := by decide +kernel
theorem dX7_firstBad_18 : decode cX7_firstBad 18 = .ok (.getfield 7, 3) := by decide +kernel
theorem dX7_firstBad_21 : decode cX7_firstBad 21 = .ok (.iconst 1, 1) := by decide +kernel
theorem dX7_firstBad_22 : decode cX7_firstBad 22 = .ok (.isub, 1) := by decide +kernel
theorem dX7_firstBad_23 : decode cX7_firstBad 23 = .ok (.iload_n 3, 1) := by decide +kernel
theorem dX7_firstBad_24 : decode cX7_firstBad 24 = .ok (.isub, 1) := by decide +kernel
theorem dX7_firstBad_25 : decode cX7_firstBad 25 = .ok (.imul, 1) := by decide +kernel
theorem dX7_firstBad_26 : decode cX7_firstBad 26 = .ok (.ishr, 1) := by decide +kernel
theorem dX7_firstBad_27 : decode cX7_firstBad 27 = .ok (.iconst 3, 1) := by decide +kernel
theorem dX7_firstBad_28 : decode cX7_firstBad 28 = .ok (.iand, 1) := by decide +kernel
theorem dX7_firstBad_29 : decode cX7_firstBad 29 = .ok (.iadd, 1) := by decide +kernel
theorem dX7_firstBad_30 : decode cX7_firstBad 30 = .ok (.istore 4, 2) := by decide +kernel
theorem dX7_firstBad_32 : decode cX7_firstBad 32 = .ok (.aload_n 0, 1) := by decide +kernel
theorem dX7_firstBad_33 : decode cX7_firstBad 33 = .ok (.getfield 65, 3) := by decide +kernel
theorem dX7_firstBad_36 : decode cX7_firstBad 36 = .ok (.iload 4, 2) := by decide +kernel
theorem dX7_firstBad_38 : decode cX7_firstBad 38 = .ok (.iaload, 1) := by decide +kernel
theorem dX7_firstBad_39 : decode cX7_firstBad 39 = .ok (.ifCond .eq 18, 3) := by decide +kernel
theorem dX7_firstBad_42 : decode cX7_firstBad 42 = .ok (.iload_n 2, 1) := by decide +kernel
theorem dX7_firstBad_43 : decode cX7_firstBad 43 = .ok (.aload_n 0, 1) := by decide +kernel
theorem dX7_firstBad_44 : decode cX7_firstBad 44 = .ok (.getfield 20, 3) := by decide +kernel
theorem dX7_firstBad_47 : decode cX7_firstBad 47 = .ok (.iload 4, 2) := by decide +kernel
theorem dX7_firstBad_49 : decode cX7_firstBad 49 = .ok (.iaload, 1) := by decide +kernel
theorem dX7_firstBad_50 : decode cX7_firstBad 50 = .ok (.ishr, 1) := by decide +kernel
theorem dX7_firstBad_51 : decode cX7_firstBad 51 = .ok (.iconst 1, 1) := by decide +kernel
theorem dX7_firstBad_52 : decode cX7_firstBad 52 = .ok (.iand, 1) := by decide +kernel
theorem dX7_firstBad_53 : decode cX7_firstBad 53 = .ok (.iconst 1, 1) := by decide +kernel
theorem dX7_firstBad_54 : decode cX7_firstBad 54 = .ok (.if_icmp .ne 5, 3) := by decide +kernel
theorem dX7_firstBad_57 : decode cX7_firstBad 57 = .ok (.iload_n 3, 1) := by decide +kernel
theorem dX7_firstBad_58 : decode cX7_firstBad 58 = .ok (.ireturn, 1) := by decide +kernel
theorem dX7_firstBad_59 : decode cX7_firstBad 59 = .ok (.iload_n 2, 1) := by decide +kernel
theorem dX7_firstBad_60 : decode cX7_firstBad 60 = .ok (.iconst 1, 1) := by decide +kernel
theorem dX7_firstBad_61 : decode cX7_firstBad 61 = .ok (.aload_n 0, 1) := by decide +kernel
theorem dX7_firstBad_62 : decode cX7_firstBad 62 = .ok (.getfield 20, 3) := by decide +kernel
theorem dX7_firstBad_65 : decode cX7_firstBad 65 = .ok (.iload 4, 2) := by decide +kernel
theorem dX7_firstBad_67 : decode cX7_firstBad 67 = .ok (.iaload, 1) := by decide +kernel
theorem dX7_firstBad_68 : decode cX7_firstBad 68 = .ok (.ishl, 1) := by decide +kernel
theorem dX7_firstBad_69 : decode cX7_firstBad 69 = .ok (.ior, 1) := by decide +kernel
theorem dX7_firstBad_70 : decode cX7_firstBad 70 = .ok (.istore_n 2, 1) := by decide +kernel
theorem dX7_firstBad_71 : decode cX7_firstBad 71 = .ok (.iinc 3 1, 3) := by decide +kernel
theorem dX7_firstBad_74 : decode cX7_firstBad 74 = .ok (.goto (-70), 3) := by decide +kernel
theorem dX7_firstBad_77 : decode cX7_firstBad 77 = .ok (.iconst (-1), 1) := by decide +kernel
theorem dX7_firstBad_78 : decode cX7_firstBad 78 = .ok (.ireturn, 1) := by decide +kernel
theorem dX7_keep_0 : decode cX7_keep 0 = .ok (.iconst 0, 1) := by decide +kernel
theorem dX7_keep_1 : decode cX7_keep 1 = .ok (.istore_n 2, 1) := by decide +kernel
theorem dX7_keep_2 : decode cX7_keep 2 = .ok (.iconst 0, 1) := by decide +kernel
theorem dX7_keep_3 : decode cX7_keep 3 = .ok (.istore_n 3, 1) := by decide +kernel
theorem dX7_keep_4 : decode cX7_keep 4 = .ok (.iconst 0, 1) := by decide +kernel
theorem dX7_keep_5 : decode cX7_keep 5 = .ok (.istore 4, 2) := by decide +kernel
theorem dX7_keep_7 : decode cX7_keep 7 = .ok (.iload 4, 2) := by decide +kernel
theorem dX7_keep_9 : decode cX7_keep 9 = .ok (.aload_n 0, 1) := by decide +kernel
theorem dX7_keep_10 : decode cX7_keep 10 = .ok (.getfield 7, 3) := by decide +kernel
theorem dX7_keep_13 : decode cX7_keep 13 = .ok (.if_icmp .ge 48, 3) := by decide +kernel
theorem dX7_keep_16 : decode cX7_keep 16 = .ok (.iload_n 1, 1) := by decide +kernel
theorem dX7_keep_17 : decode cX7_keep 17 = .ok (.iconst 2, 1) := by decide +kernel
theorem dX7_keep_18 : decode cX7_keep 18 = .ok (.aload_n 0, 1) := by decide +kernel
theorem dX7_keep_19 : decode cX7_keep 19 = .ok (.getfield 7, 3) := by decide +kernel
theorem dX7_keep_22 : decode cX7_keep 22 = .ok (.iconst 1, 1) := by decide +kernel
theorem dX7_keep_23 : decode cX7_keep 23 = .ok (.isub, 1) := by decide +kernel
theorem dX7_keep_24 : decode cX7_keep 24 = .ok (.iload 4, 2) := by decide +kernel
theorem dX7_keep_26 : decode cX7_keep 26 = .ok (.isub, 1) := by decide +kernel
theorem dX7_keep_27 : decode cX7_keep 27 = .ok (.imul, 1) := by decide +kernel
theorem dX7_keep_28 : decode cX7_keep 28 = .ok (.ishr, 1) := by decide +kernel
theorem dX7_keep_29 : decode cX7_keep 29 = .ok (.iconst 3, 1) := by decide +kernel
theorem dX7_keep_30 : decode cX7_keep 30 = .ok (.iand, 1) := by decide +kernel
theorem dX7_keep_31 : decode cX7_keep 31 = .ok (.istore 5, 2) := by decide +kernel
theorem dX7_keep_33 : decode cX7_keep 33 = .ok (.iload_n 2, 1) := by decide +kernel
theorem dX7_keep_34 : decode cX7_keep 34 = .ok (.iload 5, 2) := by decide +kernel
theorem dX7_keep_36 : decode cX7_keep 36 = .ok (.iadd, 1) := by decide +kernel
theorem dX7_keep_37 : decode cX7_keep 37 = .ok (.istore_n 2, 1) := by decide +kernel
theorem dX7_keep_38 : decode cX7_keep 38 = .ok (.iload_n 3, 1) := by decide +kernel
theorem dX7_keep_39 : decode cX7_keep 39 = .ok (.aload_n 0, 1) := by decide +kernel
theorem dX7_keep_40 : decode cX7_keep 40 = .ok (.getfield 65, 3) := by decide +kernel
theorem dX7_keep_43 : decode cX7_keep 43 = .ok (.iconst 4, 1) := by decide +kernel
theorem dX7_keep_44 : decode cX7_keep 44 = .ok (.iload 4, 2) := by decide +kernel
theorem dX7_keep_46 : decode cX7_keep 46 = .ok (.imul, 1) := by decide +kernel
theorem dX7_keep_47 : decode cX7_keep 47 = .ok (.iload 5, 2) := by decide +kernel
theorem dX7_keep_49 : decode cX7_keep 49 = .ok (.iadd, 1) := by decide +kernel
theorem dX7_keep_50 : decode cX7_keep 50 = .ok (.iaload, 1) := by decide +kernel
theorem dX7_keep_51 : decode cX7_keep 51 = .ok (.iconst 1, 1) := by decide +kernel
theorem dX7_keep_52 : decode cX7_keep 52 = .ok (.isub, 1) := by decide +kernel
theorem dX7_keep_53 : decode cX7_keep 53 = .ok (.iadd, 1) := by decide +kernel
theorem dX7_keep_54 : decode cX7_keep 54 = .ok (.istore_n 3, 1) := by decide +kernel
theorem dX7_keep_55 : decode cX7_keep 55 = .ok (.iinc 4 1, 3) := by decide +kernel
theorem dX7_keep_58 : decode cX7_keep 58 = .ok (.goto (-51), 3) := by decide +kernel
theorem dX7_keep_61 : decode cX7_keep 61 = .ok (.aload_n 0, 1) := by decide +kernel
theorem dX7_keep_62 : decode cX7_keep 62 = .ok (.getfield 121, 3) := by decide +kernel
theorem dX7_keep_65 : decode cX7_keep 65 = .ok (.iconst (-1), 1) := by decide +kernel
theorem dX7_keep_66 : decode cX7_keep 66 = .ok (.if_icmp .eq 27, 3) := by decide +kernel
theorem dX7_keep_69 : decode cX7_keep 69 = .ok (.iload_n 2, 1) := by decide +kernel
theorem dX7_keep_70 : decode cX7_keep 70 = .ok (.aload_n 0, 1) := by decide +kernel
theorem dX7_keep_71 : decode cX7_keep 71 = .ok (.getfield 121, 3) := by decide +kernel
theorem dX7_keep_74 : decode cX7_keep 74 = .ok (.if_icmp .lt 19, 3) := by decide +kernel
theorem dX7_keep_77 : decode cX7_keep 77 = .ok (.iload_n 2, 1) := by decide +kernel
theorem dX7_keep_78 : decode cX7_keep 78 = .ok (.aload_n 0, 1) := by decide +kernel
theorem dX7_keep_79 : decode cX7_keep 79 = .ok (.getfield 121, 3) := by decide +kernel
theorem dX7_keep_82 : decode cX7_keep 82 = .ok (.if_icmp .ne 15, 3) := by decide +kernel
theorem dX7_keep_85 : decode cX7_keep 85 = .ok (.iload_n 3, 1) := by decide +kernel
theorem dX7_keep_86 : decode cX7_keep 86 = .ok (.aload_n 0, 1) := by decide +kernel
theorem dX7_keep_87 : decode cX7_keep 87 = .ok (.getfield 124, 3) := by decide +kernel
theorem dX7_keep_90 : decode cX7_keep 90 = .ok (.if_icmp .ge 7, 3) := by decide +kernel
theorem dX7_keep_93 : decode cX7_keep 93 = .ok (.iconst 1, 1) := by decide +kernel
theorem dX7_keep_94 : decode cX7_keep 94 = .ok (.goto 4, 3) := by decide +kernel
theorem dX7_keep_97 : decode cX7_keep 97 = .ok (.iconst 0, 1) := by decide +kernel
theorem dX7_keep_98 : decode cX7_keep 98 = .ok (.istore 4, 2) := by decide +kernel
theorem dX7_keep_100 : decode cX7_keep 100 = .ok (.iload 4, 2) := by decide +kernel
theorem dX7_keep_102 : decode cX7_keep 102 = .ok (.ifCond .eq 63, 3) := by decide +kernel
theorem dX7_keep_105 : decode cX7_keep 105 = .ok (.aload_n 0, 1) := by decide +kernel
theorem dX7_keep_106 : decode cX7_keep 106 = .ok (.iload_n 2, 1) := by decide +kernel
theorem dX7_keep_107 : decode cX7_keep 107 = .ok (.putfield 121, 3) := by decide +kernel
theorem dX7_keep_110 : decode cX7_keep 110 = .ok (.aload_n 0, 1) := by decide +kernel
theorem dX7_keep_111 : decode cX7_keep 111 = .ok (.iload_n 3, 1) := by decide +kernel
theorem dX7_keep_112 : decode cX7_keep 112 = .ok (.putfield 124, 3) := by decide +kernel
theorem dX7_keep_115 : decode cX7_keep 115 = .ok (.iconst 0, 1) := by decide +kernel
theorem dX7_keep_116 : decode cX7_keep 116 = .ok (.istore 5, 2) := by decide +kernel
theorem dX7_keep_118 : decode cX7_keep 118 = .ok (.iload 5, 2) := by decide +kernel
theorem dX7_keep_120 : decode cX7_keep 120 = .ok (.aload_n 0, 1) := by decide +kernel
theorem dX7_keep_121 : decode cX7_keep 121 = .ok (.getfield 7, 3) := by decide +kernel
theorem dX7_keep_124 : decode cX7_keep 124 = .ok (.if_icmp .ge 41, 3) := by decide +kernel
theorem dX7_keep_127 : decode cX7_keep 127 = .ok (.aload_n 0, 1) := by decide +kernel
theorem dX7_keep_128 : decode cX7_keep 128 = .ok (.getfield 68, 3) := by decide +kernel
theorem dX7_keep_131 : decode cX7_keep 131 = .ok (.iload 5, 2) := by decide +kernel
theorem dX7_keep_133 : decode cX7_keep 133 = .ok (.aload_n 0, 1) := by decide +kernel
theorem dX7_keep_134 : decode cX7_keep 134 = .ok (.getfield 20, 3) := by decide +kernel
theorem dX7_keep_137 : decode cX7_keep 137 = .ok (.iconst 4, 1) := by decide +kernel
theorem dX7_keep_138 : decode cX7_keep 138 = .ok (.iload 5, 2) := by decide +kernel
theorem dX7_keep_140 : decode cX7_keep 140 = .ok (.imul, 1) := by decide +kernel
theorem dX7_keep_141 : decode cX7_keep 141 = .ok (.iload_n 1, 1) := by decide +kernel
theorem dX7_keep_142 : decode cX7_keep 142 = .ok (.iconst 2, 1) := by decide +kernel
theorem dX7_keep_143 : decode cX7_keep 143 = .ok (.aload_n 0, 1) := by decide +kernel
theorem dX7_keep_144 : decode cX7_keep 144 = .ok (.getfield 7, 3) := by decide +kernel
theorem dX7_keep_147 : decode cX7_keep 147 = .ok (.iconst 1, 1) := by decide +kernel
theorem dX7_keep_148 : decode cX7_keep 148 = .ok (.isub, 1) := by decide +kernel
theorem dX7_keep_149 : decode cX7_keep 149 = .ok (.iload 5, 2) := by decide +kernel
theorem dX7_keep_151 : decode cX7_keep 151 = .ok (.isub, 1) := by decide +kernel
theorem dX7_keep_152 : decode cX7_keep 152 = .ok (.imul, 1) := by decide +kernel
theorem dX7_keep_153 : decode cX7_keep 153 = .ok (.ishr, 1) := by decide +kernel
theorem dX7_keep_154 : decode cX7_keep 154 = .ok (.iconst 3, 1) := by decide +kernel
theorem dX7_keep_155 : decode cX7_keep 155 = .ok (.iand, 1) := by decide +kernel
theorem dX7_keep_156 : decode cX7_keep 156 = .ok (.iadd, 1) := by decide +kernel
theorem dX7_keep_157 : decode cX7_keep 157 = .ok (.iaload, 1) := by decide +kernel
theorem dX7_keep_158 : decode cX7_keep 158 = .ok (.iastore, 1) := by decide +kernel
theorem dX7_keep_159 : decode cX7_keep 159 = .ok (.iinc 5 1, 3) := by decide +kernel
theorem dX7_keep_162 : decode cX7_keep 162 = .ok (.goto (-44), 3) := by decide +kernel
theorem dX7_keep_165 : decode cX7_keep 165 = .ok (.return_, 1) := by decide +kernel
theorem dX7_lay_0 : decode cX7_lay 0 = .ok (.aload_n 0, 1) := by decide +kernel
theorem dX7_lay_1 : decode cX7_lay 1 = .ok (.iload_n 1, 1) := by decide +kernel
theorem dX7_lay_2 : decode cX7_lay 2 = .ok (.iload_n 2, 1) := by decide +kernel
theorem dX7_lay_3 : decode cX7_lay 3 = .ok (.invokevirtual 127, 3) := by decide +kernel
theorem dX7_lay_6 : decode cX7_lay 6 = .ok (.aload_n 0, 1) := by decide +kernel
theorem dX7_lay_7 : decode cX7_lay 7 = .ok (.iconst (-1), 1) := by decide +kernel
theorem dX7_lay_8 : decode cX7_lay 8 = .ok (.putfield 121, 3) := by decide +kernel
theorem dX7_lay_11 : decode cX7_lay 11 = .ok (.aload_n 0, 1) := by decide +kernel
theorem dX7_lay_12 : decode cX7_lay 12 = .ok (.iconst (-1), 1) := by decide +kernel
theorem dX7_lay_13 : decode cX7_lay 13 = .ok (.putfield 124, 3) := by decide +kernel
theorem dX7_lay_16 : decode cX7_lay 16 = .ok (.iconst 0, 1) := by decide +kernel
theorem dX7_lay_17 : decode cX7_lay 17 = .ok (.istore_n 3, 1) := by decide +kernel
theorem dX7_lay_18 : decode cX7_lay 18 = .ok (.iload_n 3, 1) := by decide +kernel
theorem dX7_lay_19 : decode cX7_lay 19 = .ok (.bipush 8, 2) := by decide +kernel
theorem dX7_lay_21 : decode cX7_lay 21 = .ok (.if_icmp .ge 16, 3) := by decide +kernel
theorem dX7_lay_24 : decode cX7_lay 24 = .ok (.aload_n 0, 1) := by decide +kernel
theorem dX7_lay_25 : decode cX7_lay 25 = .ok (.getfield 68, 3) := by decide +kernel
theorem dX7_lay_28 : decode cX7_lay 28 = .ok (.iload_n 3, 1) := by decide +kernel
theorem dX7_lay_29 : decode cX7_lay 29 = .ok (.iconst (-1), 1) := by decide +kernel
theorem dX7_lay_30 : decode cX7_lay 30 = .ok (.iastore, 1) := by decide +kernel
theorem dX7_lay_31 : decode cX7_lay 31 = .ok (.iinc 3 1, 3) := by decide +kernel
theorem dX7_lay_34 : decode cX7_lay 34 = .ok (.goto (-16), 3) := by decide +kernel
theorem dX7_lay_37 : decode cX7_lay 37 = .ok (.iconst 0, 1) := by decide +kernel
theorem dX7_lay_38 : decode cX7_lay 38 = .ok (.istore_n 3, 1) := by decide +kernel
theorem dX7_lay_39 : decode cX7_lay 39 = .ok (.iload_n 3, 1) := by decide +kernel
theorem dX7_lay_40 : decode cX7_lay 40 = .ok (.iconst 1, 1) := by decide +kernel
theorem dX7_lay_41 : decode cX7_lay 41 = .ok (.iconst 2, 1) := by decide +kernel
theorem dX7_lay_42 : decode cX7_lay 42 = .ok (.aload_n 0, 1) := by decide +kernel
theorem dX7_lay_43 : decode cX7_lay 43 = .ok (.getfield 7, 3) := by decide +kernel
theorem dX7_lay_46 : decode cX7_lay 46 = .ok (.imul, 1) := by decide +kernel
theorem dX7_lay_47 : decode cX7_lay 47 = .ok (.ishl, 1) := by decide +kernel
theorem dX7_lay_48 : decode cX7_lay 48 = .ok (.if_icmp .ge 55, 3) := by decide +kernel
theorem dX7_lay_51 : decode cX7_lay 51 = .ok (.aload_n 0, 1) := by decide +kernel
theorem dX7_lay_52 : decode cX7_lay 52 = .ok (.iload_n 3, 1) := by decide +kernel
theorem dX7_lay_53 : decode cX7_lay 53 = .ok (.invokevirtual 131, 3) := by decide +kernel
theorem dX7_lay_56 : decode cX7_lay 56 = .ok (.istore 4, 2) := by decide +kernel
theorem dX7_lay_58 : decode cX7_lay 58 = .ok (.iload 4, 2) := by decide +kernel
theorem dX7_lay_60 : decode cX7_lay 60 = .ok (.iconst (-1), 1) := by decide +kernel
theorem dX7_lay_61 : decode cX7_lay 61 = .ok (.if_icmp .ne 14, 3) := by decide +kernel
theorem dX7_lay_64 : decode cX7_lay 64 = .ok (.aload_n 0, 1) := by decide +kernel
theorem dX7_lay_65 : decode cX7_lay 65 = .ok (.iload_n 3, 1) := by decide +kernel
theorem dX7_lay_66 : decode cX7_lay 66 = .ok (.invokevirtual 134, 3) := by decide +kernel
theorem dX7_lay_69 : decode cX7_lay 69 = .ok (.iinc 3 1, 3) := by decide +kernel
theorem dX7_lay_72 : decode cX7_lay 72 = .ok (.goto 28, 3) := by decide +kernel
theorem dX7_lay_75 : decode cX7_lay 75 = .ok (.iconst 1, 1) := by decide +kernel
theorem dX7_lay_76 : decode cX7_lay 76 = .ok (.iconst 2, 1) := by decide +kernel
theorem dX7_lay_77 : decode cX7_lay 77 = .ok (.aload_n 0, 1) := by decide +kernel
theorem dX7_lay_78 : decode cX7_lay 78 = .ok (.getfield 7, 3) := by decide +kernel
theorem dX7_lay_81 : decode cX7_lay 81 = .ok (.iconst 1, 1) := by decide +kernel
theorem dX7_lay_82 : decode cX7_lay 82 = .ok (.isub, 1) := by decide +kernel
theorem dX7_lay_83 : decode cX7_lay 83 = .ok (.iload 4, 2) := by decide +kernel
theorem dX7_lay_85 : decode cX7_lay 85 = .ok (.isub, 1) := by decide +kernel
theorem dX7_lay_86 : decode cX7_lay 86 = .ok (.imul, 1) := by decide +kernel
theorem dX7_lay_87 : decode cX7_lay 87 = .ok (.ishl, 1) := by decide +kernel
theorem dX7_lay_88 : decode cX7_lay 88 = .ok (.istore 5, 2) := by decide +kernel
theorem dX7_lay_90 : decode cX7_lay 90 = .ok (.iload_n 3, 1) := by decide +kernel
theorem dX7_lay_91 : decode cX7_lay 91 = .ok (.iload 5, 2) := by decide +kernel
theorem dX7_lay_93 : decode cX7_lay 93 = .ok (.idiv, 1) := by decide +kernel
theorem dX7_lay_94 : decode cX7_lay 94 = .ok (.iconst 1, 1) := by decide +kernel
theorem dX7_lay_95 : decode cX7_lay 95 = .ok (.iadd, 1) := by decide +kernel
theorem dX7_lay_96 : decode cX7_lay 96 = .ok (.iload 5, 2) := by decide +kernel
theorem dX7_lay_98 : decode cX7_lay 98 = .ok (.imul, 1) := by decide +kernel
theorem dX7_lay_99 : decode cX7_lay 99 = .ok (.istore_n 3, 1) := by decide +kernel
theorem dX7_lay_100 : decode cX7_lay 100 = .ok (.goto (-61), 3) := by decide +kernel
theorem dX7_lay_103 : decode cX7_lay 103 = .ok (.aload_n 0, 1) := by decide +kernel
theorem dX7_lay_104 : decode cX7_lay 104 = .ok (.getfield 121, 3) := by decide +kernel
theorem dX7_lay_107 : decode cX7_lay 107 = .ok (.iconst (-1), 1) := by decide +kernel
theorem dX7_lay_108 : decode cX7_lay 108 = .ok (.if_icmp .eq 7, 3) := by decide +kernel
theorem dX7_lay_111 : decode cX7_lay 111 = .ok (.iconst 1, 1) := by decide +kernel
theorem dX7_lay_112 : decode cX7_lay 112 = .ok (.goto 4, 3) := by decide +kernel
theorem dX7_lay_115 : decode cX7_lay 115 = .ok (.iconst 0, 1) := by decide +kernel
theorem dX7_lay_116 : decode cX7_lay 116 = .ok (.ireturn, 1) := by decide +kernel
theorem dX7_strain_0 : decode cX7_strain 0 = .ok (.aload_n 0, 1) := by decide +kernel
theorem dX7_strain_1 : decode cX7_strain 1 = .ok (.iconst 0, 1) := by decide +kernel
theorem dX7_strain_2 : decode cX7_strain 2 = .ok (.putfield 74, 3) := by decide +kernel
theorem dX7_strain_5 : decode cX7_strain 5 = .ok (.iload_n 1, 1) := by decide +kernel
theorem dX7_strain_6 : decode cX7_strain 6 = .ok (.invokestatic 109, 3) := by decide +kernel
theorem dX7_strain_9 : decode cX7_strain 9 = .ok (.ifCond .ne 9, 3) := by decide +kernel
theorem dX7_strain_12 : decode cX7_strain 12 = .ok (.aload_n 0, 1) := by decide +kernel
theorem dX7_strain_13 : decode cX7_strain 13 = .ok (.iconst 1, 1) := by decide +kernel
theorem dX7_strain_14 : decode cX7_strain 14 = .ok (.invokevirtual 81, 3) := by decide +kernel
theorem dX7_strain_17 : decode cX7_strain 17 = .ok (.ireturn, 1) := by decide +kernel
theorem dX7_strain_18 : decode cX7_strain 18 = .ok (.aload_n 0, 1) := by decide +kernel
theorem dX7_strain_19 : decode cX7_strain 19 = .ok (.iload_n 1, 1) := by decide +kernel
theorem dX7_strain_20 : decode cX7_strain 20 = .ok (.iconst (-1), 1) := by decide +kernel
theorem dX7_strain_21 : decode cX7_strain 21 = .ok (.invokevirtual 138, 3) := by decide +kernel
theorem dX7_strain_24 : decode cX7_strain 24 = .ok (.pop, 1) := by decide +kernel
theorem dX7_strain_25 : decode cX7_strain 25 = .ok (.aload_n 0, 1) := by decide +kernel
theorem dX7_strain_26 : decode cX7_strain 26 = .ok (.getfield 121, 3) := by decide +kernel
theorem dX7_strain_29 : decode cX7_strain 29 = .ok (.ireturn, 1) := by decide +kernel
theorem dX7_strainByAll_0 : decode cX7_strainByAll 0 = .ok (.aload_n 0, 1) := by decide +kernel
theorem dX7_strainByAll_1 : decode cX7_strainByAll 1 = .ok (.iconst 0, 1) := by decide +kernel
theorem dX7_strainByAll_2 : decode cX7_strainByAll 2 = .ok (.putfield 74, 3) := by decide +kernel
theorem dX7_strainByAll_5 : decode cX7_strainByAll 5 = .ok (.iload_n 1, 1) := by decide +kernel
theorem dX7_strainByAll_6 : decode cX7_strainByAll 6 = .ok (.invokestatic 109, 3) := by decide +kernel
theorem dX7_strainByAll_9 : decode cX7_strainByAll 9 = .ok (.ifCond .ne 9, 3) := by decide +kernel
theorem dX7_strainByAll_12 : decode cX7_strainByAll 12 = .ok (.aload_n 0, 1) := by decide +kernel
theorem dX7_strainByAll_13 : decode cX7_strainByAll 13 = .ok (.iconst 1, 1) := by decide +kernel
theorem dX7_strainByAll_14 : decode cX7_strainByAll 14 = .ok (.invokevirtual 81, 3) := by decide +kernel
theorem dX7_strainByAll_17 : decode cX7_strainByAll 17 = .ok (.ireturn, 1) := by decide +kernel
theorem dX7_strainByAll_18 : decode cX7_strainByAll 18 = .ok (.aload_n 0, 1) := by decide +kernel
theorem dX7_strainByAll_19 : decode cX7_strainByAll 19 = .ok (.iload_n 1, 1) := by decide +kernel
theorem dX7_strainByAll_20 : decode cX7_strainByAll 20 = .ok (.iconst (-1), 1) := by decide +kernel
theorem dX7_strainByAll_21 : decode cX7_strainByAll 21 = .ok (.invokevirtual 138, 3) := by decide +kernel
theorem dX7_strainByAll_24 : decode cX7_strainByAll 24 = .ok (.pop, 1) := by decide +kernel
theorem dX7_strainByAll_25 : decode cX7_strainByAll 25 = .ok (.aload_n 0, 1) := by decide +kernel
theorem dX7_strainByAll_26 : decode cX7_strainByAll 26 = .ok (.getfield 121, 3) := by decide +kernel
theorem dX7_strainByAll_29 : decode cX7_strainByAll 29 = .ok (.ireturn, 1) := by decide +kernel
theorem dX7_work_0 : decode cX7_work 0 = .ok (.aload_n 0, 1) := by decide +kernel
theorem dX7_work_1 : decode cX7_work 1 = .ok (.iconst 0, 1) := by decide +kernel
theorem dX7_work_2 : decode cX7_work 2 = .ok (.putfield 74, 3) := by decide +kernel
theorem dX7_work_5 : decode cX7_work 5 = .ok (.iload_n 1, 1) := by decide +kernel
theorem dX7_work_6 : decode cX7_work 6 = .ok (.invokestatic 109, 3) := by decide +kernel
theorem dX7_work_9 : decode cX7_work 9 = .ok (.ifCond .ne 9, 3) := by decide +kernel
theorem dX7_work_12 : decode cX7_work 12 = .ok (.aload_n 0, 1) := by decide +kernel
theorem dX7_work_13 : decode cX7_work 13 = .ok (.iconst 1, 1) := by decide +kernel
theorem dX7_work_14 : decode cX7_work 14 = .ok (.invokevirtual 81, 3) := by decide +kernel
theorem dX7_work_17 : decode cX7_work 17 = .ok (.ireturn, 1) := by decide +kernel
theorem dX7_work_18 : decode cX7_work 18 = .ok (.aload_n 0, 1) := by decide +kernel
theorem dX7_work_19 : decode cX7_work 19 = .ok (.iload_n 1, 1) := by decide +kernel
theorem dX7_work_20 : decode cX7_work 20 = .ok (.iconst (-1), 1) := by decide +kernel
theorem dX7_work_21 : decode cX7_work 21 = .ok (.invokevirtual 138, 3) := by decide +kernel
theorem dX7_work_24 : decode cX7_work 24 = .ok (.pop, 1) := by decide +kernel
theorem dX7_work_25 : decode cX7_work 25 = .ok (.aload_n 0, 1) := by decide +kernel
theorem dX7_work_26 : decode cX7_work 26 = .ok (.getfield 124, 3) := by decide +kernel
theorem dX7_work_29 : decode cX7_work 29 = .ok (.ireturn, 1) := by decide +kernel
theorem dX7_actorFor_0 : decode cX7_actorFor 0 = .ok (.aload_n 0, 1) := by decide +kernel
theorem dX7_actorFor_1 : decode cX7_actorFor 1 = .ok (.iconst 0, 1) := by decide +kernel
theorem dX7_actorFor_2 : decode cX7_actorFor 2 = .ok (.putfield 74, 3) := by decide +kernel
theorem dX7_actorFor_5 : decode cX7_actorFor 5 = .ok (.iload_n 2, 1) := by decide +kernel
theorem dX7_actorFor_6 : decode cX7_actorFor 6 = .ok (.invokestatic 89, 3) := by decide +kernel
theorem dX7_actorFor_9 : decode cX7_actorFor 9 = .ok (.ifCond .ne 9, 3) := by decide +kernel
theorem dX7_actorFor_12 : decode cX7_actorFor 12 = .ok (.aload_n 0, 1) := by decide +kernel
theorem dX7_actorFor_13 : decode cX7_actorFor 13 = .ok (.iconst 1, 1) := by decide +kernel
theorem dX7_actorFor_14 : decode cX7_actorFor 14 = .ok (.invokevirtual 81, 3) := by decide +kernel
theorem dX7_actorFor_17 : decode cX7_actorFor 17 = .ok (.ireturn, 1) := by decide +kernel
theorem dX7_actorFor_18 : decode cX7_actorFor 18 = .ok (.iload_n 1, 1) := by decide +kernel
theorem dX7_actorFor_19 : decode cX7_actorFor 19 = .ok (.invokestatic 109, 3) := by decide +kernel
theorem dX7_actorFor_22 : decode cX7_actorFor 22 = .ok (.ifCond .ne 9, 3) := by decide +kernel
theorem dX7_actorFor_25 : decode cX7_actorFor 25 = .ok (.aload_n 0, 1) := by decide +kernel
theorem dX7_actorFor_26 : decode cX7_actorFor 26 = .ok (.iconst 2, 1) := by decide +kernel
theorem dX7_actorFor_27 : decode cX7_actorFor 27 = .ok (.invokevirtual 81, 3) := by decide +kernel
theorem dX7_actorFor_30 : decode cX7_actorFor 30 = .ok (.ireturn, 1) := by decide +kernel
theorem dX7_actorFor_31 : decode cX7_actorFor 31 = .ok (.aload_n 0, 1) := by decide +kernel
theorem dX7_actorFor_32 : decode cX7_actorFor 32 = .ok (.iload_n 1, 1) := by decide +kernel
theorem dX7_actorFor_33 : decode cX7_actorFor 33 = .ok (.iconst (-1), 1) := by decide +kernel
theorem dX7_actorFor_34 : decode cX7_actorFor 34 = .ok (.invokevirtual 138, 3) := by decide +kernel
theorem dX7_actorFor_37 : decode cX7_actorFor 37 = .ok (.pop, 1) := by decide +kernel
theorem dX7_actorFor_38 : decode cX7_actorFor 38 = .ok (.aload_n 0, 1) := by decide +kernel
theorem dX7_actorFor_39 : decode cX7_actorFor 39 = .ok (.getfield 68, 3) := by decide +kernel
theorem dX7_actorFor_42 : decode cX7_actorFor 42 = .ok (.iload_n 2, 1) := by decide +kernel
theorem dX7_actorFor_43 : decode cX7_actorFor 43 = .ok (.iaload, 1) := by decide +kernel
theorem dX7_actorFor_44 : decode cX7_actorFor 44 = .ok (.ireturn, 1) := by decide +kernel
theorem dX7_chain_0 : decode cX7_chain 0 = .ok (.aload_n 0, 1) := by decide +kernel
theorem dX7_chain_1 : decode cX7_chain 1 = .ok (.iconst 0, 1) := by decide +kernel
theorem dX7_chain_2 : decode cX7_chain 2 = .ok (.putfield 74, 3) := by decide +kernel
theorem dX7_chain_5 : decode cX7_chain 5 = .ok (.iload_n 1, 1) := by decide +kernel
theorem dX7_chain_6 : decode cX7_chain 6 = .ok (.invokestatic 85, 3) := by decide +kernel
theorem dX7_chain_9 : decode cX7_chain 9 = .ok (.ifCond .ne 9, 3) := by decide +kernel
theorem dX7_chain_12 : decode cX7_chain 12 = .ok (.aload_n 0, 1) := by decide +kernel
theorem dX7_chain_13 : decode cX7_chain 13 = .ok (.iconst 1, 1) := by decide +kernel
theorem dX7_chain_14 : decode cX7_chain 14 = .ok (.invokevirtual 81, 3) := by decide +kernel
theorem dX7_chain_17 : decode cX7_chain 17 = .ok (.ireturn, 1) := by decide +kernel
theorem dX7_chain_18 : decode cX7_chain 18 = .ok (.iload_n 2, 1) := by decide +kernel
theorem dX7_chain_19 : decode cX7_chain 19 = .ok (.invokestatic 109, 3) := by decide +kernel
theorem dX7_chain_22 : decode cX7_chain 22 = .ok (.ifCond .ne 9, 3) := by decide +kernel
theorem dX7_chain_25 : decode cX7_chain 25 = .ok (.aload_n 0, 1) := by decide +kernel
theorem dX7_chain_26 : decode cX7_chain 26 = .ok (.iconst 2, 1) := by decide +kernel
theorem dX7_chain_27 : decode cX7_chain 27 = .ok (.invokevirtual 81, 3) := by decide +kernel
theorem dX7_chain_30 : decode cX7_chain 30 = .ok (.ireturn, 1) := by decide +kernel
theorem dX7_chain_31 : decode cX7_chain 31 = .ok (.aload_n 0, 1) := by decide +kernel
theorem dX7_chain_32 : decode cX7_chain 32 = .ok (.iload_n 2, 1) := by decide +kernel
theorem dX7_chain_33 : decode cX7_chain 33 = .ok (.iconst (-1), 1) := by decide +kernel
theorem dX7_chain_34 : decode cX7_chain 34 = .ok (.invokevirtual 138, 3) := by decide +kernel
theorem dX7_chain_37 : decode cX7_chain 37 = .ok (.ifCond .ne 5, 3) := by decide +kernel
theorem dX7_chain_40 : decode cX7_chain 40 = .ok (.iconst (-1), 1) := by decide +kernel
theorem dX7_chain_41 : decode cX7_chain 41 = .ok (.ireturn, 1) := by decide +kernel
theorem dX7_chain_42 : decode cX7_chain 42 = .ok (.iconst 0, 1) := by decide +kernel
theorem dX7_chain_43 : decode cX7_chain 43 = .ok (.istore_n 3, 1) := by decide +kernel
theorem dX7_chain_44 : decode cX7_chain 44 = .ok (.iload_n 3, 1) := by decide +kernel
theorem dX7_chain_45 : decode cX7_chain 45 = .ok (.bipush 8, 2) := by decide +kernel
theorem dX7_chain_47 : decode cX7_chain 47 = .ok (.if_icmp .ge 21, 3) := by decide +kernel
theorem dX7_chain_50 : decode cX7_chain 50 = .ok (.aload_n 0, 1) := by decide +kernel
theorem dX7_chain_51 : decode cX7_chain 51 = .ok (.getfield 71, 3) := by decide +kernel
theorem dX7_chain_54 : decode cX7_chain 54 = .ok (.iload_n 3, 1) := by decide +kernel
theorem dX7_chain_55 : decode cX7_chain 55 = .ok (.aload_n 0, 1) := by decide +kernel
theorem dX7_chain_56 : decode cX7_chain 56 = .ok (.getfield 68, 3) := by decide +kernel
theorem dX7_chain_59 : decode cX7_chain 59 = .ok (.iload_n 3, 1) := by decide +kernel
theorem dX7_chain_60 : decode cX7_chain 60 = .ok (.iaload, 1) := by decide +kernel
theorem dX7_chain_61 : decode cX7_chain 61 = .ok (.iastore, 1) := by decide +kernel
theorem dX7_chain_62 : decode cX7_chain 62 = .ok (.iinc 3 1, 3) := by decide +kernel
theorem dX7_chain_65 : decode cX7_chain 65 = .ok (.goto (-21), 3) := by decide +kernel
theorem dX7_chain_68 : decode cX7_chain 68 = .ok (.aload_n 0, 1) := by decide +kernel
theorem dX7_chain_69 : decode cX7_chain 69 = .ok (.iload_n 2, 1) := by decide +kernel
theorem dX7_chain_70 : decode cX7_chain 70 = .ok (.iload_n 1, 1) := by decide +kernel
theorem dX7_chain_71 : decode cX7_chain 71 = .ok (.invokevirtual 138, 3) := by decide +kernel
theorem dX7_chain_74 : decode cX7_chain 74 = .ok (.ifCond .ne 5, 3) := by decide +kernel
theorem dX7_chain_77 : decode cX7_chain 77 = .ok (.iconst (-1), 1) := by decide +kernel
theorem dX7_chain_78 : decode cX7_chain 78 = .ok (.ireturn, 1) := by decide +kernel
theorem dX7_chain_79 : decode cX7_chain 79 = .ok (.iconst 0, 1) := by decide +kernel
theorem dX7_chain_80 : decode cX7_chain 80 = .ok (.istore_n 3, 1) := by decide +kernel
theorem dX7_chain_81 : decode cX7_chain 81 = .ok (.iconst 0, 1) := by decide +kernel
theorem dX7_chain_82 : decode cX7_chain 82 = .ok (.istore 4, 2) := by decide +kernel
theorem dX7_chain_84 : decode cX7_chain 84 = .ok (.iload 4, 2) := by decide +kernel
theorem dX7_chain_86 : decode cX7_chain 86 = .ok (.aload_n 0, 1) := by decide +kernel
theorem dX7_chain_87 : decode cX7_chain 87 = .ok (.getfield 7, 3) := by decide +kernel
theorem dX7_chain_90 : decode cX7_chain 90 = .ok (.if_icmp .ge 34, 3) := by decide +kernel
theorem dX7_chain_93 : decode cX7_chain 93 = .ok (.iload_n 3, 1) := by decide +kernel
theorem dX7_chain_94 : decode cX7_chain 94 = .ok (.aload_n 0, 1) := by decide +kernel
theorem dX7_chain_95 : decode cX7_chain 95 = .ok (.getfield 68, 3) := by decide +kernel
theorem dX7_chain_98 : decode cX7_chain 98 = .ok (.iload 4, 2) := by decide +kernel
theorem dX7_chain_100 : decode cX7_chain 100 = .ok (.iaload, 1) := by decide +kernel
theorem dX7_chain_101 : decode cX7_chain 101 = .ok (.aload_n 0, 1) := by decide +kernel
theorem dX7_chain_102 : decode cX7_chain 102 = .ok (.getfield 71, 3) := by decide +kernel
theorem dX7_chain_105 : decode cX7_chain 105 = .ok (.iload 4, 2) := by decide +kernel
theorem dX7_chain_107 : decode cX7_chain 107 = .ok (.iaload, 1) := by decide +kernel
theorem dX7_chain_108 : decode cX7_chain 108 = .ok (.if_icmp .ne 7, 3) := by decide +kernel
theorem dX7_chain_111 : decode cX7_chain 111 = .ok (.iconst 0, 1) := by decide +kernel
theorem dX7_chain_112 : decode cX7_chain 112 = .ok (.goto 4, 3) := by decide +kernel
theorem dX7_chain_115 : decode cX7_chain 115 = .ok (.iconst 1, 1) := by decide +kernel
theorem dX7_chain_116 : decode cX7_chain 116 = .ok (.iadd, 1) := by decide +kernel
theorem dX7_chain_117 : decode cX7_chain 117 = .ok (.istore_n 3, 1) := by decide +kernel
theorem dX7_chain_118 : decode cX7_chain 118 = .ok (.iinc 4 1, 3) := by decide +kernel
theorem dX7_chain_121 : decode cX7_chain 121 = .ok (.goto (-37), 3) := by decide +kernel
theorem dX7_chain_124 : decode cX7_chain 124 = .ok (.iload_n 3, 1) := by decide +kernel
theorem dX7_chain_125 : decode cX7_chain 125 = .ok (.ireturn, 1) := by decide +kernel
theorem dX7_showOn_0 : decode cX7_showOn 0 = .ok (.iconst (-1), 1) := by decide +kernel
theorem dX7_showOn_1 : decode cX7_showOn 1 = .ok (.istore_n 2, 1) := by decide +kernel
theorem dX7_showOn_2 : decode cX7_showOn 2 = .ok (.iconst 0, 1) := by decide +kernel
theorem dX7_showOn_3 : decode cX7_showOn 3 = .ok (.istore_n 3, 1) := by decide +kernel
theorem dX7_showOn_4 : decode cX7_showOn 4 = .ok (.iload_n 3, 1) := by decide +kernel
theorem dX7_showOn_5 : decode cX7_showOn 5 = .ok (.aload_n 0, 1) := by decide +kernel
theorem dX7_showOn_6 : decode cX7_showOn 6 = .ok (.getfield 141, 3) := by decide +kernel
theorem dX7_showOn_9 : decode cX7_showOn 9 = .ok (.if_icmp .ge 25, 3) := by decide +kernel
theorem dX7_showOn_12 : decode cX7_showOn 12 = .ok (.aload_n 0, 1) := by decide +kernel
theorem dX7_showOn_13 : decode cX7_showOn 13 = .ok (.getfield 38, 3) := by decide +kernel
theorem dX7_showOn_16 : decode cX7_showOn 16 = .ok (.iload_n 3, 1) := by decide +kernel
theorem dX7_showOn_17 : decode cX7_showOn 17 = .ok (.iaload, 1) := by decide +kernel
theorem dX7_showOn_18 : decode cX7_showOn 18 = .ok (.iload_n 1, 1) := by decide +kernel
theorem dX7_showOn_19 : decode cX7_showOn 19 = .ok (.if_icmp .ne 7, 3) := by decide +kernel
theorem dX7_showOn_22 : decode cX7_showOn 22 = .ok (.iload_n 3, 1) := by decide +kernel
theorem dX7_showOn_23 : decode cX7_showOn 23 = .ok (.goto 4, 3) := by decide +kernel
theorem dX7_showOn_26 : decode cX7_showOn 26 = .ok (.iload_n 2, 1) := by decide +kernel
theorem dX7_showOn_27 : decode cX7_showOn 27 = .ok (.istore_n 2, 1) := by decide +kernel
theorem dX7_showOn_28 : decode cX7_showOn 28 = .ok (.iinc 3 1, 3) := by decide +kernel
theorem dX7_showOn_31 : decode cX7_showOn 31 = .ok (.goto (-27), 3) := by decide +kernel
theorem dX7_showOn_34 : decode cX7_showOn 34 = .ok (.iload_n 2, 1) := by decide +kernel
theorem dX7_showOn_35 : decode cX7_showOn 35 = .ok (.ireturn, 1) := by decide +kernel
theorem dX7_show_0 : decode cX7_show 0 = .ok (.aload_n 0, 1) := by decide +kernel
theorem dX7_show_1 : decode cX7_show 1 = .ok (.iconst 0, 1) := by decide +kernel
theorem dX7_show_2 : decode cX7_show 2 = .ok (.putfield 74, 3) := by decide +kernel
theorem dX7_show_5 : decode cX7_show 5 = .ok (.iload_n 1, 1) := by decide +kernel
theorem dX7_show_6 : decode cX7_show 6 = .ok (.aload_n 0, 1) := by decide +kernel
theorem dX7_show_7 : decode cX7_show 7 = .ok (.getfield 106, 3) := by decide +kernel
theorem dX7_show_10 : decode cX7_show 10 = .ok (.sipush 1000, 3) := by decide +kernel
theorem dX7_show_13 : decode cX7_show 13 = .ok (.invokestatic 77, 3) := by decide +kernel
theorem dX7_show_16 : decode cX7_show 16 = .ok (.ifCond .ne 9, 3) := by decide +kernel
theorem dX7_show_19 : decode cX7_show 19 = .ok (.aload_n 0, 1) := by decide +kernel
theorem dX7_show_20 : decode cX7_show 20 = .ok (.iconst 1, 1) := by decide +kernel
theorem dX7_show_21 : decode cX7_show 21 = .ok (.invokevirtual 81, 3) := by decide +kernel
theorem dX7_show_24 : decode cX7_show 24 = .ok (.ireturn, 1) := by decide +kernel
theorem dX7_show_25 : decode cX7_show 25 = .ok (.aload_n 0, 1) := by decide +kernel
theorem dX7_show_26 : decode cX7_show 26 = .ok (.getfield 141, 3) := by decide +kernel
theorem dX7_show_29 : decode cX7_show 29 = .ok (.bipush 40, 2) := by decide +kernel
theorem dX7_show_31 : decode cX7_show 31 = .ok (.if_icmp .eq 12, 3) := by decide +kernel
theorem dX7_show_34 : decode cX7_show 34 = .ok (.aload_n 0, 1) := by decide +kernel
theorem dX7_show_35 : decode cX7_show 35 = .ok (.iload_n 1, 1) := by decide +kernel
theorem dX7_show_36 : decode cX7_show 36 = .ok (.invokevirtual 144, 3) := by decide +kernel
theorem dX7_show_39 : decode cX7_show 39 = .ok (.iconst (-1), 1) := by decide +kernel
theorem dX7_show_40 : decode cX7_show 40 = .ok (.if_icmp .eq 9, 3) := by decide +kernel
theorem dX7_show_43 : decode cX7_show 43 = .ok (.aload_n 0, 1) := by decide +kernel
theorem dX7_show_44 : decode cX7_show 44 = .ok (.iconst 2, 1) := by decide +kernel
theorem dX7_show_45 : decode cX7_show 45 = .ok (.invokevirtual 81, 3) := by decide +kernel
theorem dX7_show_48 : decode cX7_show 48 = .ok (.ireturn, 1) := by decide +kernel
theorem dX7_show_49 : decode cX7_show 49 = .ok (.aload_n 0, 1) := by decide +kernel
theorem dX7_show_50 : decode cX7_show 50 = .ok (.getfield 38, 3) := by decide +kernel
theorem dX7_show_53 : decode cX7_show 53 = .ok (.aload_n 0, 1) := by decide +kernel
theorem dX7_show_54 : decode cX7_show 54 = .ok (.getfield 141, 3) := by decide +kernel
theorem dX7_show_57 : decode cX7_show 57 = .ok (.iload_n 1, 1) := by decide +kernel
theorem dX7_show_58 : decode cX7_show 58 = .ok (.iastore, 1) := by decide +kernel
theorem dX7_show_59 : decode cX7_show 59 = .ok (.iconst 0, 1) := by decide +kernel
theorem dX7_show_60 : decode cX7_show 60 = .ok (.istore_n 2, 1) := by decide +kernel
theorem dX7_show_61 : decode cX7_show 61 = .ok (.iload_n 2, 1) := by decide +kernel
theorem dX7_show_62 : decode cX7_show 62 = .ok (.bipush 8, 2) := by decide +kernel
theorem dX7_show_64 : decode cX7_show 64 = .ok (.if_icmp .ge 24, 3) := by decide +kernel
theorem dX7_show_67 : decode cX7_show 67 = .ok (.aload_n 0, 1) := by decide +kernel
theorem dX7_show_68 : decode cX7_show 68 = .ok (.getfield 44, 3) := by decide +kernel
theorem dX7_show_71 : decode cX7_show 71 = .ok (.bipush 8, 2) := by decide +kernel
theorem dX7_show_73 : decode cX7_show 73 = .ok (.aload_n 0, 1) := by decide +kernel
theorem dX7_show_74 : decode cX7_show 74 = .ok (.getfield 141, 3) := by decide +kernel
theorem dX7_show_77 : decode cX7_show 77 = .ok (.imul, 1) := by decide +kernel
theorem dX7_show_78 : decode cX7_show 78 = .ok (.iload_n 2, 1) := by decide +kernel
theorem dX7_show_79 : decode cX7_show 79 = .ok (.iadd, 1) := by decide +kernel
theorem dX7_show_80 : decode cX7_show 80 = .ok (.iconst (-1), 1) := by decide +kernel
theorem dX7_show_81 : decode cX7_show 81 = .ok (.iastore, 1) := by decide +kernel
theorem dX7_show_82 : decode cX7_show 82 = .ok (.iinc 2 1, 3) := by decide +kernel
theorem dX7_show_85 : decode cX7_show 85 = .ok (.goto (-24), 3) := by decide +kernel
theorem dX7_show_88 : decode cX7_show 88 = .ok (.aload_n 0, 1) := by decide +kernel
theorem dX7_show_89 : decode cX7_show 89 = .ok (.dup, 1) := by decide +kernel
theorem dX7_show_90 : decode cX7_show 90 = .ok (.getfield 141, 3) := by decide +kernel
theorem dX7_show_93 : decode cX7_show 93 = .ok (.iconst 1, 1) := by decide +kernel
theorem dX7_show_94 : decode cX7_show 94 = .ok (.iadd, 1) := by decide +kernel
theorem dX7_show_95 : decode cX7_show 95 = .ok (.putfield 141, 3) := by decide +kernel
theorem dX7_show_98 : decode cX7_show 98 = .ok (.aload_n 0, 1) := by decide +kernel
theorem dX7_show_99 : decode cX7_show 99 = .ok (.getfield 141, 3) := by decide +kernel
theorem dX7_show_102 : decode cX7_show 102 = .ok (.iconst 1, 1) := by decide +kernel
theorem dX7_show_103 : decode cX7_show 103 = .ok (.isub, 1) := by decide +kernel
theorem dX7_show_104 : decode cX7_show 104 = .ok (.ireturn, 1) := by decide +kernel
theorem dX7_sell_0 : decode cX7_sell 0 = .ok (.aload_n 0, 1) := by decide +kernel
theorem dX7_sell_1 : decode cX7_sell 1 = .ok (.iconst 0, 1) := by decide +kernel
theorem dX7_sell_2 : decode cX7_sell 2 = .ok (.putfield 74, 3) := by decide +kernel
theorem dX7_sell_5 : decode cX7_sell 5 = .ok (.iload_n 1, 1) := by decide +kernel
theorem dX7_sell_6 : decode cX7_sell 6 = .ok (.iconst 0, 1) := by decide +kernel
theorem dX7_sell_7 : decode cX7_sell 7 = .ok (.aload_n 0, 1) := by decide +kernel
theorem dX7_sell_8 : decode cX7_sell 8 = .ok (.getfield 141, 3) := by decide +kernel
theorem dX7_sell_11 : decode cX7_sell 11 = .ok (.iconst 1, 1) := by decide +kernel
theorem dX7_sell_12 : decode cX7_sell 12 = .ok (.isub, 1) := by decide +kernel
theorem dX7_sell_13 : decode cX7_sell 13 = .ok (.invokestatic 77, 3) := by decide +kernel
theorem dX7_sell_16 : decode cX7_sell 16 = .ok (.ifCond .eq 11, 3) := by decide +kernel
theorem dX7_sell_19 : decode cX7_sell 19 = .ok (.iload 4, 2) := by decide +kernel
theorem dX7_sell_21 : decode cX7_sell 21 = .ok (.invokestatic 89, 3) := by decide +kernel
theorem dX7_sell_24 : decode cX7_sell 24 = .ok (.ifCond .ne 9, 3) := by decide +kernel
theorem dX7_sell_27 : decode cX7_sell 27 = .ok (.aload_n 0, 1) := by decide +kernel
theorem dX7_sell_28 : decode cX7_sell 28 = .ok (.iconst 1, 1) := by decide +kernel
theorem dX7_sell_29 : decode cX7_sell 29 = .ok (.invokevirtual 81, 3) := by decide +kernel
theorem dX7_sell_32 : decode cX7_sell 32 = .ok (.ireturn, 1) := by decide +kernel
theorem dX7_sell_33 : decode cX7_sell 33 = .ok (.iload_n 2, 1) := by decide +kernel
theorem dX7_sell_34 : decode cX7_sell 34 = .ok (.iconst 1, 1) := by decide +kernel
theorem dX7_sell_35 : decode cX7_sell 35 = .ok (.sipush 1000, 3) := by decide +kernel
theorem dX7_sell_38 : decode cX7_sell 38 = .ok (.invokestatic 77, 3) := by decide +kernel
theorem dX7_sell_41 : decode cX7_sell 41 = .ok (.ifCond .eq 12, 3) := by decide +kernel
theorem dX7_sell_44 : decode cX7_sell 44 = .ok (.iload_n 3, 1) := by decide +kernel
theorem dX7_sell_45 : decode cX7_sell 45 = .ok (.iconst 0, 1) := by decide +kernel
theorem dX7_sell_46 : decode cX7_sell 46 = .ok (.iconst 3, 1) := by decide +kernel
theorem dX7_sell_47 : decode cX7_sell 47 = .ok (.invokestatic 77, 3) := by decide +kernel
theorem dX7_sell_50 : decode cX7_sell 50 = .ok (.ifCond .ne 9, 3) := by decide +kernel
theorem dX7_sell_53 : decode cX7_sell 53 = .ok (.aload_n 0, 1) := by decide +kernel
theorem dX7_sell_54 : decode cX7_sell 54 = .ok (.iconst 2, 1) := by decide +kernel
theorem dX7_sell_55 : decode cX7_sell 55 = .ok (.invokevirtual 81, 3) := by decide +kernel
theorem dX7_sell_58 : decode cX7_sell 58 = .ok (.ireturn, 1) := by decide +kernel
theorem dX7_sell_59 : decode cX7_sell 59 = .ok (.aload_n 0, 1) := by decide +kernel
theorem dX7_sell_60 : decode cX7_sell 60 = .ok (.getfield 41, 3) := by decide +kernel
theorem dX7_sell_63 : decode cX7_sell 63 = .ok (.iload_n 1, 1) := by decide +kernel
theorem dX7_sell_64 : decode cX7_sell 64 = .ok (.iaload, 1) := by decide +kernel
theorem dX7_sell_65 : decode cX7_sell 65 = .ok (.ifCond .ne 27, 3) := by decide +kernel
theorem dX7_sell_68 : decode cX7_sell 68 = .ok (.aload_n 0, 1) := by decide +kernel
theorem dX7_sell_69 : decode cX7_sell 69 = .ok (.getfield 147, 3) := by decide +kernel
theorem dX7_sell_72 : decode cX7_sell 72 = .ok (.bipush 100, 2) := by decide +kernel
theorem dX7_sell_74 : decode cX7_sell 74 = .ok (.if_icmp .eq 18, 3) := by decide +kernel
theorem dX7_sell_77 : decode cX7_sell 77 = .ok (.iload_n 3, 1) := by decide +kernel
theorem dX7_sell_78 : decode cX7_sell 78 = .ok (.iconst 1, 1) := by decide +kernel
theorem dX7_sell_79 : decode cX7_sell 79 = .ok (.if_icmp .ne 19, 3) := by decide +kernel
theorem dX7_sell_82 : decode cX7_sell 82 = .ok (.aload_n 0, 1) := by decide +kernel
theorem dX7_sell_83 : decode cX7_sell 83 = .ok (.getfield 23, 3) := by decide +kernel
theorem dX7_sell_86 : decode cX7_sell 86 = .ok (.iload 4, 2) := by decide +kernel
theorem dX7_sell_88 : decode cX7_sell 88 = .ok (.iaload, 1) := by decide +kernel
theorem dX7_sell_89 : decode cX7_sell 89 = .ok (.ifCond .ne 9, 3) := by decide +kernel
theorem dX7_sell_92 : decode cX7_sell 92 = .ok (.aload_n 0, 1) := by decide +kernel
theorem dX7_sell_93 : decode cX7_sell 93 = .ok (.iconst 3, 1) := by decide +kernel
theorem dX7_sell_94 : decode cX7_sell 94 = .ok (.invokevirtual 81, 3) := by decide +kernel
theorem dX7_sell_97 : decode cX7_sell 97 = .ok (.ireturn, 1) := by decide +kernel
theorem dX7_sell_98 : decode cX7_sell 98 = .ok (.aload_n 0, 1) := by decide +kernel
theorem dX7_sell_99 : decode cX7_sell 99 = .ok (.getfield 47, 3) := by decide +kernel
theorem dX7_sell_102 : decode cX7_sell 102 = .ok (.aload_n 0, 1) := by decide +kernel
theorem dX7_sell_103 : decode cX7_sell 103 = .ok (.getfield 147, 3) := by decide +kernel
theorem dX7_sell_106 : decode cX7_sell 106 = .ok (.iload_n 1, 1) := by decide +kernel
theorem dX7_sell_107 : decode cX7_sell 107 = .ok (.iastore, 1) := by decide +kernel
theorem dX7_sell_108 : decode cX7_sell 108 = .ok (.aload_n 0, 1) := by decide +kernel
theorem dX7_sell_109 : decode cX7_sell 109 = .ok (.getfield 50, 3) := by decide +kernel
theorem dX7_sell_112 : decode cX7_sell 112 = .ok (.aload_n 0, 1) := by decide +kernel
theorem dX7_sell_113 : decode cX7_sell 113 = .ok (.getfield 147, 3) := by decide +kernel
theorem dX7_sell_116 : decode cX7_sell 116 = .ok (.iload_n 2, 1) := by decide +kernel
theorem dX7_sell_117 : decode cX7_sell 117 = .ok (.iastore, 1) := by decide +kernel
theorem dX7_sell_118 : decode cX7_sell 118 = .ok (.aload_n 0, 1) := by decide +kernel
theorem dX7_sell_119 : decode cX7_sell 119 = .ok (.getfield 53, 3) := by decide +kernel
theorem dX7_sell_122 : decode cX7_sell 122 = .ok (.aload_n 0, 1) := by decide +kernel
theorem dX7_sell_123 : decode cX7_sell 123 = .ok (.getfield 147, 3) := by decide +kernel
theorem dX7_sell_126 : decode cX7_sell 126 = .ok (.iload_n 3, 1) := by decide +kernel
theorem dX7_sell_127 : decode cX7_sell 127 = .ok (.iastore, 1) := by decide +kernel
theorem dX7_sell_128 : decode cX7_sell 128 = .ok (.aload_n 0, 1) := by decide +kernel
theorem dX7_sell_129 : decode cX7_sell 129 = .ok (.getfield 56, 3) := by decide +kernel
theorem dX7_sell_132 : decode cX7_sell 132 = .ok (.aload_n 0, 1) := by decide +kernel
theorem dX7_sell_133 : decode cX7_sell 133 = .ok (.getfield 147, 3) := by decide +kernel
theorem dX7_sell_136 : decode cX7_sell 136 = .ok (.iload 4, 2) := by decide +kernel
theorem dX7_sell_138 : decode cX7_sell 138 = .ok (.iastore, 1) := by decide +kernel
theorem dX7_sell_139 : decode cX7_sell 139 = .ok (.aload_n 0, 1) := by decide +kernel
theorem dX7_sell_140 : decode cX7_sell 140 = .ok (.getfield 59, 3) := by decide +kernel
theorem dX7_sell_143 : decode cX7_sell 143 = .ok (.aload_n 0, 1) := by decide +kernel
theorem dX7_sell_144 : decode cX7_sell 144 = .ok (.getfield 147, 3) := by decide +kernel
theorem dX7_sell_147 : decode cX7_sell 147 = .ok (.aload_n 0, 1) := by decide +kernel
theorem dX7_sell_148 : decode cX7_sell 148 = .ok (.getfield 23, 3) := by decide +kernel
theorem dX7_sell_151 : decode cX7_sell 151 = .ok (.iload 4, 2) := by decide +kernel
theorem dX7_sell_153 : decode cX7_sell 153 = .ok (.iaload, 1) := by decide +kernel
theorem dX7_sell_154 : decode cX7_sell 154 = .ok (.ifCond .ne 7, 3) := by decide +kernel
theorem dX7_sell_157 : decode cX7_sell 157 = .ok (.iconst (-1), 1) := by decide +kernel
theorem dX7_sell_158 : decode cX7_sell 158 = .ok (.goto 12, 3) := by decide +kernel
theorem dX7_sell_161 : decode cX7_sell 161 = .ok (.aload_n 0, 1) := by decide +kernel
theorem dX7_sell_162 : decode cX7_sell 162 = .ok (.getfield 20, 3) := by decide +kernel
theorem dX7_sell_165 : decode cX7_sell 165 = .ok (.iconst 4, 1) := by decide +kernel
theorem dX7_sell_166 : decode cX7_sell 166 = .ok (.iload 4, 2) := by decide +kernel
theorem dX7_sell_168 : decode cX7_sell 168 = .ok (.imul, 1) := by decide +kernel
theorem dX7_sell_169 : decode cX7_sell 169 = .ok (.iaload, 1) := by decide +kernel
theorem dX7_sell_170 : decode cX7_sell 170 = .ok (.iastore, 1) := by decide +kernel
theorem dX7_sell_171 : decode cX7_sell 171 = .ok (.aload_n 0, 1) := by decide +kernel
theorem dX7_sell_172 : decode cX7_sell 172 = .ok (.dup, 1) := by decide +kernel
theorem dX7_sell_173 : decode cX7_sell 173 = .ok (.getfield 150, 3) := by decide +kernel
theorem dX7_sell_176 : decode cX7_sell 176 = .ok (.iload_n 2, 1) := by decide +kernel
theorem dX7_sell_177 : decode cX7_sell 177 = .ok (.iadd, 1) := by decide +kernel
theorem dX7_sell_178 : decode cX7_sell 178 = .ok (.putfield 150, 3) := by decide +kernel
theorem dX7_sell_181 : decode cX7_sell 181 = .ok (.aload_n 0, 1) := by decide +kernel
theorem dX7_sell_182 : decode cX7_sell 182 = .ok (.dup, 1) := by decide +kernel
theorem dX7_sell_183 : decode cX7_sell 183 = .ok (.getfield 147, 3) := by decide +kernel
theorem dX7_sell_186 : decode cX7_sell 186 = .ok (.iconst 1, 1) := by decide +kernel
theorem dX7_sell_187 : decode cX7_sell 187 = .ok (.iadd, 1) := by decide +kernel
theorem dX7_sell_188 : decode cX7_sell 188 = .ok (.putfield 147, 3) := by decide +kernel
theorem dX7_sell_191 : decode cX7_sell 191 = .ok (.aload_n 0, 1) := by decide +kernel
theorem dX7_sell_192 : decode cX7_sell 192 = .ok (.getfield 147, 3) := by decide +kernel
theorem dX7_sell_195 : decode cX7_sell 195 = .ok (.iconst 1, 1) := by decide +kernel
theorem dX7_sell_196 : decode cX7_sell 196 = .ok (.isub, 1) := by decide +kernel
theorem dX7_sell_197 : decode cX7_sell 197 = .ok (.ireturn, 1) := by decide +kernel
theorem dX7_refundOf_0 : decode cX7_refundOf 0 = .ok (.aload_n 0, 1) := by decide +kernel
theorem dX7_refundOf_1 : decode cX7_refundOf 1 = .ok (.getfield 56, 3) := by decide +kernel
theorem dX7_refundOf_4 : decode cX7_refundOf 4 = .ok (.iload_n 1, 1) := by decide +kernel
theorem dX7_refundOf_5 : decode cX7_refundOf 5 = .ok (.iaload, 1) := by decide +kernel
theorem dX7_refundOf_6 : decode cX7_refundOf 6 = .ok (.istore_n 2, 1) := by decide +kernel
theorem dX7_refundOf_7 : decode cX7_refundOf 7 = .ok (.aload_n 0, 1) := by decide +kernel
theorem dX7_refundOf_8 : decode cX7_refundOf 8 = .ok (.getfield 50, 3) := by decide +kernel
theorem dX7_refundOf_11 : decode cX7_refundOf 11 = .ok (.iload_n 1, 1) := by decide +kernel
theorem dX7_refundOf_12 : decode cX7_refundOf 12 = .ok (.iaload, 1) := by decide +kernel
theorem dX7_refundOf_13 : decode cX7_refundOf 13 = .ok (.istore_n 3, 1) := by decide +kernel
theorem dX7_refundOf_14 : decode cX7_refundOf 14 = .ok (.aload_n 0, 1) := by decide +kernel
theorem dX7_refundOf_15 : decode cX7_refundOf 15 = .ok (.getfield 53, 3) := by decide +kernel
theorem dX7_refundOf_18 : decode cX7_refundOf 18 = .ok (.iload_n 1, 1) := by decide +kernel
theorem dX7_refundOf_19 : decode cX7_refundOf 19 = .ok (.iaload, 1) := by decide +kernel
theorem dX7_refundOf_20 : decode cX7_refundOf 20 = .ok (.iconst 2, 1) := by decide +kernel
theorem dX7_refundOf_21 : decode cX7_refundOf 21 = .ok (.if_icmp .ne 20, 3) := by decide +kernel
theorem dX7_refundOf_24 : decode cX7_refundOf 24 = .ok (.aload_n 0, 1) := by decide +kernel
theorem dX7_refundOf_25 : decode cX7_refundOf 25 = .ok (.getfield 121, 3) := by decide +kernel
theorem dX7_refundOf_28 : decode cX7_refundOf 28 = .ok (.ifCond .ne 7, 3) := by decide +kernel
theorem dX7_refundOf_31 : decode cX7_refundOf 31 = .ok (.iconst 0, 1) := by decide +kernel
theorem dX7_refundOf_32 : decode cX7_refundOf 32 = .ok (.goto 8, 3) := by decide +kernel
theorem dX7_refundOf_35 : decode cX7_refundOf 35 = .ok (.iload_n 3, 1) := by decide +kernel
theorem dX7_refundOf_36 : decode cX7_refundOf 36 = .ok (.iconst 3, 1) := by decide +kernel
theorem dX7_refundOf_37 : decode cX7_refundOf 37 = .ok (.iadd, 1) := by decide +kernel
theorem dX7_refundOf_38 : decode cX7_refundOf 38 = .ok (.iconst 4, 1) := by decide +kernel
theorem dX7_refundOf_39 : decode cX7_refundOf 39 = .ok (.idiv, 1) := by decide +kernel
theorem dX7_refundOf_40 : decode cX7_refundOf 40 = .ok (.ireturn, 1) := by decide +kernel
theorem dX7_refundOf_41 : decode cX7_refundOf 41 = .ok (.aload_n 0, 1) := by decide +kernel
theorem dX7_refundOf_42 : decode cX7_refundOf 42 = .ok (.getfield 53, 3) := by decide +kernel
theorem dX7_refundOf_45 : decode cX7_refundOf 45 = .ok (.iload_n 1, 1) := by decide +kernel
theorem dX7_refundOf_46 : decode cX7_refundOf 46 = .ok (.iaload, 1) := by decide +kernel
theorem dX7_refundOf_47 : decode cX7_refundOf 47 = .ok (.ifCond .eq 11, 3) := by decide +kernel
theorem dX7_refundOf_50 : decode cX7_refundOf 50 = .ok (.iload_n 2, 1) := by decide +kernel
theorem dX7_refundOf_51 : decode cX7_refundOf 51 = .ok (.aload_n 0, 1) := by decide +kernel
theorem dX7_refundOf_52 : decode cX7_refundOf 52 = .ok (.getfield 7, 3) := by decide +kernel
theorem dX7_refundOf_55 : decode cX7_refundOf 55 = .ok (.if_icmp .lt 5, 3) := by decide +kernel
theorem dX7_refundOf_58 : decode cX7_refundOf 58 = .ok (.iconst 0, 1) := by decide +kernel
theorem dX7_refundOf_59 : decode cX7_refundOf 59 = .ok (.ireturn, 1) := by decide +kernel
theorem dX7_refundOf_60 : decode cX7_refundOf 60 = .ok (.aload_n 0, 1) := by decide +kernel
theorem dX7_refundOf_61 : decode cX7_refundOf 61 = .ok (.getfield 53, 3) := by decide +kernel
theorem dX7_refundOf_64 : decode cX7_refundOf 64 = .ok (.iload_n 1, 1) := by decide +kernel
theorem dX7_refundOf_65 : decode cX7_refundOf 65 = .ok (.iaload, 1) := by decide +kernel
theorem dX7_refundOf_66 : decode cX7_refundOf 66 = .ok (.iconst 1, 1) := by decide +kernel
theorem dX7_refundOf_67 : decode cX7_refundOf 67 = .ok (.if_icmp .ne 28, 3) := by decide +kernel
theorem dX7_refundOf_70 : decode cX7_refundOf 70 = .ok (.aload_n 0, 1) := by decide +kernel
theorem dX7_refundOf_71 : decode cX7_refundOf 71 = .ok (.getfield 68, 3) := by decide +kernel
theorem dX7_refundOf_74 : decode cX7_refundOf 74 = .ok (.iload_n 2, 1) := by decide +kernel
theorem dX7_refundOf_75 : decode cX7_refundOf 75 = .ok (.iaload, 1) := by decide +kernel
theorem dX7_refundOf_76 : decode cX7_refundOf 76 = .ok (.aload_n 0, 1) := by decide +kernel
theorem dX7_refundOf_77 : decode cX7_refundOf 77 = .ok (.getfield 59, 3) := by decide +kernel
theorem dX7_refundOf_80 : decode cX7_refundOf 80 = .ok (.iload_n 1, 1) := by decide +kernel
theorem dX7_refundOf_81 : decode cX7_refundOf 81 = .ok (.iaload, 1) := by decide +kernel
theorem dX7_refundOf_82 : decode cX7_refundOf 82 = .ok (.if_icmp .ne 7, 3) := by decide +kernel
theorem dX7_refundOf_85 : decode cX7_refundOf 85 = .ok (.iconst 0, 1) := by decide +kernel
theorem dX7_refundOf_86 : decode cX7_refundOf 86 = .ok (.goto 8, 3) := by decide +kernel
theorem dX7_refundOf_89 : decode cX7_refundOf 89 = .ok (.iload_n 3, 1) := by decide +kernel
theorem dX7_refundOf_90 : decode cX7_refundOf 90 = .ok (.iconst 1, 1) := by decide +kernel
theorem dX7_refundOf_91 : decode cX7_refundOf 91 = .ok (.iadd, 1) := by decide +kernel
theorem dX7_refundOf_92 : decode cX7_refundOf 92 = .ok (.iconst 2, 1) := by decide +kernel
theorem dX7_refundOf_93 : decode cX7_refundOf 93 = .ok (.idiv, 1) := by decide +kernel
theorem dX7_refundOf_94 : decode cX7_refundOf 94 = .ok (.ireturn, 1) := by decide +kernel
theorem dX7_refundOf_95 : decode cX7_refundOf 95 = .ok (.aload_n 0, 1) := by decide +kernel
theorem dX7_refundOf_96 : decode cX7_refundOf 96 = .ok (.iload_n 2, 1) := by decide +kernel
theorem dX7_refundOf_97 : decode cX7_refundOf 97 = .ok (.aload_n 0, 1) := by decide +kernel
theorem dX7_refundOf_98 : decode cX7_refundOf 98 = .ok (.getfield 68, 3) := by decide +kernel
theorem dX7_refundOf_101 : decode cX7_refundOf 101 = .ok (.iload_n 2, 1) := by decide +kernel
theorem dX7_refundOf_102 : decode cX7_refundOf 102 = .ok (.iaload, 1) := by decide +kernel
theorem dX7_refundOf_103 : decode cX7_refundOf 103 = .ok (.invokevirtual 99, 3) := by decide +kernel
theorem dX7_refundOf_106 : decode cX7_refundOf 106 = .ok (.iconst 1, 1) := by decide +kernel
theorem dX7_refundOf_107 : decode cX7_refundOf 107 = .ok (.if_icmp .gt 7, 3) := by decide +kernel
theorem dX7_refundOf_110 : decode cX7_refundOf 110 = .ok (.iconst 0, 1) := by decide +kernel
theorem dX7_refundOf_111 : decode cX7_refundOf 111 = .ok (.goto 10, 3) := by decide +kernel
theorem dX7_refundOf_114 : decode cX7_refundOf 114 = .ok (.iload_n 3, 1) := by decide +kernel
theorem dX7_refundOf_115 : decode cX7_refundOf 115 = .ok (.bipush 9, 2) := by decide +kernel
theorem dX7_refundOf_117 : decode cX7_refundOf 117 = .ok (.iadd, 1) := by decide +kernel
theorem dX7_refundOf_118 : decode cX7_refundOf 118 = .ok (.bipush 10, 2) := by decide +kernel
theorem dX7_refundOf_120 : decode cX7_refundOf 120 = .ok (.idiv, 1) := by decide +kernel
theorem dX7_refundOf_121 : decode cX7_refundOf 121 = .ok (.ireturn, 1) := by decide +kernel
theorem dX7_refundAll_0 : decode cX7_refundAll 0 = .ok (.iconst 0, 1) := by decide +kernel
theorem dX7_refundAll_1 : decode cX7_refundAll 1 = .ok (.istore_n 3, 1) := by decide +kernel
theorem dX7_refundAll_2 : decode cX7_refundAll 2 = .ok (.iconst 0, 1) := by decide +kernel
theorem dX7_refundAll_3 : decode cX7_refundAll 3 = .ok (.istore 4, 2) := by decide +kernel
theorem dX7_refundAll_5 : decode cX7_refundAll 5 = .ok (.iload 4, 2) := by decide +kernel
theorem dX7_refundAll_7 : decode cX7_refundAll 7 = .ok (.aload_n 0, 1) := by decide +kernel
theorem dX7_refundAll_8 : decode cX7_refundAll 8 = .ok (.getfield 147, 3) := by decide +kernel
theorem dX7_refundAll_11 : decode cX7_refundAll 11 = .ok (.if_icmp .ge 57, 3) := by decide +kernel
theorem dX7_refundAll_14 : decode cX7_refundAll 14 = .ok (.aload_n 0, 1) := by decide +kernel
theorem dX7_refundAll_15 : decode cX7_refundAll 15 = .ok (.getfield 47, 3) := by decide +kernel
theorem dX7_refundAll_18 : decode cX7_refundAll 18 = .ok (.iload 4, 2) := by decide +kernel
theorem dX7_refundAll_20 : decode cX7_refundAll 20 = .ok (.iaload, 1) := by decide +kernel
theorem dX7_refundAll_21 : decode cX7_refundAll 21 = .ok (.iload_n 1, 1) := by decide +kernel
theorem dX7_refundAll_22 : decode cX7_refundAll 22 = .ok (.if_icmp .ne 40, 3) := by decide +kernel
theorem dX7_refundAll_25 : decode cX7_refundAll 25 = .ok (.aload_n 0, 1) := by decide +kernel
theorem dX7_refundAll_26 : decode cX7_refundAll 26 = .ok (.getfield 62, 3) := by decide +kernel
theorem dX7_refundAll_29 : decode cX7_refundAll 29 = .ok (.iload 4, 2) := by decide +kernel
theorem dX7_refundAll_31 : decode cX7_refundAll 31 = .ok (.iload_n 2, 1) := by decide +kernel
theorem dX7_refundAll_32 : decode cX7_refundAll 32 = .ok (.ifCond .eq 12, 3) := by decide +kernel
theorem dX7_refundAll_35 : decode cX7_refundAll 35 = .ok (.aload_n 0, 1) := by decide +kernel
theorem dX7_refundAll_36 : decode cX7_refundAll 36 = .ok (.iload 4, 2) := by decide +kernel
theorem dX7_refundAll_38 : decode cX7_refundAll 38 = .ok (.invokevirtual 153, 3) := by decide +kernel
theorem dX7_refundAll_41 : decode cX7_refundAll 41 = .ok (.goto 10, 3) := by decide +kernel
theorem dX7_refundAll_44 : decode cX7_refundAll 44 = .ok (.aload_n 0, 1) := by decide +kernel
theorem dX7_refundAll_45 : decode cX7_refundAll 45 = .ok (.getfield 50, 3) := by decide +kernel
theorem dX7_refundAll_48 : decode cX7_refundAll 48 = .ok (.iload 4, 2) := by decide +kernel
theorem dX7_refundAll_50 : decode cX7_refundAll 50 = .ok (.iaload, 1) := by decide +kernel
theorem dX7_refundAll_51 : decode cX7_refundAll 51 = .ok (.iastore, 1) := by decide +kernel
theorem dX7_refundAll_52 : decode cX7_refundAll 52 = .ok (.iload_n 3, 1) := by decide +kernel
theorem dX7_refundAll_53 : decode cX7_refundAll 53 = .ok (.aload_n 0, 1) := by decide +kernel
theorem dX7_refundAll_54 : decode cX7_refundAll 54 = .ok (.getfield 62, 3) := by decide +kernel
theorem dX7_refundAll_57 : decode cX7_refundAll 57 = .ok (.iload 4, 2) := by decide +kernel
theorem dX7_refundAll_59 : decode cX7_refundAll 59 = .ok (.iaload, 1) := by decide +kernel
theorem dX7_refundAll_60 : decode cX7_refundAll 60 = .ok (.iadd, 1) := by decide +kernel
theorem dX7_refundAll_61 : decode cX7_refundAll 61 = .ok (.istore_n 3, 1) := by decide +kernel
theorem dX7_refundAll_62 : decode cX7_refundAll 62 = .ok (.iinc 4 1, 3) := by decide +kernel
theorem dX7_refundAll_65 : decode cX7_refundAll 65 = .ok (.goto (-60), 3) := by decide +kernel
theorem dX7_refundAll_68 : decode cX7_refundAll 68 = .ok (.iload_n 3, 1) := by decide +kernel
theorem dX7_refundAll_69 : decode cX7_refundAll 69 = .ok (.ireturn, 1) := by decide +kernel
theorem dX7_perform_0 : decode cX7_perform 0 = .ok (.aload_n 0, 1) := by decide +kernel
theorem dX7_perform_1 : decode cX7_perform 1 = .ok (.getfield 41, 3) := by decide +kernel
theorem dX7_perform_4 : decode cX7_perform 4 = .ok (.iload_n 1, 1) := by decide +kernel
theorem dX7_perform_5 : decode cX7_perform 5 = .ok (.iconst 1, 1) := by decide +kernel
theorem dX7_perform_6 : decode cX7_perform 6 = .ok (.iastore, 1) := by decide +kernel
theorem dX7_perform_7 : decode cX7_perform 7 = .ok (.iconst 0, 1) := by decide +kernel
theorem dX7_perform_8 : decode cX7_perform 8 = .ok (.istore_n 2, 1) := by decide +kernel
theorem dX7_perform_9 : decode cX7_perform 9 = .ok (.iload_n 2, 1) := by decide +kernel
theorem dX7_perform_10 : decode cX7_perform 10 = .ok (.aload_n 0, 1) := by decide +kernel
theorem dX7_perform_11 : decode cX7_perform 11 = .ok (.getfield 7, 3) := by decide +kernel
theorem dX7_perform_14 : decode cX7_perform 14 = .ok (.if_icmp .ge 78, 3) := by decide +kernel
theorem dX7_perform_17 : decode cX7_perform 17 = .ok (.aload_n 0, 1) := by decide +kernel
theorem dX7_perform_18 : decode cX7_perform 18 = .ok (.getfield 44, 3) := by decide +kernel
theorem dX7_perform_21 : decode cX7_perform 21 = .ok (.bipush 8, 2) := by decide +kernel
theorem dX7_perform_23 : decode cX7_perform 23 = .ok (.iload_n 1, 1) := by decide +kernel
theorem dX7_perform_24 : decode cX7_perform 24 = .ok (.imul, 1) := by decide +kernel
theorem dX7_perform_25 : decode cX7_perform 25 = .ok (.iload_n 2, 1) := by decide +kernel
theorem dX7_perform_26 : decode cX7_perform 26 = .ok (.iadd, 1) := by decide +kernel
theorem dX7_perform_27 : decode cX7_perform 27 = .ok (.aload_n 0, 1) := by decide +kernel
theorem dX7_perform_28 : decode cX7_perform 28 = .ok (.getfield 68, 3) := by decide +kernel
theorem dX7_perform_31 : decode cX7_perform 31 = .ok (.iload_n 2, 1) := by decide +kernel
theorem dX7_perform_32 : decode cX7_perform 32 = .ok (.iaload, 1) := by decide +kernel
theorem dX7_perform_33 : decode cX7_perform 33 = .ok (.iastore, 1) := by decide +kernel
theorem dX7_perform_34 : decode cX7_perform 34 = .ok (.aload_n 0, 1) := by decide +kernel
theorem dX7_perform_35 : decode cX7_perform 35 = .ok (.aload_n 0, 1) := by decide +kernel
theorem dX7_perform_36 : decode cX7_perform 36 = .ok (.getfield 68, 3) := by decide +kernel
theorem dX7_perform_39 : decode cX7_perform 39 = .ok (.iload_n 2, 1) := by decide +kernel
theorem dX7_perform_40 : decode cX7_perform 40 = .ok (.iaload, 1) := by decide +kernel
theorem dX7_perform_41 : decode cX7_perform 41 = .ok (.iload_n 2, 1) := by decide +kernel
theorem dX7_perform_42 : decode cX7_perform 42 = .ok (.invokevirtual 112, 3) := by decide +kernel
theorem dX7_perform_45 : decode cX7_perform 45 = .ok (.ifCond .eq 7, 3) := by decide +kernel
theorem dX7_perform_48 : decode cX7_perform 48 = .ok (.iconst (-1), 1) := by decide +kernel
theorem dX7_perform_49 : decode cX7_perform 49 = .ok (.goto 14, 3) := by decide +kernel
theorem dX7_perform_52 : decode cX7_perform 52 = .ok (.aload_n 0, 1) := by decide +kernel
theorem dX7_perform_53 : decode cX7_perform 53 = .ok (.aload_n 0, 1) := by decide +kernel
theorem dX7_perform_54 : decode cX7_perform 54 = .ok (.getfield 68, 3) := by decide +kernel
theorem dX7_perform_57 : decode cX7_perform 57 = .ok (.iload_n 2, 1) := by decide +kernel
theorem dX7_perform_58 : decode cX7_perform 58 = .ok (.iaload, 1) := by decide +kernel
theorem dX7_perform_59 : decode cX7_perform 59 = .ok (.iload_n 2, 1) := by decide +kernel
theorem dX7_perform_60 : decode cX7_perform 60 = .ok (.invokevirtual 115, 3) := by decide +kernel
theorem dX7_perform_63 : decode cX7_perform 63 = .ok (.istore_n 3, 1) := by decide +kernel
theorem dX7_perform_64 : decode cX7_perform 64 = .ok (.iload_n 3, 1) := by decide +kernel
theorem dX7_perform_65 : decode cX7_perform 65 = .ok (.iconst (-1), 1) := by decide +kernel
theorem dX7_perform_66 : decode cX7_perform 66 = .ok (.if_icmp .eq 20, 3) := by decide +kernel
theorem dX7_perform_69 : decode cX7_perform 69 = .ok (.aload_n 0, 1) := by decide +kernel
theorem dX7_perform_70 : decode cX7_perform 70 = .ok (.getfield 29, 3) := by decide +kernel
theorem dX7_perform_73 : decode cX7_perform 73 = .ok (.iload_n 3, 1) := by decide +kernel
theorem dX7_perform_74 : decode cX7_perform 74 = .ok (.dup2, 1) := by decide +kernel
theorem dX7_perform_75 : decode cX7_perform 75 = .ok (.iaload, 1) := by decide +kernel
theorem dX7_perform_76 : decode cX7_perform 76 = .ok (.iconst 1, 1) := by decide +kernel
theorem dX7_perform_77 : decode cX7_perform 77 = .ok (.iadd, 1) := by decide +kernel
theorem dX7_perform_78 : decode cX7_perform 78 = .ok (.iastore, 1) := by decide +kernel
theorem dX7_perform_79 : decode cX7_perform 79 = .ok (.aload_n 0, 1) := by decide +kernel
theorem dX7_perform_80 : decode cX7_perform 80 = .ok (.getfield 32, 3) := by decide +kernel
theorem dX7_perform_83 : decode cX7_perform 83 = .ok (.iload_n 3, 1) := by decide +kernel
theorem dX7_perform_84 : decode cX7_perform 84 = .ok (.iconst 1, 1) := by decide +kernel
theorem dX7_perform_85 : decode cX7_perform 85 = .ok (.iastore, 1) := by decide +kernel
theorem dX7_perform_86 : decode cX7_perform 86 = .ok (.iinc 2 1, 3) := by decide +kernel
theorem dX7_perform_89 : decode cX7_perform 89 = .ok (.goto (-80), 3) := by decide +kernel
theorem dX7_perform_92 : decode cX7_perform 92 = .ok (.return_, 1) := by decide +kernel
theorem dX7_play_0 : decode cX7_play 0 = .ok (.aload_n 0, 1) := by decide +kernel
theorem dX7_play_1 : decode cX7_play 1 = .ok (.iconst 0, 1) := by decide +kernel
theorem dX7_play_2 : decode cX7_play 2 = .ok (.putfield 74, 3) := by decide +kernel
theorem dX7_play_5 : decode cX7_play 5 = .ok (.aload_n 0, 1) := by decide +kernel
theorem dX7_play_6 : decode cX7_play 6 = .ok (.getfield 106, 3) := by decide +kernel
theorem dX7_play_9 : decode cX7_play 9 = .ok (.sipush 1000, 3) := by decide +kernel
theorem dX7_play_12 : decode cX7_play 12 = .ok (.if_icmp .ne 9, 3) := by decide +kernel
theorem dX7_play_15 : decode cX7_play 15 = .ok (.aload_n 0, 1) := by decide +kernel
theorem dX7_play_16 : decode cX7_play 16 = .ok (.iconst 1, 1) := by decide +kernel
theorem dX7_play_17 : decode cX7_play 17 = .ok (.invokevirtual 81, 3) := by decide +kernel
theorem dX7_play_20 : decode cX7_play 20 = .ok (.ireturn, 1) := by decide +kernel
theorem dX7_play_21 : decode cX7_play 21 = .ok (.aload_n 0, 1) := by decide +kernel
theorem dX7_play_22 : decode cX7_play 22 = .ok (.aload_n 0, 1) := by decide +kernel
theorem dX7_play_23 : decode cX7_play 23 = .ok (.getfield 106, 3) := by decide +kernel
theorem dX7_play_26 : decode cX7_play 26 = .ok (.invokevirtual 144, 3) := by decide +kernel
theorem dX7_play_29 : decode cX7_play 29 = .ok (.istore_n 1, 1) := by decide +kernel
theorem dX7_play_30 : decode cX7_play 30 = .ok (.iconst 0, 1) := by decide +kernel
theorem dX7_play_31 : decode cX7_play 31 = .ok (.istore_n 2, 1) := by decide +kernel
theorem dX7_play_32 : decode cX7_play 32 = .ok (.iload_n 1, 1) := by decide +kernel
theorem dX7_play_33 : decode cX7_play 33 = .ok (.iconst (-1), 1) := by decide +kernel
theorem dX7_play_34 : decode cX7_play 34 = .ok (.if_icmp .eq 39, 3) := by decide +kernel
theorem dX7_play_37 : decode cX7_play 37 = .ok (.aload_n 0, 1) := by decide +kernel
theorem dX7_play_38 : decode cX7_play 38 = .ok (.aload_n 0, 1) := by decide +kernel
theorem dX7_play_39 : decode cX7_play 39 = .ok (.getfield 106, 3) := by decide +kernel
theorem dX7_play_42 : decode cX7_play 42 = .ok (.iconst (-1), 1) := by decide +kernel
theorem dX7_play_43 : decode cX7_play 43 = .ok (.invokevirtual 138, 3) := by decide +kernel
theorem dX7_play_46 : decode cX7_play 46 = .ok (.istore_n 3, 1) := by decide +kernel
theorem dX7_play_47 : decode cX7_play 47 = .ok (.aload_n 0, 1) := by decide +kernel
theorem dX7_play_48 : decode cX7_play 48 = .ok (.iload_n 1, 1) := by decide +kernel
theorem dX7_play_49 : decode cX7_play 49 = .ok (.iload_n 3, 1) := by decide +kernel
theorem dX7_play_50 : decode cX7_play 50 = .ok (.invokevirtual 156, 3) := by decide +kernel
theorem dX7_play_53 : decode cX7_play 53 = .ok (.istore_n 2, 1) := by decide +kernel
theorem dX7_play_54 : decode cX7_play 54 = .ok (.iload_n 3, 1) := by decide +kernel
theorem dX7_play_55 : decode cX7_play 55 = .ok (.ifCond .eq 11, 3) := by decide +kernel
theorem dX7_play_58 : decode cX7_play 58 = .ok (.aload_n 0, 1) := by decide +kernel
theorem dX7_play_59 : decode cX7_play 59 = .ok (.iload_n 1, 1) := by decide +kernel
theorem dX7_play_60 : decode cX7_play 60 = .ok (.invokevirtual 160, 3) := by decide +kernel
theorem dX7_play_63 : decode cX7_play 63 = .ok (.goto 10, 3) := by decide +kernel
theorem dX7_play_66 : decode cX7_play 66 = .ok (.aload_n 0, 1) := by decide +kernel
theorem dX7_play_67 : decode cX7_play 67 = .ok (.getfield 41, 3) := by decide +kernel
theorem dX7_play_70 : decode cX7_play 70 = .ok (.iload_n 1, 1) := by decide +kernel
theorem dX7_play_71 : decode cX7_play 71 = .ok (.iconst 2, 1) := by decide +kernel
theorem dX7_play_72 : decode cX7_play 72 = .ok (.iastore, 1) := by decide +kernel
theorem dX7_play_73 : decode cX7_play 73 = .ok (.aload_n 0, 1) := by decide +kernel
theorem dX7_play_74 : decode cX7_play 74 = .ok (.dup, 1) := by decide +kernel
theorem dX7_play_75 : decode cX7_play 75 = .ok (.getfield 150, 3) := by decide +kernel
theorem dX7_play_78 : decode cX7_play 78 = .ok (.iload_n 2, 1) := by decide +kernel
theorem dX7_play_79 : decode cX7_play 79 = .ok (.isub, 1) := by decide +kernel
theorem dX7_play_80 : decode cX7_play 80 = .ok (.putfield 150, 3) := by decide +kernel
theorem dX7_play_83 : decode cX7_play 83 = .ok (.aload_n 0, 1) := by decide +kernel
theorem dX7_play_84 : decode cX7_play 84 = .ok (.dup, 1) := by decide +kernel
theorem dX7_play_85 : decode cX7_play 85 = .ok (.getfield 106, 3) := by decide +kernel
theorem dX7_play_88 : decode cX7_play 88 = .ok (.iconst 1, 1) := by decide +kernel
theorem dX7_play_89 : decode cX7_play 89 = .ok (.iadd, 1) := by decide +kernel
theorem dX7_play_90 : decode cX7_play 90 = .ok (.putfield 106, 3) := by decide +kernel
theorem dX7_play_93 : decode cX7_play 93 = .ok (.iload_n 2, 1) := by decide +kernel
theorem dX7_play_94 : decode cX7_play 94 = .ok (.ireturn, 1) := by decide +kernel
theorem dX7_day_0 : decode cX7_day 0 = .ok (.aload_n 0, 1) := by decide +kernel
theorem dX7_day_1 : decode cX7_day 1 = .ok (.iconst 0, 1) := by decide +kernel
theorem dX7_day_2 : decode cX7_day 2 = .ok (.putfield 74, 3) := by decide +kernel
theorem dX7_day_5 : decode cX7_day 5 = .ok (.aload_n 0, 1) := by decide +kernel
theorem dX7_day_6 : decode cX7_day 6 = .ok (.getfield 106, 3) := by decide +kernel
theorem dX7_day_9 : decode cX7_day 9 = .ok (.ireturn, 1) := by decide +kernel
theorem dX7_stateOf_0 : decode cX7_stateOf 0 = .ok (.aload_n 0, 1) := by decide +kernel
theorem dX7_stateOf_1 : decode cX7_stateOf 1 = .ok (.iconst 0, 1) := by decide +kernel
theorem dX7_stateOf_2 : decode cX7_stateOf 2 = .ok (.putfield 74, 3) := by decide +kernel
theorem dX7_stateOf_5 : decode cX7_stateOf 5 = .ok (.iload_n 1, 1) := by decide +kernel
theorem dX7_stateOf_6 : decode cX7_stateOf 6 = .ok (.iconst 0, 1) := by decide +kernel
theorem dX7_stateOf_7 : decode cX7_stateOf 7 = .ok (.aload_n 0, 1) := by decide +kernel
theorem dX7_stateOf_8 : decode cX7_stateOf 8 = .ok (.getfield 141, 3) := by decide +kernel
theorem dX7_stateOf_11 : decode cX7_stateOf 11 = .ok (.iconst 1, 1) := by decide +kernel
theorem dX7_stateOf_12 : decode cX7_stateOf 12 = .ok (.isub, 1) := by decide +kernel
theorem dX7_stateOf_13 : decode cX7_stateOf 13 = .ok (.invokestatic 77, 3) := by decide +kernel
theorem dX7_stateOf_16 : decode cX7_stateOf 16 = .ok (.ifCond .eq 12, 3) := by decide +kernel
theorem dX7_stateOf_19 : decode cX7_stateOf 19 = .ok (.aload_n 0, 1) := by decide +kernel
theorem dX7_stateOf_20 : decode cX7_stateOf 20 = .ok (.getfield 41, 3) := by decide +kernel
theorem dX7_stateOf_23 : decode cX7_stateOf 23 = .ok (.iload_n 1, 1) := by decide +kernel
theorem dX7_stateOf_24 : decode cX7_stateOf 24 = .ok (.iaload, 1) := by decide +kernel
theorem dX7_stateOf_25 : decode cX7_stateOf 25 = .ok (.goto 8, 3) := by decide +kernel
theorem dX7_stateOf_28 : decode cX7_stateOf 28 = .ok (.aload_n 0, 1) := by decide +kernel
theorem dX7_stateOf_29 : decode cX7_stateOf 29 = .ok (.iconst 1, 1) := by decide +kernel
theorem dX7_stateOf_30 : decode cX7_stateOf 30 = .ok (.invokevirtual 81, 3) := by decide +kernel
theorem dX7_stateOf_33 : decode cX7_stateOf 33 = .ok (.ireturn, 1) := by decide +kernel
theorem dX7_played_0 : decode cX7_played 0 = .ok (.aload_n 0, 1) := by decide +kernel
theorem dX7_played_1 : decode cX7_played 1 = .ok (.iconst 0, 1) := by decide +kernel
theorem dX7_played_2 : decode cX7_played 2 = .ok (.putfield 74, 3) := by decide +kernel
theorem dX7_played_5 : decode cX7_played 5 = .ok (.iload_n 1, 1) := by decide +kernel
theorem dX7_played_6 : decode cX7_played 6 = .ok (.iconst 0, 1) := by decide +kernel
theorem dX7_played_7 : decode cX7_played 7 = .ok (.aload_n 0, 1) := by decide +kernel
theorem dX7_played_8 : decode cX7_played 8 = .ok (.getfield 141, 3) := by decide +kernel
theorem dX7_played_11 : decode cX7_played 11 = .ok (.iconst 1, 1) := by decide +kernel
theorem dX7_played_12 : decode cX7_played 12 = .ok (.isub, 1) := by decide +kernel
theorem dX7_played_13 : decode cX7_played 13 = .ok (.invokestatic 77, 3) := by decide +kernel
theorem dX7_played_16 : decode cX7_played 16 = .ok (.ifCond .eq 24, 3) := by decide +kernel
theorem dX7_played_19 : decode cX7_played 19 = .ok (.iload_n 2, 1) := by decide +kernel
theorem dX7_played_20 : decode cX7_played 20 = .ok (.invokestatic 89, 3) := by decide +kernel
theorem dX7_played_23 : decode cX7_played 23 = .ok (.ifCond .eq 17, 3) := by decide +kernel
theorem dX7_played_26 : decode cX7_played 26 = .ok (.aload_n 0, 1) := by decide +kernel
theorem dX7_played_27 : decode cX7_played 27 = .ok (.getfield 44, 3) := by decide +kernel
theorem dX7_played_30 : decode cX7_played 30 = .ok (.bipush 8, 2) := by decide +kernel
theorem dX7_played_32 : decode cX7_played 32 = .ok (.iload_n 1, 1) := by decide +kernel
theorem dX7_played_33 : decode cX7_played 33 = .ok (.imul, 1) := by decide +kernel
theorem dX7_played_34 : decode cX7_played 34 = .ok (.iload_n 2, 1) := by decide +kernel
theorem dX7_played_35 : decode cX7_played 35 = .ok (.iadd, 1) := by decide +kernel
theorem dX7_played_36 : decode cX7_played 36 = .ok (.iaload, 1) := by decide +kernel
theorem dX7_played_37 : decode cX7_played 37 = .ok (.goto 8, 3) := by decide +kernel
theorem dX7_played_40 : decode cX7_played 40 = .ok (.aload_n 0, 1) := by decide +kernel
theorem dX7_played_41 : decode cX7_played 41 = .ok (.iconst 1, 1) := by decide +kernel
theorem dX7_played_42 : decode cX7_played 42 = .ok (.invokevirtual 81, 3) := by decide +kernel
theorem dX7_played_45 : decode cX7_played 45 = .ok (.ireturn, 1) := by decide +kernel
theorem dX7_refund_0 : decode cX7_refund 0 = .ok (.aload_n 0, 1) := by decide +kernel
theorem dX7_refund_1 : decode cX7_refund 1 = .ok (.iconst 0, 1) := by decide +kernel
theorem dX7_refund_2 : decode cX7_refund 2 = .ok (.putfield 74, 3) := by decide +kernel
theorem dX7_refund_5 : decode cX7_refund 5 = .ok (.iload_n 1, 1) := by decide +kernel
theorem dX7_refund_6 : decode cX7_refund 6 = .ok (.iconst 0, 1) := by decide +kernel
theorem dX7_refund_7 : decode cX7_refund 7 = .ok (.aload_n 0, 1) := by decide +kernel
theorem dX7_refund_8 : decode cX7_refund 8 = .ok (.getfield 147, 3) := by decide +kernel
theorem dX7_refund_11 : decode cX7_refund 11 = .ok (.iconst 1, 1) := by decide +kernel
theorem dX7_refund_12 : decode cX7_refund 12 = .ok (.isub, 1) := by decide +kernel
theorem dX7_refund_13 : decode cX7_refund 13 = .ok (.invokestatic 77, 3) := by decide +kernel
theorem dX7_refund_16 : decode cX7_refund 16 = .ok (.ifCond .eq 12, 3) := by decide +kernel
theorem dX7_refund_19 : decode cX7_refund 19 = .ok (.aload_n 0, 1) := by decide +kernel
theorem dX7_refund_20 : decode cX7_refund 20 = .ok (.getfield 62, 3) := by decide +kernel
theorem dX7_refund_23 : decode cX7_refund 23 = .ok (.iload_n 1, 1) := by decide +kernel
theorem dX7_refund_24 : decode cX7_refund 24 = .ok (.iaload, 1) := by decide +kernel
theorem dX7_refund_25 : decode cX7_refund 25 = .ok (.goto 8, 3) := by decide +kernel
theorem dX7_refund_28 : decode cX7_refund 28 = .ok (.aload_n 0, 1) := by decide +kernel
theorem dX7_refund_29 : decode cX7_refund 29 = .ok (.iconst 1, 1) := by decide +kernel
theorem dX7_refund_30 : decode cX7_refund 30 = .ok (.invokevirtual 81, 3) := by decide +kernel
theorem dX7_refund_33 : decode cX7_refund 33 = .ok (.ireturn, 1) := by decide +kernel
theorem dX7_takings_0 : decode cX7_takings 0 = .ok (.aload_n 0, 1) := by decide +kernel
theorem dX7_takings_1 : decode cX7_takings 1 = .ok (.iconst 0, 1) := by decide +kernel
theorem dX7_takings_2 : decode cX7_takings 2 = .ok (.putfield 74, 3) := by decide +kernel
theorem dX7_takings_5 : decode cX7_takings 5 = .ok (.aload_n 0, 1) := by decide +kernel
theorem dX7_takings_6 : decode cX7_takings 6 = .ok (.getfield 150, 3) := by decide +kernel
theorem dX7_takings_9 : decode cX7_takings 9 = .ok (.ireturn, 1) := by decide +kernel
theorem dJ6_bitCount_0f7a4_0 : decode cJ6_bitCount_0f7a4 0 = .ok (.iload_n 0, 1) := by decide +kernel
theorem dJ6_bitCount_0f7a4_1 : decode cJ6_bitCount_0f7a4 1 = .ok (.iload_n 0, 1) := by decide +kernel
theorem dJ6_bitCount_0f7a4_2 : decode cJ6_bitCount_0f7a4 2 = .ok (.iconst 1, 1) := by decide +kernel
theorem dJ6_bitCount_0f7a4_3 : decode cJ6_bitCount_0f7a4 3 = .ok (.iushr, 1) := by decide +kernel
theorem dJ6_bitCount_0f7a4_4 : decode cJ6_bitCount_0f7a4 4 = .ok (.ldc_w 265, 3) := by decide +kernel
theorem dJ6_bitCount_0f7a4_7 : decode cJ6_bitCount_0f7a4 7 = .ok (.iand, 1) := by decide +kernel
theorem dJ6_bitCount_0f7a4_8 : decode cJ6_bitCount_0f7a4 8 = .ok (.isub, 1) := by decide +kernel
theorem dJ6_bitCount_0f7a4_9 : decode cJ6_bitCount_0f7a4 9 = .ok (.istore_n 0, 1) := by decide +kernel
theorem dJ6_bitCount_0f7a4_10 : decode cJ6_bitCount_0f7a4 10 = .ok (.iload_n 0, 1) := by decide +kernel
theorem dJ6_bitCount_0f7a4_11 : decode cJ6_bitCount_0f7a4 11 = .ok (.ldc_w 266, 3) := by decide +kernel
theorem dJ6_bitCount_0f7a4_14 : decode cJ6_bitCount_0f7a4 14 = .ok (.iand, 1) := by decide +kernel
theorem dJ6_bitCount_0f7a4_15 : decode cJ6_bitCount_0f7a4 15 = .ok (.iload_n 0, 1) := by decide +kernel
theorem dJ6_bitCount_0f7a4_16 : decode cJ6_bitCount_0f7a4 16 = .ok (.iconst 2, 1) := by decide +kernel
theorem dJ6_bitCount_0f7a4_17 : decode cJ6_bitCount_0f7a4 17 = .ok (.iushr, 1) := by decide +kernel
theorem dJ6_bitCount_0f7a4_18 : decode cJ6_bitCount_0f7a4 18 = .ok (.ldc_w 266, 3) := by decide +kernel
theorem dJ6_bitCount_0f7a4_21 : decode cJ6_bitCount_0f7a4 21 = .ok (.iand, 1) := by decide +kernel
theorem dJ6_bitCount_0f7a4_22 : decode cJ6_bitCount_0f7a4 22 = .ok (.iadd, 1) := by decide +kernel
theorem dJ6_bitCount_0f7a4_23 : decode cJ6_bitCount_0f7a4 23 = .ok (.istore_n 0, 1) := by decide +kernel
theorem dJ6_bitCount_0f7a4_24 : decode cJ6_bitCount_0f7a4 24 = .ok (.iload_n 0, 1) := by decide +kernel
theorem dJ6_bitCount_0f7a4_25 : decode cJ6_bitCount_0f7a4 25 = .ok (.iload_n 0, 1) := by decide +kernel
theorem dJ6_bitCount_0f7a4_26 : decode cJ6_bitCount_0f7a4 26 = .ok (.iconst 4, 1) := by decide +kernel
theorem dJ6_bitCount_0f7a4_27 : decode cJ6_bitCount_0f7a4 27 = .ok (.iushr, 1) := by decide +kernel
theorem dJ6_bitCount_0f7a4_28 : decode cJ6_bitCount_0f7a4 28 = .ok (.iadd, 1) := by decide +kernel
theorem dJ6_bitCount_0f7a4_29 : decode cJ6_bitCount_0f7a4 29 = .ok (.ldc_w 267, 3) := by decide +kernel
theorem dJ6_bitCount_0f7a4_32 : decode cJ6_bitCount_0f7a4 32 = .ok (.iand, 1) := by decide +kernel
theorem dJ6_bitCount_0f7a4_33 : decode cJ6_bitCount_0f7a4 33 = .ok (.istore_n 0, 1) := by decide +kernel
theorem dJ6_bitCount_0f7a4_34 : decode cJ6_bitCount_0f7a4 34 = .ok (.iload_n 0, 1) := by decide +kernel
theorem dJ6_bitCount_0f7a4_35 : decode cJ6_bitCount_0f7a4 35 = .ok (.iload_n 0, 1) := by decide +kernel
theorem dJ6_bitCount_0f7a4_36 : decode cJ6_bitCount_0f7a4 36 = .ok (.bipush 8, 2) := by decide +kernel
theorem dJ6_bitCount_0f7a4_38 : decode cJ6_bitCount_0f7a4 38 = .ok (.iushr, 1) := by decide +kernel
theorem dJ6_bitCount_0f7a4_39 : decode cJ6_bitCount_0f7a4 39 = .ok (.iadd, 1) := by decide +kernel
theorem dJ6_bitCount_0f7a4_40 : decode cJ6_bitCount_0f7a4 40 = .ok (.istore_n 0, 1) := by decide +kernel
theorem dJ6_bitCount_0f7a4_41 : decode cJ6_bitCount_0f7a4 41 = .ok (.iload_n 0, 1) := by decide +kernel
theorem dJ6_bitCount_0f7a4_42 : decode cJ6_bitCount_0f7a4 42 = .ok (.iload_n 0, 1) := by decide +kernel
theorem dJ6_bitCount_0f7a4_43 : decode cJ6_bitCount_0f7a4 43 = .ok (.bipush 16, 2) := by decide +kernel
theorem dJ6_bitCount_0f7a4_45 : decode cJ6_bitCount_0f7a4 45 = .ok (.iushr, 1) := by decide +kernel
theorem dJ6_bitCount_0f7a4_46 : decode cJ6_bitCount_0f7a4 46 = .ok (.iadd, 1) := by decide +kernel
theorem dJ6_bitCount_0f7a4_47 : decode cJ6_bitCount_0f7a4 47 = .ok (.istore_n 0, 1) := by decide +kernel
theorem dJ6_bitCount_0f7a4_48 : decode cJ6_bitCount_0f7a4 48 = .ok (.iload_n 0, 1) := by decide +kernel
theorem dJ6_bitCount_0f7a4_49 : decode cJ6_bitCount_0f7a4 49 = .ok (.bipush 63, 2) := by decide +kernel
theorem dJ6_bitCount_0f7a4_51 : decode cJ6_bitCount_0f7a4 51 = .ok (.iand, 1) := by decide +kernel
theorem dJ6_bitCount_0f7a4_52 : decode cJ6_bitCount_0f7a4 52 = .ok (.ireturn, 1) := by decide +kernel
theorem dJ9_max_7cf53_0 : decode cJ9_max_7cf53 0 = .ok (.iload_n 0, 1) := by decide +kernel
theorem dJ9_max_7cf53_1 : decode cJ9_max_7cf53 1 = .ok (.iload_n 1, 1) := by decide +kernel
theorem dJ9_max_7cf53_2 : decode cJ9_max_7cf53 2 = .ok (.if_icmp .lt 7, 3) := by decide +kernel
theorem dJ9_max_7cf53_5 : decode cJ9_max_7cf53 5 = .ok (.iload_n 0, 1) := by decide +kernel
theorem dJ9_max_7cf53_6 : decode cJ9_max_7cf53 6 = .ok (.goto 4, 3) := by decide +kernel
theorem dJ9_max_7cf53_9 : decode cJ9_max_7cf53 9 = .ok (.iload_n 1, 1) := by decide +kernel
theorem dJ9_max_7cf53_10 : decode cJ9_max_7cf53 10 = .ok (.ireturn, 1) := by decide +kernel
theorem dL_setParts_0 : decode cL_setParts 0 = .ok (.aload_n 2, 1) := by decide +kernel
theorem dL_setParts_1 : decode cL_setParts 1 = .ok (.iconst 0, 1) := by decide +kernel
theorem dL_setParts_2 : decode cL_setParts 2 = .ok (.aload_n 0, 1) := by decide +kernel
theorem dL_setParts_3 : decode cL_setParts 3 = .ok (.iload_n 1, 1) := by decide +kernel
theorem dL_setParts_4 : decode cL_setParts 4 = .ok (.invokevirtual 7, 3) := by decide +kernel
theorem dL_setParts_7 : decode cL_setParts 7 = .ok (.i2l, 1) := by decide +kernel
theorem dL_setParts_8 : decode cL_setParts 8 = .ok (.lastore, 1) := by decide +kernel
theorem dL_setParts_9 : decode cL_setParts 9 = .ok (.goto 6, 3) := by decide +kernel
theorem dL_setParts_12 : decode cL_setParts 12 = .ok (.astore_n 3, 1) := by decide +kernel
theorem dL_setParts_13 : decode cL_setParts 13 = .ok (.iconst 1, 1) := by decide +kernel
theorem dL_setParts_14 : decode cL_setParts 14 = .ok (.ireturn, 1) := by decide +kernel
theorem dL_setParts_15 : decode cL_setParts 15 = .ok (.iconst 0, 1) := by decide +kernel
theorem dL_setParts_16 : decode cL_setParts 16 = .ok (.ireturn, 1) := by decide +kernel
theorem dL_setSize_0 : decode cL_setSize 0 = .ok (.aload_n 3, 1) := by decide +kernel
theorem dL_setSize_1 : decode cL_setSize 1 = .ok (.iconst 0, 1) := by decide +kernel
theorem dL_setSize_2 : decode cL_setSize 2 = .ok (.aload_n 0, 1) := by decide +kernel
theorem dL_setSize_3 : decode cL_setSize 3 = .ok (.iload_n 1, 1) := by decide +kernel
theorem dL_setSize_4 : decode cL_setSize 4 = .ok (.iload_n 2, 1) := by decide +kernel
theorem dL_setSize_5 : decode cL_setSize 5 = .ok (.invokevirtual 15, 3) := by decide +kernel
theorem dL_setSize_8 : decode cL_setSize 8 = .ok (.i2l, 1) := by decide +kernel
theorem dL_setSize_9 : decode cL_setSize 9 = .ok (.lastore, 1) := by decide +kernel
theorem dL_setSize_10 : decode cL_setSize 10 = .ok (.goto 11, 3) := by decide +kernel
theorem dL_setSize_13 : decode cL_setSize 13 = .ok (.astore 4, 2) := by decide +kernel
theorem dL_setSize_15 : decode cL_setSize 15 = .ok (.iconst 1, 1) := by decide +kernel
theorem dL_setSize_16 : decode cL_setSize 16 = .ok (.ireturn, 1) := by decide +kernel
theorem dL_setSize_17 : decode cL_setSize 17 = .ok (.astore 4, 2) := by decide +kernel
theorem dL_setSize_19 : decode cL_setSize 19 = .ok (.iconst 2, 1) := by decide +kernel
theorem dL_setSize_20 : decode cL_setSize 20 = .ok (.ireturn, 1) := by decide +kernel
theorem dL_setSize_21 : decode cL_setSize 21 = .ok (.iconst 0, 1) := by decide +kernel
theorem dL_setSize_22 : decode cL_setSize 22 = .ok (.ireturn, 1) := by decide +kernel
theorem dL_learn_0 : decode cL_learn 0 = .ok (.aload 4, 2) := by decide +kernel
theorem dL_learn_2 : decode cL_learn 2 = .ok (.iconst 0, 1) := by decide +kernel
theorem dL_learn_3 : decode cL_learn 3 = .ok (.aload_n 0, 1) := by decide +kernel
theorem dL_learn_4 : decode cL_learn 4 = .ok (.iload_n 1, 1) := by decide +kernel
theorem dL_learn_5 : decode cL_learn 5 = .ok (.iload_n 2, 1) := by decide +kernel
theorem dL_learn_6 : decode cL_learn 6 = .ok (.iload_n 3, 1) := by decide +kernel
theorem dL_learn_7 : decode cL_learn 7 = .ok (.invokevirtual 21, 3) := by decide +kernel
theorem dL_learn_10 : decode cL_learn 10 = .ok (.i2l, 1) := by decide +kernel
theorem dL_learn_11 : decode cL_learn 11 = .ok (.lastore, 1) := by decide +kernel
theorem dL_learn_12 : decode cL_learn 12 = .ok (.goto 11, 3) := by decide +kernel
theorem dL_learn_15 : decode cL_learn 15 = .ok (.astore 5, 2) := by decide +kernel
theorem dL_learn_17 : decode cL_learn 17 = .ok (.iconst 1, 1) := by decide +kernel
theorem dL_learn_18 : decode cL_learn 18 = .ok (.ireturn, 1) := by decide +kernel
theorem dL_learn_19 : decode cL_learn 19 = .ok (.astore 5, 2) := by decide +kernel
theorem dL_learn_21 : decode cL_learn 21 = .ok (.iconst 2, 1) := by decide +kernel
theorem dL_learn_22 : decode cL_learn 22 = .ok (.ireturn, 1) := by decide +kernel
theorem dL_learn_23 : decode cL_learn 23 = .ok (.iconst 0, 1) := by decide +kernel
theorem dL_learn_24 : decode cL_learn 24 = .ok (.ireturn, 1) := by decide +kernel
theorem dL_put_0 : decode cL_put 0 = .ok (.aload_n 3, 1) := by decide +kernel
theorem dL_put_1 : decode cL_put 1 = .ok (.iconst 0, 1) := by decide +kernel
theorem dL_put_2 : decode cL_put 2 = .ok (.aload_n 0, 1) := by decide +kernel
theorem dL_put_3 : decode cL_put 3 = .ok (.iload_n 1, 1) := by decide +kernel
theorem dL_put_4 : decode cL_put 4 = .ok (.iload_n 2, 1) := by decide +kernel
theorem dL_put_5 : decode cL_put 5 = .ok (.invokevirtual 27, 3) := by decide +kernel
theorem dL_put_8 : decode cL_put 8 = .ok (.i2l, 1) := by decide +kernel
theorem dL_put_9 : decode cL_put 9 = .ok (.lastore, 1) := by decide +kernel
theorem dL_put_10 : decode cL_put 10 = .ok (.goto 11, 3) := by decide +kernel
theorem dL_put_13 : decode cL_put 13 = .ok (.astore 4, 2) := by decide +kernel
theorem dL_put_15 : decode cL_put 15 = .ok (.iconst 1, 1) := by decide +kernel
theorem dL_put_16 : decode cL_put 16 = .ok (.ireturn, 1) := by decide +kernel
theorem dL_put_17 : decode cL_put 17 = .ok (.astore 4, 2) := by decide +kernel
theorem dL_put_19 : decode cL_put 19 = .ok (.iconst 2, 1) := by decide +kernel
theorem dL_put_20 : decode cL_put 20 = .ok (.ireturn, 1) := by decide +kernel
theorem dL_put_21 : decode cL_put 21 = .ok (.iconst 0, 1) := by decide +kernel
theorem dL_put_22 : decode cL_put 22 = .ok (.ireturn, 1) := by decide +kernel
theorem dL_take_0 : decode cL_take 0 = .ok (.aload_n 3, 1) := by decide +kernel
theorem dL_take_1 : decode cL_take 1 = .ok (.iconst 0, 1) := by decide +kernel
theorem dL_take_2 : decode cL_take 2 = .ok (.aload_n 0, 1) := by decide +kernel
theorem dL_take_3 : decode cL_take 3 = .ok (.iload_n 1, 1) := by decide +kernel
theorem dL_take_4 : decode cL_take 4 = .ok (.iload_n 2, 1) := by decide +kernel
theorem dL_take_5 : decode cL_take 5 = .ok (.invokevirtual 30, 3) := by decide +kernel
theorem dL_take_8 : decode cL_take 8 = .ok (.i2l, 1) := by decide +kernel
theorem dL_take_9 : decode cL_take 9 = .ok (.lastore, 1) := by decide +kernel
theorem dL_take_10 : decode cL_take 10 = .ok (.goto 11, 3) := by decide +kernel
theorem dL_take_13 : decode cL_take 13 = .ok (.astore 4, 2) := by decide +kernel
theorem dL_take_15 : decode cL_take 15 = .ok (.iconst 1, 1) := by decide +kernel
theorem dL_take_16 : decode cL_take 16 = .ok (.ireturn, 1) := by decide +kernel
theorem dL_take_17 : decode cL_take 17 = .ok (.astore 4, 2) := by decide +kernel
theorem dL_take_19 : decode cL_take 19 = .ok (.iconst 2, 1) := by decide +kernel
theorem dL_take_20 : decode cL_take 20 = .ok (.ireturn, 1) := by decide +kernel
theorem dL_take_21 : decode cL_take 21 = .ok (.iconst 0, 1) := by decide +kernel
theorem dL_take_22 : decode cL_take 22 = .ok (.ireturn, 1) := by decide +kernel
theorem dL_costume_0 : decode cL_costume 0 = .ok (.aload_n 3, 1) := by decide +kernel
theorem dL_costume_1 : decode cL_costume 1 = .ok (.iconst 0, 1) := by decide +kernel
theorem dL_costume_2 : decode cL_costume 2 = .ok (.aload_n 0, 1) := by decide +kernel
theorem dL_costume_3 : decode cL_costume 3 = .ok (.iload_n 1, 1) := by decide +kernel
theorem dL_costume_4 : decode cL_costume 4 = .ok (.iload_n 2, 1) := by decide +kernel
theorem dL_costume_5 : decode cL_costume 5 = .ok (.invokevirtual 33, 3) := by decide +kernel
theorem dL_costume_8 : decode cL_costume 8 = .ok (.i2l, 1) := by decide +kernel
theorem dL_costume_9 : decode cL_costume 9 = .ok (.lastore, 1) := by decide +kernel
theorem dL_costume_10 : decode cL_costume 10 = .ok (.goto 15, 3) := by decide +kernel
theorem dL_costume_13 : decode cL_costume 13 = .ok (.astore 4, 2) := by decide +kernel
theorem dL_costume_15 : decode cL_costume 15 = .ok (.iconst 1, 1) := by decide +kernel
theorem dL_costume_16 : decode cL_costume 16 = .ok (.ireturn, 1) := by decide +kernel
theorem dL_costume_17 : decode cL_costume 17 = .ok (.astore 4, 2) := by decide +kernel
theorem dL_costume_19 : decode cL_costume 19 = .ok (.iconst 2, 1) := by decide +kernel
theorem dL_costume_20 : decode cL_costume 20 = .ok (.ireturn, 1) := by decide +kernel
theorem dL_costume_21 : decode cL_costume 21 = .ok (.astore 4, 2) := by decide +kernel
theorem dL_costume_23 : decode cL_costume 23 = .ok (.iconst 3, 1) := by decide +kernel
theorem dL_costume_24 : decode cL_costume 24 = .ok (.ireturn, 1) := by decide +kernel
theorem dL_costume_25 : decode cL_costume 25 = .ok (.iconst 0, 1) := by decide +kernel
theorem dL_costume_26 : decode cL_costume 26 = .ok (.ireturn, 1) := by decide +kernel
theorem dL_sizeOf_0 : decode cL_sizeOf 0 = .ok (.aload_n 2, 1) := by decide +kernel
theorem dL_sizeOf_1 : decode cL_sizeOf 1 = .ok (.iconst 0, 1) := by decide +kernel
theorem dL_sizeOf_2 : decode cL_sizeOf 2 = .ok (.aload_n 0, 1) := by decide +kernel
theorem dL_sizeOf_3 : decode cL_sizeOf 3 = .ok (.iload_n 1, 1) := by decide +kernel
theorem dL_sizeOf_4 : decode cL_sizeOf 4 = .ok (.invokevirtual 36, 3) := by decide +kernel
theorem dL_sizeOf_7 : decode cL_sizeOf 7 = .ok (.i2l, 1) := by decide +kernel
theorem dL_sizeOf_8 : decode cL_sizeOf 8 = .ok (.lastore, 1) := by decide +kernel
theorem dL_sizeOf_9 : decode cL_sizeOf 9 = .ok (.goto 6, 3) := by decide +kernel
theorem dL_sizeOf_12 : decode cL_sizeOf 12 = .ok (.astore_n 3, 1) := by decide +kernel
theorem dL_sizeOf_13 : decode cL_sizeOf 13 = .ok (.iconst 1, 1) := by decide +kernel
theorem dL_sizeOf_14 : decode cL_sizeOf 14 = .ok (.ireturn, 1) := by decide +kernel
theorem dL_sizeOf_15 : decode cL_sizeOf 15 = .ok (.iconst 0, 1) := by decide +kernel
theorem dL_sizeOf_16 : decode cL_sizeOf 16 = .ok (.ireturn, 1) := by decide +kernel
theorem dL_cold_0 : decode cL_cold 0 = .ok (.aload 4, 2) := by decide +kernel
theorem dL_cold_2 : decode cL_cold 2 = .ok (.iconst 0, 1) := by decide +kernel
theorem dL_cold_3 : decode cL_cold 3 = .ok (.aload_n 0, 1) := by decide +kernel
theorem dL_cold_4 : decode cL_cold 4 = .ok (.iload_n 1, 1) := by decide +kernel
theorem dL_cold_5 : decode cL_cold 5 = .ok (.iload_n 2, 1) := by decide +kernel
theorem dL_cold_6 : decode cL_cold 6 = .ok (.iload_n 3, 1) := by decide +kernel
theorem dL_cold_7 : decode cL_cold 7 = .ok (.invokevirtual 39, 3) := by decide +kernel
theorem dL_cold_10 : decode cL_cold 10 = .ok (.i2l, 1) := by decide +kernel
theorem dL_cold_11 : decode cL_cold 11 = .ok (.lastore, 1) := by decide +kernel
theorem dL_cold_12 : decode cL_cold 12 = .ok (.goto 11, 3) := by decide +kernel
theorem dL_cold_15 : decode cL_cold 15 = .ok (.astore 5, 2) := by decide +kernel
theorem dL_cold_17 : decode cL_cold 17 = .ok (.iconst 1, 1) := by decide +kernel
theorem dL_cold_18 : decode cL_cold 18 = .ok (.ireturn, 1) := by decide +kernel
theorem dL_cold_19 : decode cL_cold 19 = .ok (.astore 5, 2) := by decide +kernel
theorem dL_cold_21 : decode cL_cold 21 = .ok (.iconst 2, 1) := by decide +kernel
theorem dL_cold_22 : decode cL_cold 22 = .ok (.ireturn, 1) := by decide +kernel
theorem dL_cold_23 : decode cL_cold 23 = .ok (.iconst 0, 1) := by decide +kernel
theorem dL_cold_24 : decode cL_cold 24 = .ok (.ireturn, 1) := by decide +kernel
theorem dL_isIll_0 : decode cL_isIll 0 = .ok (.aload_n 3, 1) := by decide +kernel
theorem dL_isIll_1 : decode cL_isIll 1 = .ok (.iconst 0, 1) := by decide +kernel
theorem dL_isIll_2 : decode cL_isIll 2 = .ok (.aload_n 0, 1) := by decide +kernel
theorem dL_isIll_3 : decode cL_isIll 3 = .ok (.iload_n 1, 1) := by decide +kernel
theorem dL_isIll_4 : decode cL_isIll 4 = .ok (.iload_n 2, 1) := by decide +kernel
theorem dL_isIll_5 : decode cL_isIll 5 = .ok (.invokevirtual 43, 3) := by decide +kernel
theorem dL_isIll_8 : decode cL_isIll 8 = .ok (.ifCond .eq 7, 3) := by decide +kernel
theorem dL_isIll_11 : decode cL_isIll 11 = .ok (.lconst 1, 1) := by decide +kernel
theorem dL_isIll_12 : decode cL_isIll 12 = .ok (.goto 4, 3) := by decide +kernel
theorem dL_isIll_15 : decode cL_isIll 15 = .ok (.lconst 0, 1) := by decide +kernel
theorem dL_isIll_16 : decode cL_isIll 16 = .ok (.lastore, 1) := by decide +kernel
theorem dL_isIll_17 : decode cL_isIll 17 = .ok (.goto 11, 3) := by decide +kernel
theorem dL_isIll_20 : decode cL_isIll 20 = .ok (.astore 4, 2) := by decide +kernel
theorem dL_isIll_22 : decode cL_isIll 22 = .ok (.iconst 1, 1) := by decide +kernel
theorem dL_isIll_23 : decode cL_isIll 23 = .ok (.ireturn, 1) := by decide +kernel
theorem dL_isIll_24 : decode cL_isIll 24 = .ok (.astore 4, 2) := by decide +kernel
theorem dL_isIll_26 : decode cL_isIll 26 = .ok (.iconst 2, 1) := by decide +kernel
theorem dL_isIll_27 : decode cL_isIll 27 = .ok (.ireturn, 1) := by decide +kernel
theorem dL_isIll_28 : decode cL_isIll 28 = .ok (.iconst 0, 1) := by decide +kernel
theorem dL_isIll_29 : decode cL_isIll 29 = .ok (.ireturn, 1) := by decide +kernel
theorem dL_canPlay_0 : decode cL_canPlay 0 = .ok (.aload 4, 2) := by decide +kernel
theorem dL_canPlay_2 : decode cL_canPlay 2 = .ok (.iconst 0, 1) := by decide +kernel
theorem dL_canPlay_3 : decode cL_canPlay 3 = .ok (.aload_n 0, 1) := by decide +kernel
theorem dL_canPlay_4 : decode cL_canPlay 4 = .ok (.iload_n 1, 1) := by decide +kernel
theorem dL_canPlay_5 : decode cL_canPlay 5 = .ok (.iload_n 2, 1) := by decide +kernel
theorem dL_canPlay_6 : decode cL_canPlay 6 = .ok (.iload_n 3, 1) := by decide +kernel
theorem dL_canPlay_7 : decode cL_canPlay 7 = .ok (.invokevirtual 47, 3) := by decide +kernel
theorem dL_canPlay_10 : decode cL_canPlay 10 = .ok (.ifCond .eq 7, 3) := by decide +kernel
theorem dL_canPlay_13 : decode cL_canPlay 13 = .ok (.lconst 1, 1) := by decide +kernel
theorem dL_canPlay_14 : decode cL_canPlay 14 = .ok (.goto 4, 3) := by decide +kernel
theorem dL_canPlay_17 : decode cL_canPlay 17 = .ok (.lconst 0, 1) := by decide +kernel
theorem dL_canPlay_18 : decode cL_canPlay 18 = .ok (.lastore, 1) := by decide +kernel
theorem dL_canPlay_19 : decode cL_canPlay 19 = .ok (.goto 11, 3) := by decide +kernel
theorem dL_canPlay_22 : decode cL_canPlay 22 = .ok (.astore 5, 2) := by decide +kernel
theorem dL_canPlay_24 : decode cL_canPlay 24 = .ok (.iconst 1, 1) := by decide +kernel
theorem dL_canPlay_25 : decode cL_canPlay 25 = .ok (.ireturn, 1) := by decide +kernel
theorem dL_canPlay_26 : decode cL_canPlay 26 = .ok (.astore 5, 2) := by decide +kernel
theorem dL_canPlay_28 : decode cL_canPlay 28 = .ok (.iconst 2, 1) := by decide +kernel
theorem dL_canPlay_29 : decode cL_canPlay 29 = .ok (.ireturn, 1) := by decide +kernel
theorem dL_canPlay_30 : decode cL_canPlay 30 = .ok (.iconst 0, 1) := by decide +kernel
theorem dL_canPlay_31 : decode cL_canPlay 31 = .ok (.ireturn, 1) := by decide +kernel
theorem dL_strain_0 : decode cL_strain 0 = .ok (.aload_n 2, 1) := by decide +kernel
theorem dL_strain_1 : decode cL_strain 1 = .ok (.iconst 0, 1) := by decide +kernel
theorem dL_strain_2 : decode cL_strain 2 = .ok (.aload_n 0, 1) := by decide +kernel
theorem dL_strain_3 : decode cL_strain 3 = .ok (.iload_n 1, 1) := by decide +kernel
theorem dL_strain_4 : decode cL_strain 4 = .ok (.invokevirtual 51, 3) := by decide +kernel
theorem dL_strain_7 : decode cL_strain 7 = .ok (.i2l, 1) := by decide +kernel
theorem dL_strain_8 : decode cL_strain 8 = .ok (.lastore, 1) := by decide +kernel
theorem dL_strain_9 : decode cL_strain 9 = .ok (.goto 6, 3) := by decide +kernel
theorem dL_strain_12 : decode cL_strain 12 = .ok (.astore_n 3, 1) := by decide +kernel
theorem dL_strain_13 : decode cL_strain 13 = .ok (.iconst 1, 1) := by decide +kernel
theorem dL_strain_14 : decode cL_strain 14 = .ok (.ireturn, 1) := by decide +kernel
theorem dL_strain_15 : decode cL_strain 15 = .ok (.iconst 0, 1) := by decide +kernel
theorem dL_strain_16 : decode cL_strain 16 = .ok (.ireturn, 1) := by decide +kernel
theorem dL_strainByAll_0 : decode cL_strainByAll 0 = .ok (.aload_n 2, 1) := by decide +kernel
theorem dL_strainByAll_1 : decode cL_strainByAll 1 = .ok (.iconst 0, 1) := by decide +kernel
theorem dL_strainByAll_2 : decode cL_strainByAll 2 = .ok (.aload_n 0, 1) := by decide +kernel
theorem dL_strainByAll_3 : decode cL_strainByAll 3 = .ok (.iload_n 1, 1) := by decide +kernel
theorem dL_strainByAll_4 : decode cL_strainByAll 4 = .ok (.invokevirtual 54, 3) := by decide +kernel
theorem dL_strainByAll_7 : decode cL_strainByAll 7 = .ok (.i2l, 1) := by decide +kernel
theorem dL_strainByAll_8 : decode cL_strainByAll 8 = .ok (.lastore, 1) := by decide +kernel
theorem dL_strainByAll_9 : decode cL_strainByAll 9 = .ok (.goto 6, 3) := by decide +kernel
theorem dL_strainByAll_12 : decode cL_strainByAll 12 = .ok (.astore_n 3, 1) := by decide +kernel
theorem dL_strainByAll_13 : decode cL_strainByAll 13 = .ok (.iconst 1, 1) := by decide +kernel
theorem dL_strainByAll_14 : decode cL_strainByAll 14 = .ok (.ireturn, 1) := by decide +kernel
theorem dL_strainByAll_15 : decode cL_strainByAll 15 = .ok (.iconst 0, 1) := by decide +kernel
theorem dL_strainByAll_16 : decode cL_strainByAll 16 = .ok (.ireturn, 1) := by decide +kernel
theorem dL_work_0 : decode cL_work 0 = .ok (.aload_n 2, 1) := by decide +kernel
theorem dL_work_1 : decode cL_work 1 = .ok (.iconst 0, 1) := by decide +kernel
theorem dL_work_2 : decode cL_work 2 = .ok (.aload_n 0, 1) := by decide +kernel
theorem dL_work_3 : decode cL_work 3 = .ok (.iload_n 1, 1) := by decide +kernel
theorem dL_work_4 : decode cL_work 4 = .ok (.invokevirtual 57, 3) := by decide +kernel
theorem dL_work_7 : decode cL_work 7 = .ok (.i2l, 1) := by decide +kernel
theorem dL_work_8 : decode cL_work 8 = .ok (.lastore, 1) := by decide +kernel
theorem dL_work_9 : decode cL_work 9 = .ok (.goto 6, 3) := by decide +kernel
theorem dL_work_12 : decode cL_work 12 = .ok (.astore_n 3, 1) := by decide +kernel
theorem dL_work_13 : decode cL_work 13 = .ok (.iconst 1, 1) := by decide +kernel
theorem dL_work_14 : decode cL_work 14 = .ok (.ireturn, 1) := by decide +kernel
theorem dL_work_15 : decode cL_work 15 = .ok (.iconst 0, 1) := by decide +kernel
theorem dL_work_16 : decode cL_work 16 = .ok (.ireturn, 1) := by decide +kernel
theorem dL_actorFor_0 : decode cL_actorFor 0 = .ok (.aload_n 3, 1) := by decide +kernel
theorem dL_actorFor_1 : decode cL_actorFor 1 = .ok (.iconst 0, 1) := by decide +kernel
theorem dL_actorFor_2 : decode cL_actorFor 2 = .ok (.aload_n 0, 1) := by decide +kernel
theorem dL_actorFor_3 : decode cL_actorFor 3 = .ok (.iload_n 1, 1) := by decide +kernel
theorem dL_actorFor_4 : decode cL_actorFor 4 = .ok (.iload_n 2, 1) := by decide +kernel
theorem dL_actorFor_5 : decode cL_actorFor 5 = .ok (.invokevirtual 60, 3) := by decide +kernel
theorem dL_actorFor_8 : decode cL_actorFor 8 = .ok (.i2l, 1) := by decide +kernel
theorem dL_actorFor_9 : decode cL_actorFor 9 = .ok (.lastore, 1) := by decide +kernel
theorem dL_actorFor_10 : decode cL_actorFor 10 = .ok (.goto 11, 3) := by decide +kernel
theorem dL_actorFor_13 : decode cL_actorFor 13 = .ok (.astore 4, 2) := by decide +kernel
theorem dL_actorFor_15 : decode cL_actorFor 15 = .ok (.iconst 1, 1) := by decide +kernel
theorem dL_actorFor_16 : decode cL_actorFor 16 = .ok (.ireturn, 1) := by decide +kernel
theorem dL_actorFor_17 : decode cL_actorFor 17 = .ok (.astore 4, 2) := by decide +kernel
theorem dL_actorFor_19 : decode cL_actorFor 19 = .ok (.iconst 2, 1) := by decide +kernel
theorem dL_actorFor_20 : decode cL_actorFor 20 = .ok (.ireturn, 1) := by decide +kernel
theorem dL_actorFor_21 : decode cL_actorFor 21 = .ok (.iconst 0, 1) := by decide +kernel
theorem dL_actorFor_22 : decode cL_actorFor 22 = .ok (.ireturn, 1) := by decide +kernel
theorem dL_chain_0 : decode cL_chain 0 = .ok (.aload_n 3, 1) := by decide +kernel
theorem dL_chain_1 : decode cL_chain 1 = .ok (.iconst 0, 1) := by decide +kernel
theorem dL_chain_2 : decode cL_chain 2 = .ok (.aload_n 0, 1) := by decide +kernel
theorem dL_chain_3 : decode cL_chain 3 = .ok (.iload_n 1, 1) := by decide +kernel
theorem dL_chain_4 : decode cL_chain 4 = .ok (.iload_n 2, 1) := by decide +kernel
theorem dL_chain_5 : decode cL_chain 5 = .ok (.invokevirtual 63, 3) := by decide +kernel
theorem dL_chain_8 : decode cL_chain 8 = .ok (.i2l, 1) := by decide +kernel
theorem dL_chain_9 : decode cL_chain 9 = .ok (.lastore, 1) := by decide +kernel
theorem dL_chain_10 : decode cL_chain 10 = .ok (.goto 11, 3) := by decide +kernel
theorem dL_chain_13 : decode cL_chain 13 = .ok (.astore 4, 2) := by decide +kernel
theorem dL_chain_15 : decode cL_chain 15 = .ok (.iconst 1, 1) := by decide +kernel
theorem dL_chain_16 : decode cL_chain 16 = .ok (.ireturn, 1) := by decide +kernel
theorem dL_chain_17 : decode cL_chain 17 = .ok (.astore 4, 2) := by decide +kernel
theorem dL_chain_19 : decode cL_chain 19 = .ok (.iconst 2, 1) := by decide +kernel
theorem dL_chain_20 : decode cL_chain 20 = .ok (.ireturn, 1) := by decide +kernel
theorem dL_chain_21 : decode cL_chain 21 = .ok (.iconst 0, 1) := by decide +kernel
theorem dL_chain_22 : decode cL_chain 22 = .ok (.ireturn, 1) := by decide +kernel
theorem dL_show_0 : decode cL_show 0 = .ok (.aload_n 2, 1) := by decide +kernel
theorem dL_show_1 : decode cL_show 1 = .ok (.iconst 0, 1) := by decide +kernel
theorem dL_show_2 : decode cL_show 2 = .ok (.aload_n 0, 1) := by decide +kernel
theorem dL_show_3 : decode cL_show 3 = .ok (.iload_n 1, 1) := by decide +kernel
theorem dL_show_4 : decode cL_show 4 = .ok (.invokevirtual 66, 3) := by decide +kernel
theorem dL_show_7 : decode cL_show 7 = .ok (.i2l, 1) := by decide +kernel
theorem dL_show_8 : decode cL_show 8 = .ok (.lastore, 1) := by decide +kernel
theorem dL_show_9 : decode cL_show 9 = .ok (.goto 9, 3) := by decide +kernel
theorem dL_show_12 : decode cL_show 12 = .ok (.astore_n 3, 1) := by decide +kernel
theorem dL_show_13 : decode cL_show 13 = .ok (.iconst 1, 1) := by decide +kernel
theorem dL_show_14 : decode cL_show 14 = .ok (.ireturn, 1) := by decide +kernel
theorem dL_show_15 : decode cL_show 15 = .ok (.astore_n 3, 1) := by decide +kernel
theorem dL_show_16 : decode cL_show 16 = .ok (.iconst 2, 1) := by decide +kernel
theorem dL_show_17 : decode cL_show 17 = .ok (.ireturn, 1) := by decide +kernel
theorem dL_show_18 : decode cL_show 18 = .ok (.iconst 0, 1) := by decide +kernel
theorem dL_show_19 : decode cL_show 19 = .ok (.ireturn, 1) := by decide +kernel
theorem dL_sell_0 : decode cL_sell 0 = .ok (.aload 5, 2) := by decide +kernel
theorem dL_sell_2 : decode cL_sell 2 = .ok (.iconst 0, 1) := by decide +kernel
theorem dL_sell_3 : decode cL_sell 3 = .ok (.aload_n 0, 1) := by decide +kernel
theorem dL_sell_4 : decode cL_sell 4 = .ok (.iload_n 1, 1) := by decide +kernel
theorem dL_sell_5 : decode cL_sell 5 = .ok (.iload_n 2, 1) := by decide +kernel
theorem dL_sell_6 : decode cL_sell 6 = .ok (.iload_n 3, 1) := by decide +kernel
theorem dL_sell_7 : decode cL_sell 7 = .ok (.iload 4, 2) := by decide +kernel
theorem dL_sell_9 : decode cL_sell 9 = .ok (.invokevirtual 69, 3) := by decide +kernel
theorem dL_sell_12 : decode cL_sell 12 = .ok (.i2l, 1) := by decide +kernel
theorem dL_sell_13 : decode cL_sell 13 = .ok (.lastore, 1) := by decide +kernel
theorem dL_sell_14 : decode cL_sell 14 = .ok (.goto 15, 3) := by decide +kernel
theorem dL_sell_17 : decode cL_sell 17 = .ok (.astore 6, 2) := by decide +kernel
theorem dL_sell_19 : decode cL_sell 19 = .ok (.iconst 1, 1) := by decide +kernel
theorem dL_sell_20 : decode cL_sell 20 = .ok (.ireturn, 1) := by decide +kernel
theorem dL_sell_21 : decode cL_sell 21 = .ok (.astore 6, 2) := by decide +kernel
theorem dL_sell_23 : decode cL_sell 23 = .ok (.iconst 2, 1) := by decide +kernel
theorem dL_sell_24 : decode cL_sell 24 = .ok (.ireturn, 1) := by decide +kernel
theorem dL_sell_25 : decode cL_sell 25 = .ok (.astore 6, 2) := by decide +kernel
theorem dL_sell_27 : decode cL_sell 27 = .ok (.iconst 3, 1) := by decide +kernel
theorem dL_sell_28 : decode cL_sell 28 = .ok (.ireturn, 1) := by decide +kernel
theorem dL_sell_29 : decode cL_sell 29 = .ok (.iconst 0, 1) := by decide +kernel
theorem dL_sell_30 : decode cL_sell 30 = .ok (.ireturn, 1) := by decide +kernel
theorem dL_play_0 : decode cL_play 0 = .ok (.aload_n 1, 1) := by decide +kernel
theorem dL_play_1 : decode cL_play 1 = .ok (.iconst 0, 1) := by decide +kernel
theorem dL_play_2 : decode cL_play 2 = .ok (.aload_n 0, 1) := by decide +kernel
theorem dL_play_3 : decode cL_play 3 = .ok (.invokevirtual 73, 3) := by decide +kernel
theorem dL_play_6 : decode cL_play 6 = .ok (.i2l, 1) := by decide +kernel
theorem dL_play_7 : decode cL_play 7 = .ok (.lastore, 1) := by decide +kernel
theorem dL_play_8 : decode cL_play 8 = .ok (.goto 6, 3) := by decide +kernel
theorem dL_play_11 : decode cL_play 11 = .ok (.astore_n 2, 1) := by decide +kernel
theorem dL_play_12 : decode cL_play 12 = .ok (.iconst 1, 1) := by decide +kernel
theorem dL_play_13 : decode cL_play 13 = .ok (.ireturn, 1) := by decide +kernel
theorem dL_play_14 : decode cL_play 14 = .ok (.iconst 0, 1) := by decide +kernel
theorem dL_play_15 : decode cL_play 15 = .ok (.ireturn, 1) := by decide +kernel
theorem dL_stateOf_0 : decode cL_stateOf 0 = .ok (.aload_n 2, 1) := by decide +kernel
theorem dL_stateOf_1 : decode cL_stateOf 1 = .ok (.iconst 0, 1) := by decide +kernel
theorem dL_stateOf_2 : decode cL_stateOf 2 = .ok (.aload_n 0, 1) := by decide +kernel
theorem dL_stateOf_3 : decode cL_stateOf 3 = .ok (.iload_n 1, 1) := by decide +kernel
theorem dL_stateOf_4 : decode cL_stateOf 4 = .ok (.invokevirtual 77, 3) := by decide +kernel
theorem dL_stateOf_7 : decode cL_stateOf 7 = .ok (.i2l, 1) := by decide +kernel
theorem dL_stateOf_8 : decode cL_stateOf 8 = .ok (.lastore, 1) := by decide +kernel
theorem dL_stateOf_9 : decode cL_stateOf 9 = .ok (.goto 6, 3) := by decide +kernel
theorem dL_stateOf_12 : decode cL_stateOf 12 = .ok (.astore_n 3, 1) := by decide +kernel
theorem dL_stateOf_13 : decode cL_stateOf 13 = .ok (.iconst 1, 1) := by decide +kernel
theorem dL_stateOf_14 : decode cL_stateOf 14 = .ok (.ireturn, 1) := by decide +kernel
theorem dL_stateOf_15 : decode cL_stateOf 15 = .ok (.iconst 0, 1) := by decide +kernel
theorem dL_stateOf_16 : decode cL_stateOf 16 = .ok (.ireturn, 1) := by decide +kernel
theorem dL_played_0 : decode cL_played 0 = .ok (.aload_n 3, 1) := by decide +kernel
theorem dL_played_1 : decode cL_played 1 = .ok (.iconst 0, 1) := by decide +kernel
theorem dL_played_2 : decode cL_played 2 = .ok (.aload_n 0, 1) := by decide +kernel
theorem dL_played_3 : decode cL_played 3 = .ok (.iload_n 1, 1) := by decide +kernel
theorem dL_played_4 : decode cL_played 4 = .ok (.iload_n 2, 1) := by decide +kernel
theorem dL_played_5 : decode cL_played 5 = .ok (.invokevirtual 80, 3) := by decide +kernel
theorem dL_played_8 : decode cL_played 8 = .ok (.i2l, 1) := by decide +kernel
theorem dL_played_9 : decode cL_played 9 = .ok (.lastore, 1) := by decide +kernel
theorem dL_played_10 : decode cL_played 10 = .ok (.goto 7, 3) := by decide +kernel
theorem dL_played_13 : decode cL_played 13 = .ok (.astore 4, 2) := by decide +kernel
theorem dL_played_15 : decode cL_played 15 = .ok (.iconst 1, 1) := by decide +kernel
theorem dL_played_16 : decode cL_played 16 = .ok (.ireturn, 1) := by decide +kernel
theorem dL_played_17 : decode cL_played 17 = .ok (.iconst 0, 1) := by decide +kernel
theorem dL_played_18 : decode cL_played 18 = .ok (.ireturn, 1) := by decide +kernel
theorem dL_refund_0 : decode cL_refund 0 = .ok (.aload_n 2, 1) := by decide +kernel
theorem dL_refund_1 : decode cL_refund 1 = .ok (.iconst 0, 1) := by decide +kernel
theorem dL_refund_2 : decode cL_refund 2 = .ok (.aload_n 0, 1) := by decide +kernel
theorem dL_refund_3 : decode cL_refund 3 = .ok (.iload_n 1, 1) := by decide +kernel
theorem dL_refund_4 : decode cL_refund 4 = .ok (.invokevirtual 83, 3) := by decide +kernel
theorem dL_refund_7 : decode cL_refund 7 = .ok (.i2l, 1) := by decide +kernel
theorem dL_refund_8 : decode cL_refund 8 = .ok (.lastore, 1) := by decide +kernel
theorem dL_refund_9 : decode cL_refund 9 = .ok (.goto 6, 3) := by decide +kernel
theorem dL_refund_12 : decode cL_refund 12 = .ok (.astore_n 3, 1) := by decide +kernel
theorem dL_refund_13 : decode cL_refund 13 = .ok (.iconst 1, 1) := by decide +kernel
theorem dL_refund_14 : decode cL_refund 14 = .ok (.ireturn, 1) := by decide +kernel
theorem dL_refund_15 : decode cL_refund 15 = .ok (.iconst 0, 1) := by decide +kernel
theorem dL_refund_16 : decode cL_refund 16 = .ok (.ireturn, 1) := by decide +kernel
theorem dL_law_0 : decode cL_law 0 = .ok (.new 8, 3) := by decide +kernel
theorem dL_law_3 : decode cL_law 3 = .ok (.dup, 1) := by decide +kernel
theorem dL_law_4 : decode cL_law 4 = .ok (.invokespecial 86, 3) := by decide +kernel
theorem dL_law_7 : decode cL_law 7 = .ok (.astore_n 1, 1) := by decide +kernel
theorem dL_law_8 : decode cL_law 8 = .ok (.new 87, 3) := by decide +kernel
theorem dL_law_11 : decode cL_law 11 = .ok (.dup, 1) := by decide +kernel
theorem dL_law_12 : decode cL_law 12 = .ok (.invokespecial 89, 3) := by decide +kernel
theorem dL_law_15 : decode cL_law 15 = .ok (.astore_n 2, 1) := by decide +kernel
theorem dL_law_16 : decode cL_law 16 = .ok (.iconst 1, 1) := by decide +kernel
theorem dL_law_17 : decode cL_law 17 = .ok (.newarray .long, 2) := by decide +kernel
theorem dL_law_19 : decode cL_law 19 = .ok (.astore_n 3, 1) := by decide +kernel
theorem dL_law_20 : decode cL_law 20 = .ok (.iconst 0, 1) := by decide +kernel
theorem dL_law_21 : decode cL_law 21 = .ok (.istore 4, 2) := by decide +kernel
theorem dL_law_23 : decode cL_law 23 = .ok (.iload 4, 2) := by decide +kernel
theorem dL_law_25 : decode cL_law 25 = .ok (.aload_n 0, 1) := by decide +kernel
theorem dL_law_26 : decode cL_law 26 = .ok (.arraylength, 1) := by decide +kernel
theorem dL_law_27 : decode cL_law 27 = .ok (.iconst 5, 1) := by decide +kernel
theorem dL_law_28 : decode cL_law 28 = .ok (.isub, 1) := by decide +kernel
theorem dL_law_29 : decode cL_law 29 = .ok (.if_icmp .gt 1545, 3) := by decide +kernel
theorem dL_law_32 : decode cL_law 32 = .ok (.aload_n 0, 1) := by decide +kernel
theorem dL_law_33 : decode cL_law 33 = .ok (.iload 4, 2) := by decide +kernel
theorem dL_law_35 : decode cL_law 35 = .ok (.iaload, 1) := by decide +kernel
theorem dL_law_36 : decode cL_law 36 = .ok (.bipush 31, 2) := by decide +kernel
theorem dL_law_38 : decode cL_law 38 = .ok (.iand, 1) := by decide +kernel
theorem dL_law_39 : decode cL_law 39 = .ok (.tableswitch 1529 0 22 #[105, 161, 229, 325, 393, 461, 529, 585, 665, 740, 827, 883, 939, 995, 1063, 1131, 1187, 1279, 1323, 1336, 1392, 1460, 1516], 105) := by decide +kernel
theorem dL_law_144 : decode cL_law 144 = .ok (.aload_n 1, 1) := by decide +kernel
theorem dL_law_145 : decode cL_law 145 = .ok (.aload_n 0, 1) := by decide +kernel
theorem dL_law_146 : decode cL_law 146 = .ok (.iload 4, 2) := by decide +kernel
theorem dL_law_148 : decode cL_law 148 = .ok (.iconst 1, 1) := by decide +kernel
theorem dL_law_149 : decode cL_law 149 = .ok (.iadd, 1) := by decide +kernel
theorem dL_law_150 : decode cL_law 150 = .ok (.iaload, 1) := by decide +kernel
theorem dL_law_151 : decode cL_law 151 = .ok (.aload_n 3, 1) := by decide +kernel
theorem dL_law_152 : decode cL_law 152 = .ok (.invokestatic 90, 3) := by decide +kernel
theorem dL_law_155 : decode cL_law 155 = .ok (.istore 5, 2) := by decide +kernel
theorem dL_law_157 : decode cL_law 157 = .ok (.aload_n 2, 1) := by decide +kernel
theorem dL_law_158 : decode cL_law 158 = .ok (.aload_n 0, 1) := by decide +kernel
theorem dL_law_159 : decode cL_law 159 = .ok (.iload 4, 2) := by decide +kernel
theorem dL_law_161 : decode cL_law 161 = .ok (.iconst 1, 1) := by decide +kernel
theorem dL_law_162 : decode cL_law 162 = .ok (.iadd, 1) := by decide +kernel
theorem dL_law_163 : decode cL_law 163 = .ok (.iaload, 1) := by decide +kernel
theorem dL_law_164 : decode cL_law 164 = .ok (.invokevirtual 95, 3) := by decide +kernel
theorem dL_law_167 : decode cL_law 167 = .ok (.istore 6, 2) := by decide +kernel
theorem dL_law_169 : decode cL_law 169 = .ok (.aload_n 2, 1) := by decide +kernel
theorem dL_law_170 : decode cL_law 170 = .ok (.invokevirtual 96, 3) := by decide +kernel
theorem dL_law_173 : decode cL_law 173 = .ok (.iload 5, 2) := by decide +kernel
theorem dL_law_175 : decode cL_law 175 = .ok (.if_icmp .eq 5, 3) := by decide +kernel
theorem dL_law_178 : decode cL_law 178 = .ok (.iconst 0, 1) := by decide +kernel
theorem dL_law_179 : decode cL_law 179 = .ok (.ireturn, 1) := by decide +kernel
theorem dL_law_180 : decode cL_law 180 = .ok (.iload 5, 2) := by decide +kernel
theorem dL_law_182 : decode cL_law 182 = .ok (.ifCond .ne 15, 3) := by decide +kernel
theorem dL_law_185 : decode cL_law 185 = .ok (.aload_n 3, 1) := by decide +kernel
theorem dL_law_186 : decode cL_law 186 = .ok (.iconst 0, 1) := by decide +kernel
theorem dL_law_187 : decode cL_law 187 = .ok (.laload, 1) := by decide +kernel
theorem dL_law_188 : decode cL_law 188 = .ok (.iload 6, 2) := by decide +kernel
theorem dL_law_190 : decode cL_law 190 = .ok (.i2l, 1) := by decide +kernel
theorem dL_law_191 : decode cL_law 191 = .ok (.lcmp, 1) := by decide +kernel
theorem dL_law_192 : decode cL_law 192 = .ok (.ifCond .eq 5, 3) := by decide +kernel
theorem dL_law_195 : decode cL_law 195 = .ok (.iconst 0, 1) := by decide +kernel
theorem dL_law_196 : decode cL_law 196 = .ok (.ireturn, 1) := by decide +kernel
theorem dL_law_197 : decode cL_law 197 = .ok (.goto 1371, 3) := by decide +kernel
theorem dL_law_200 : decode cL_law 200 = .ok (.aload_n 1, 1) := by decide +kernel
theorem dL_law_201 : decode cL_law 201 = .ok (.aload_n 0, 1) := by decide +kernel
theorem dL_law_202 : decode cL_law 202 = .ok (.iload 4, 2) := by decide +kernel
theorem dL_law_204 : decode cL_law 204 = .ok (.iconst 1, 1) := by decide +kernel
theorem dL_law_205 : decode cL_law 205 = .ok (.iadd, 1) := by decide +kernel
theorem dL_law_206 : decode cL_law 206 = .ok (.iaload, 1) := by decide +kernel
theorem dL_law_207 : decode cL_law 207 = .ok (.aload_n 0, 1) := by decide +kernel
theorem dL_law_208 : decode cL_law 208 = .ok (.iload 4, 2) := by decide +kernel
theorem dL_law_210 : decode cL_law 210 = .ok (.iconst 2, 1) := by decide +kernel
theorem dL_law_211 : decode cL_law 211 = .ok (.iadd, 1) := by decide +kernel
theorem dL_law_212 : decode cL_law 212 = .ok (.iaload, 1) := by decide +kernel
theorem dL_law_213 : decode cL_law 213 = .ok (.aload_n 3, 1) := by decide +kernel
theorem dL_law_214 : decode cL_law 214 = .ok (.invokestatic 99, 3) := by decide +kernel
theorem dL_law_217 : decode cL_law 217 = .ok (.istore 5, 2) := by decide +kernel
theorem dL_law_219 : decode cL_law 219 = .ok (.aload_n 2, 1) := by decide +kernel
theorem dL_law_220 : decode cL_law 220 = .ok (.aload_n 0, 1) := by decide +kernel
theorem dL_law_221 : decode cL_law 221 = .ok (.iload 4, 2) := by decide +kernel
theorem dL_law_223 : decode cL_law 223 = .ok (.iconst 1, 1) := by decide +kernel
theorem dL_law_224 : decode cL_law 224 = .ok (.iadd, 1) := by decide +kernel
theorem dL_law_225 : decode cL_law 225 = .ok (.iaload, 1) := by decide +kernel
theorem dL_law_226 : decode cL_law 226 = .ok (.aload_n 0, 1) := by decide +kernel
theorem dL_law_227 : decode cL_law 227 = .ok (.iload 4, 2) := by decide +kernel
theorem dL_law_229 : decode cL_law 229 = .ok (.iconst 2, 1) := by decide +kernel
theorem dL_law_230 : decode cL_law 230 = .ok (.iadd, 1) := by decide +kernel
theorem dL_law_231 : decode cL_law 231 = .ok (.iaload, 1) := by decide +kernel
theorem dL_law_232 : decode cL_law 232 = .ok (.invokevirtual 102, 3) := by decide +kernel
theorem dL_law_235 : decode cL_law 235 = .ok (.istore 6, 2) := by decide +kernel
theorem dL_law_237 : decode cL_law 237 = .ok (.aload_n 2, 1) := by decide +kernel
theorem dL_law_238 : decode cL_law 238 = .ok (.invokevirtual 96, 3) := by decide +kernel
theorem dL_law_241 : decode cL_law 241 = .ok (.iload 5, 2) := by decide +kernel
theorem dL_law_243 : decode cL_law 243 = .ok (.if_icmp .eq 5, 3) := by decide +kernel
theorem dL_law_246 : decode cL_law 246 = .ok (.iconst 0, 1) := by decide +kernel
theorem dL_law_247 : decode cL_law 247 = .ok (.ireturn, 1) := by decide +kernel
theorem dL_law_248 : decode cL_law 248 = .ok (.iload 5, 2) := by decide +kernel
theorem dL_law_250 : decode cL_law 250 = .ok (.ifCond .ne 15, 3) := by decide +kernel
theorem dL_law_253 : decode cL_law 253 = .ok (.aload_n 3, 1) := by decide +kernel
theorem dL_law_254 : decode cL_law 254 = .ok (.iconst 0, 1) := by decide +kernel
theorem dL_law_255 : decode cL_law 255 = .ok (.laload, 1) := by decide +kernel
theorem dL_law_256 : decode cL_law 256 = .ok (.iload 6, 2) := by decide +kernel
theorem dL_law_258 : decode cL_law 258 = .ok (.i2l, 1) := by decide +kernel
theorem dL_law_259 : decode cL_law 259 = .ok (.lcmp, 1) := by decide +kernel
theorem dL_law_260 : decode cL_law 260 = .ok (.ifCond .eq 5, 3) := by decide +kernel
theorem dL_law_263 : decode cL_law 263 = .ok (.iconst 0, 1) := by decide +kernel
theorem dL_law_264 : decode cL_law 264 = .ok (.ireturn, 1) := by decide +kernel
theorem dL_law_265 : decode cL_law 265 = .ok (.goto 1303, 3) := by decide +kernel
theorem dL_law_268 : decode cL_law 268 = .ok (.aload_n 1, 1) := by decide +kernel
theorem dL_law_269 : decode cL_law 269 = .ok (.aload_n 0, 1) := by decide +kernel
theorem dL_law_270 : decode cL_law 270 = .ok (.iload 4, 2) := by decide +kernel
theorem dL_law_272 : decode cL_law 272 = .ok (.iconst 1, 1) := by decide +kernel
theorem dL_law_273 : decode cL_law 273 = .ok (.iadd, 1) := by decide +kernel
theorem dL_law_274 : decode cL_law 274 = .ok (.iaload, 1) := by decide +kernel
theorem dL_law_275 : decode cL_law 275 = .ok (.aload_n 0, 1) := by decide +kernel
theorem dL_law_276 : decode cL_law 276 = .ok (.iload 4, 2) := by decide +kernel
theorem dL_law_278 : decode cL_law 278 = .ok (.iconst 2, 1) := by decide +kernel
theorem dL_law_279 : decode cL_law 279 = .ok (.iadd, 1) := by decide +kernel
theorem dL_law_280 : decode cL_law 280 = .ok (.iaload, 1) := by decide +kernel
theorem dL_law_281 : decode cL_law 281 = .ok (.aload_n 0, 1) := by decide +kernel
theorem dL_law_282 : decode cL_law 282 = .ok (.iload 4, 2) := by decide +kernel
theorem dL_law_284 : decode cL_law 284 = .ok (.iconst 3, 1) := by decide +kernel
theorem dL_law_285 : decode cL_law 285 = .ok (.iadd, 1) := by decide +kernel
theorem dL_law_286 : decode cL_law 286 = .ok (.iaload, 1) := by decide +kernel
theorem dL_law_287 : decode cL_law 287 = .ok (.ifCond .eq 7, 3) := by decide +kernel
theorem dL_law_290 : decode cL_law 290 = .ok (.iconst 1, 1) := by decide +kernel
theorem dL_law_291 : decode cL_law 291 = .ok (.goto 4, 3) := by decide +kernel
theorem dL_law_294 : decode cL_law 294 = .ok (.iconst 0, 1) := by decide +kernel
theorem dL_law_295 : decode cL_law 295 = .ok (.aload_n 3, 1) := by decide +kernel
theorem dL_law_296 : decode cL_law 296 = .ok (.invokestatic 103, 3) := by decide +kernel
theorem dL_law_299 : decode cL_law 299 = .ok (.istore 5, 2) := by decide +kernel
theorem dL_law_301 : decode cL_law 301 = .ok (.aload_n 2, 1) := by decide +kernel
theorem dL_law_302 : decode cL_law 302 = .ok (.aload_n 0, 1) := by decide +kernel
theorem dL_law_303 : decode cL_law 303 = .ok (.iload 4, 2) := by decide +kernel
theorem dL_law_305 : decode cL_law 305 = .ok (.iconst 1, 1) := by decide +kernel
theorem dL_law_306 : decode cL_law 306 = .ok (.iadd, 1) := by decide +kernel
theorem dL_law_307 : decode cL_law 307 = .ok (.iaload, 1) := by decide +kernel
theorem dL_law_308 : decode cL_law 308 = .ok (.aload_n 0, 1) := by decide +kernel
theorem dL_law_309 : decode cL_law 309 = .ok (.iload 4, 2) := by decide +kernel
theorem dL_law_311 : decode cL_law 311 = .ok (.iconst 2, 1) := by decide +kernel
theorem dL_law_312 : decode cL_law 312 = .ok (.iadd, 1) := by decide +kernel
theorem dL_law_313 : decode cL_law 313 = .ok (.iaload, 1) := by decide +kernel
theorem dL_law_314 : decode cL_law 314 = .ok (.aload_n 0, 1) := by decide +kernel
theorem dL_law_315 : decode cL_law 315 = .ok (.iload 4, 2) := by decide +kernel
theorem dL_law_317 : decode cL_law 317 = .ok (.iconst 3, 1) := by decide +kernel
theorem dL_law_318 : decode cL_law 318 = .ok (.iadd, 1) := by decide +kernel
theorem dL_law_319 : decode cL_law 319 = .ok (.iaload, 1) := by decide +kernel
theorem dL_law_320 : decode cL_law 320 = .ok (.ifCond .eq 7, 3) := by decide +kernel
theorem dL_law_323 : decode cL_law 323 = .ok (.iconst 1, 1) := by decide +kernel
theorem dL_law_324 : decode cL_law 324 = .ok (.goto 4, 3) := by decide +kernel
theorem dL_law_327 : decode cL_law 327 = .ok (.iconst 0, 1) := by decide +kernel
theorem dL_law_328 : decode cL_law 328 = .ok (.invokevirtual 106, 3) := by decide +kernel
theorem dL_law_331 : decode cL_law 331 = .ok (.istore 6, 2) := by decide +kernel
theorem dL_law_333 : decode cL_law 333 = .ok (.aload_n 2, 1) := by decide +kernel
theorem dL_law_334 : decode cL_law 334 = .ok (.invokevirtual 96, 3) := by decide +kernel
theorem dL_law_337 : decode cL_law 337 = .ok (.iload 5, 2) := by decide +kernel
theorem dL_law_339 : decode cL_law 339 = .ok (.if_icmp .eq 5, 3) := by decide +kernel
theorem dL_law_342 : decode cL_law 342 = .ok (.iconst 0, 1) := by decide +kernel
theorem dL_law_343 : decode cL_law 343 = .ok (.ireturn, 1) := by decide +kernel
theorem dL_law_344 : decode cL_law 344 = .ok (.iload 5, 2) := by decide +kernel
theorem dL_law_346 : decode cL_law 346 = .ok (.ifCond .ne 15, 3) := by decide +kernel
theorem dL_law_349 : decode cL_law 349 = .ok (.aload_n 3, 1) := by decide +kernel
theorem dL_law_350 : decode cL_law 350 = .ok (.iconst 0, 1) := by decide +kernel
theorem dL_law_351 : decode cL_law 351 = .ok (.laload, 1) := by decide +kernel
theorem dL_law_352 : decode cL_law 352 = .ok (.iload 6, 2) := by decide +kernel
theorem dL_law_354 : decode cL_law 354 = .ok (.i2l, 1) := by decide +kernel
theorem dL_law_355 : decode cL_law 355 = .ok (.lcmp, 1) := by decide +kernel
theorem dL_law_356 : decode cL_law 356 = .ok (.ifCond .eq 5, 3) := by decide +kernel
theorem dL_law_359 : decode cL_law 359 = .ok (.iconst 0, 1) := by decide +kernel
theorem dL_law_360 : decode cL_law 360 = .ok (.ireturn, 1) := by decide +kernel
theorem dL_law_361 : decode cL_law 361 = .ok (.goto 1207, 3) := by decide +kernel
theorem dL_law_364 : decode cL_law 364 = .ok (.aload_n 1, 1) := by decide +kernel
theorem dL_law_365 : decode cL_law 365 = .ok (.aload_n 0, 1) := by decide +kernel
theorem dL_law_366 : decode cL_law 366 = .ok (.iload 4, 2) := by decide +kernel
theorem dL_law_368 : decode cL_law 368 = .ok (.iconst 1, 1) := by decide +kernel
theorem dL_law_369 : decode cL_law 369 = .ok (.iadd, 1) := by decide +kernel
theorem dL_law_370 : decode cL_law 370 = .ok (.iaload, 1) := by decide +kernel
theorem dL_law_371 : decode cL_law 371 = .ok (.aload_n 0, 1) := by decide +kernel
theorem dL_law_372 : decode cL_law 372 = .ok (.iload 4, 2) := by decide +kernel
theorem dL_law_374 : decode cL_law 374 = .ok (.iconst 2, 1) := by decide +kernel
theorem dL_law_375 : decode cL_law 375 = .ok (.iadd, 1) := by decide +kernel
theorem dL_law_376 : decode cL_law 376 = .ok (.iaload, 1) := by decide +kernel
theorem dL_law_377 : decode cL_law 377 = .ok (.aload_n 3, 1) := by decide +kernel
theorem dL_law_378 : decode cL_law 378 = .ok (.invokestatic 107, 3) := by decide +kernel
theorem dL_law_381 : decode cL_law 381 = .ok (.istore 5, 2) := by decide +kernel
theorem dL_law_383 : decode cL_law 383 = .ok (.aload_n 2, 1) := by decide +kernel
theorem dL_law_384 : decode cL_law 384 = .ok (.aload_n 0, 1) := by decide +kernel
theorem dL_law_385 : decode cL_law 385 = .ok (.iload 4, 2) := by decide +kernel
theorem dL_law_387 : decode cL_law 387 = .ok (.iconst 1, 1) := by decide +kernel
theorem dL_law_388 : decode cL_law 388 = .ok (.iadd, 1) := by decide +kernel
theorem dL_law_389 : decode cL_law 389 = .ok (.iaload, 1) := by decide +kernel
theorem dL_law_390 : decode cL_law 390 = .ok (.aload_n 0, 1) := by decide +kernel
theorem dL_law_391 : decode cL_law 391 = .ok (.iload 4, 2) := by decide +kernel
theorem dL_law_393 : decode cL_law 393 = .ok (.iconst 2, 1) := by decide +kernel
theorem dL_law_394 : decode cL_law 394 = .ok (.iadd, 1) := by decide +kernel
theorem dL_law_395 : decode cL_law 395 = .ok (.iaload, 1) := by decide +kernel
theorem dL_law_396 : decode cL_law 396 = .ok (.invokevirtual 109, 3) := by decide +kernel
theorem dL_law_399 : decode cL_law 399 = .ok (.istore 6, 2) := by decide +kernel
theorem dL_law_401 : decode cL_law 401 = .ok (.aload_n 2, 1) := by decide +kernel
theorem dL_law_402 : decode cL_law 402 = .ok (.invokevirtual 96, 3) := by decide +kernel
theorem dL_law_405 : decode cL_law 405 = .ok (.iload 5, 2) := by decide +kernel
theorem dL_law_407 : decode cL_law 407 = .ok (.if_icmp .eq 5, 3) := by decide +kernel
theorem dL_law_410 : decode cL_law 410 = .ok (.iconst 0, 1) := by decide +kernel
theorem dL_law_411 : decode cL_law 411 = .ok (.ireturn, 1) := by decide +kernel
theorem dL_law_412 : decode cL_law 412 = .ok (.iload 5, 2) := by decide +kernel
theorem dL_law_414 : decode cL_law 414 = .ok (.ifCond .ne 15, 3) := by decide +kernel
theorem dL_law_417 : decode cL_law 417 = .ok (.aload_n 3, 1) := by decide +kernel
theorem dL_law_418 : decode cL_law 418 = .ok (.iconst 0, 1) := by decide +kernel
theorem dL_law_419 : decode cL_law 419 = .ok (.laload, 1) := by decide +kernel
theorem dL_law_420 : decode cL_law 420 = .ok (.iload 6, 2) := by decide +kernel
theorem dL_law_422 : decode cL_law 422 = .ok (.i2l, 1) := by decide +kernel
theorem dL_law_423 : decode cL_law 423 = .ok (.lcmp, 1) := by decide +kernel
theorem dL_law_424 : decode cL_law 424 = .ok (.ifCond .eq 5, 3) := by decide +kernel
theorem dL_law_427 : decode cL_law 427 = .ok (.iconst 0, 1) := by decide +kernel
theorem dL_law_428 : decode cL_law 428 = .ok (.ireturn, 1) := by decide +kernel
theorem dL_law_429 : decode cL_law 429 = .ok (.goto 1139, 3) := by decide +kernel
theorem dL_law_432 : decode cL_law 432 = .ok (.aload_n 1, 1) := by decide +kernel
theorem dL_law_433 : decode cL_law 433 = .ok (.aload_n 0, 1) := by decide +kernel
theorem dL_law_434 : decode cL_law 434 = .ok (.iload 4, 2) := by decide +kernel
theorem dL_law_436 : decode cL_law 436 = .ok (.iconst 1, 1) := by decide +kernel
theorem dL_law_437 : decode cL_law 437 = .ok (.iadd, 1) := by decide +kernel
theorem dL_law_438 : decode cL_law 438 = .ok (.iaload, 1) := by decide +kernel
theorem dL_law_439 : decode cL_law 439 = .ok (.aload_n 0, 1) := by decide +kernel
theorem dL_law_440 : decode cL_law 440 = .ok (.iload 4, 2) := by decide +kernel
theorem dL_law_442 : decode cL_law 442 = .ok (.iconst 2, 1) := by decide +kernel
theorem dL_law_443 : decode cL_law 443 = .ok (.iadd, 1) := by decide +kernel
theorem dL_law_444 : decode cL_law 444 = .ok (.iaload, 1) := by decide +kernel
theorem dL_law_445 : decode cL_law 445 = .ok (.aload_n 3, 1) := by decide +kernel
theorem dL_law_446 : decode cL_law 446 = .ok (.invokestatic 110, 3) := by decide +kernel
theorem dL_law_449 : decode cL_law 449 = .ok (.istore 5, 2) := by decide +kernel
theorem dL_law_451 : decode cL_law 451 = .ok (.aload_n 2, 1) := by decide +kernel
theorem dL_law_452 : decode cL_law 452 = .ok (.aload_n 0, 1) := by decide +kernel
theorem dL_law_453 : decode cL_law 453 = .ok (.iload 4, 2) := by decide +kernel
theorem dL_law_455 : decode cL_law 455 = .ok (.iconst 1, 1) := by decide +kernel
theorem dL_law_456 : decode cL_law 456 = .ok (.iadd, 1) := by decide +kernel
theorem dL_law_457 : decode cL_law 457 = .ok (.iaload, 1) := by decide +kernel
theorem dL_law_458 : decode cL_law 458 = .ok (.aload_n 0, 1) := by decide +kernel
theorem dL_law_459 : decode cL_law 459 = .ok (.iload 4, 2) := by decide +kernel
theorem dL_law_461 : decode cL_law 461 = .ok (.iconst 2, 1) := by decide +kernel
theorem dL_law_462 : decode cL_law 462 = .ok (.iadd, 1) := by decide +kernel
theorem dL_law_463 : decode cL_law 463 = .ok (.iaload, 1) := by decide +kernel
theorem dL_law_464 : decode cL_law 464 = .ok (.invokevirtual 112, 3) := by decide +kernel
theorem dL_law_467 : decode cL_law 467 = .ok (.istore 6, 2) := by decide +kernel
theorem dL_law_469 : decode cL_law 469 = .ok (.aload_n 2, 1) := by decide +kernel
theorem dL_law_470 : decode cL_law 470 = .ok (.invokevirtual 96, 3) := by decide +kernel
theorem dL_law_473 : decode cL_law 473 = .ok (.iload 5, 2) := by decide +kernel
theorem dL_law_475 : decode cL_law 475 = .ok (.if_icmp .eq 5, 3) := by decide +kernel
theorem dL_law_478 : decode cL_law 478 = .ok (.iconst 0, 1) := by decide +kernel
theorem dL_law_479 : decode cL_law 479 = .ok (.ireturn, 1) := by decide +kernel
theorem dL_law_480 : decode cL_law 480 = .ok (.iload 5, 2) := by decide +kernel
theorem dL_law_482 : decode cL_law 482 = .ok (.ifCond .ne 15, 3) := by decide +kernel
theorem dL_law_485 : decode cL_law 485 = .ok (.aload_n 3, 1) := by decide +kernel
theorem dL_law_486 : decode cL_law 486 = .ok (.iconst 0, 1) := by decide +kernel
theorem dL_law_487 : decode cL_law 487 = .ok (.laload, 1) := by decide +kernel
theorem dL_law_488 : decode cL_law 488 = .ok (.iload 6, 2) := by decide +kernel
theorem dL_law_490 : decode cL_law 490 = .ok (.i2l, 1) := by decide +kernel
theorem dL_law_491 : decode cL_law 491 = .ok (.lcmp, 1) := by decide +kernel
theorem dL_law_492 : decode cL_law 492 = .ok (.ifCond .eq 5, 3) := by decide +kernel
theorem dL_law_495 : decode cL_law 495 = .ok (.iconst 0, 1) := by decide +kernel
theorem dL_law_496 : decode cL_law 496 = .ok (.ireturn, 1) := by decide +kernel
theorem dL_law_497 : decode cL_law 497 = .ok (.goto 1071, 3) := by decide +kernel
theorem dL_law_500 : decode cL_law 500 = .ok (.aload_n 1, 1) := by decide +kernel
theorem dL_law_501 : decode cL_law 501 = .ok (.aload_n 0, 1) := by decide +kernel
theorem dL_law_502 : decode cL_law 502 = .ok (.iload 4, 2) := by decide +kernel
theorem dL_law_504 : decode cL_law 504 = .ok (.iconst 1, 1) := by decide +kernel
theorem dL_law_505 : decode cL_law 505 = .ok (.iadd, 1) := by decide +kernel
theorem dL_law_506 : decode cL_law 506 = .ok (.iaload, 1) := by decide +kernel
theorem dL_law_507 : decode cL_law 507 = .ok (.aload_n 0, 1) := by decide +kernel
theorem dL_law_508 : decode cL_law 508 = .ok (.iload 4, 2) := by decide +kernel
theorem dL_law_510 : decode cL_law 510 = .ok (.iconst 2, 1) := by decide +kernel
theorem dL_law_511 : decode cL_law 511 = .ok (.iadd, 1) := by decide +kernel
theorem dL_law_512 : decode cL_law 512 = .ok (.iaload, 1) := by decide +kernel
theorem dL_law_513 : decode cL_law 513 = .ok (.aload_n 3, 1) := by decide +kernel
theorem dL_law_514 : decode cL_law 514 = .ok (.invokestatic 113, 3) := by decide +kernel
theorem dL_law_517 : decode cL_law 517 = .ok (.istore 5, 2) := by decide +kernel
theorem dL_law_519 : decode cL_law 519 = .ok (.aload_n 2, 1) := by decide +kernel
theorem dL_law_520 : decode cL_law 520 = .ok (.aload_n 0, 1) := by decide +kernel
theorem dL_law_521 : decode cL_law 521 = .ok (.iload 4, 2) := by decide +kernel
theorem dL_law_523 : decode cL_law 523 = .ok (.iconst 1, 1) := by decide +kernel
theorem dL_law_524 : decode cL_law 524 = .ok (.iadd, 1) := by decide +kernel
theorem dL_law_525 : decode cL_law 525 = .ok (.iaload, 1) := by decide +kernel
theorem dL_law_526 : decode cL_law 526 = .ok (.aload_n 0, 1) := by decide +kernel
theorem dL_law_527 : decode cL_law 527 = .ok (.iload 4, 2) := by decide +kernel
theorem dL_law_529 : decode cL_law 529 = .ok (.iconst 2, 1) := by decide +kernel
theorem dL_law_530 : decode cL_law 530 = .ok (.iadd, 1) := by decide +kernel
theorem dL_law_531 : decode cL_law 531 = .ok (.iaload, 1) := by decide +kernel
theorem dL_law_532 : decode cL_law 532 = .ok (.invokevirtual 115, 3) := by decide +kernel
theorem dL_law_535 : decode cL_law 535 = .ok (.istore 6, 2) := by decide +kernel
theorem dL_law_537 : decode cL_law 537 = .ok (.aload_n 2, 1) := by decide +kernel
theorem dL_law_538 : decode cL_law 538 = .ok (.invokevirtual 96, 3) := by decide +kernel
theorem dL_law_541 : decode cL_law 541 = .ok (.iload 5, 2) := by decide +kernel
theorem dL_law_543 : decode cL_law 543 = .ok (.if_icmp .eq 5, 3) := by decide +kernel
theorem dL_law_546 : decode cL_law 546 = .ok (.iconst 0, 1) := by decide +kernel
theorem dL_law_547 : decode cL_law 547 = .ok (.ireturn, 1) := by decide +kernel
theorem dL_law_548 : decode cL_law 548 = .ok (.iload 5, 2) := by decide +kernel
theorem dL_law_550 : decode cL_law 550 = .ok (.ifCond .ne 15, 3) := by decide +kernel
theorem dL_law_553 : decode cL_law 553 = .ok (.aload_n 3, 1) := by decide +kernel
theorem dL_law_554 : decode cL_law 554 = .ok (.iconst 0, 1) := by decide +kernel
theorem dL_law_555 : decode cL_law 555 = .ok (.laload, 1) := by decide +kernel
theorem dL_law_556 : decode cL_law 556 = .ok (.iload 6, 2) := by decide +kernel
theorem dL_law_558 : decode cL_law 558 = .ok (.i2l, 1) := by decide +kernel
theorem dL_law_559 : decode cL_law 559 = .ok (.lcmp, 1) := by decide +kernel
theorem dL_law_560 : decode cL_law 560 = .ok (.ifCond .eq 5, 3) := by decide +kernel
theorem dL_law_563 : decode cL_law 563 = .ok (.iconst 0, 1) := by decide +kernel
theorem dL_law_564 : decode cL_law 564 = .ok (.ireturn, 1) := by decide +kernel
theorem dL_law_565 : decode cL_law 565 = .ok (.goto 1003, 3) := by decide +kernel
theorem dL_law_568 : decode cL_law 568 = .ok (.aload_n 1, 1) := by decide +kernel
theorem dL_law_569 : decode cL_law 569 = .ok (.aload_n 0, 1) := by decide +kernel
theorem dL_law_570 : decode cL_law 570 = .ok (.iload 4, 2) := by decide +kernel
theorem dL_law_572 : decode cL_law 572 = .ok (.iconst 1, 1) := by decide +kernel
theorem dL_law_573 : decode cL_law 573 = .ok (.iadd, 1) := by decide +kernel
theorem dL_law_574 : decode cL_law 574 = .ok (.iaload, 1) := by decide +kernel
theorem dL_law_575 : decode cL_law 575 = .ok (.aload_n 3, 1) := by decide +kernel
theorem dL_law_576 : decode cL_law 576 = .ok (.invokestatic 116, 3) := by decide +kernel
theorem dL_law_579 : decode cL_law 579 = .ok (.istore 5, 2) := by decide +kernel
theorem dL_law_581 : decode cL_law 581 = .ok (.aload_n 2, 1) := by decide +kernel
theorem dL_law_582 : decode cL_law 582 = .ok (.aload_n 0, 1) := by decide +kernel
theorem dL_law_583 : decode cL_law 583 = .ok (.iload 4, 2) := by decide +kernel
theorem dL_law_585 : decode cL_law 585 = .ok (.iconst 1, 1) := by decide +kernel
theorem dL_law_586 : decode cL_law 586 = .ok (.iadd, 1) := by decide +kernel
theorem dL_law_587 : decode cL_law 587 = .ok (.iaload, 1) := by decide +kernel
theorem dL_law_588 : decode cL_law 588 = .ok (.invokevirtual 118, 3) := by decide +kernel
theorem dL_law_591 : decode cL_law 591 = .ok (.istore 6, 2) := by decide +kernel
theorem dL_law_593 : decode cL_law 593 = .ok (.aload_n 2, 1) := by decide +kernel
theorem dL_law_594 : decode cL_law 594 = .ok (.invokevirtual 96, 3) := by decide +kernel
theorem dL_law_597 : decode cL_law 597 = .ok (.iload 5, 2) := by decide +kernel
theorem dL_law_599 : decode cL_law 599 = .ok (.if_icmp .eq 5, 3) := by decide +kernel
theorem dL_law_602 : decode cL_law 602 = .ok (.iconst 0, 1) := by decide +kernel
theorem dL_law_603 : decode cL_law 603 = .ok (.ireturn, 1) := by decide +kernel
theorem dL_law_604 : decode cL_law 604 = .ok (.iload 5, 2) := by decide +kernel
theorem dL_law_606 : decode cL_law 606 = .ok (.ifCond .ne 15, 3) := by decide +kernel
theorem dL_law_609 : decode cL_law 609 = .ok (.aload_n 3, 1) := by decide +kernel
theorem dL_law_610 : decode cL_law 610 = .ok (.iconst 0, 1) := by decide +kernel
theorem dL_law_611 : decode cL_law 611 = .ok (.laload, 1) := by decide +kernel
theorem dL_law_612 : decode cL_law 612 = .ok (.iload 6, 2) := by decide +kernel
theorem dL_law_614 : decode cL_law 614 = .ok (.i2l, 1) := by decide +kernel
theorem dL_law_615 : decode cL_law 615 = .ok (.lcmp, 1) := by decide +kernel
theorem dL_law_616 : decode cL_law 616 = .ok (.ifCond .eq 5, 3) := by decide +kernel
theorem dL_law_619 : decode cL_law 619 = .ok (.iconst 0, 1) := by decide +kernel
theorem dL_law_620 : decode cL_law 620 = .ok (.ireturn, 1) := by decide +kernel
theorem dL_law_621 : decode cL_law 621 = .ok (.goto 947, 3) := by decide +kernel
theorem dL_law_624 : decode cL_law 624 = .ok (.aload_n 1, 1) := by decide +kernel
theorem dL_law_625 : decode cL_law 625 = .ok (.aload_n 0, 1) := by decide +kernel
theorem dL_law_626 : decode cL_law 626 = .ok (.iload 4, 2) := by decide +kernel
theorem dL_law_628 : decode cL_law 628 = .ok (.iconst 1, 1) := by decide +kernel
theorem dL_law_629 : decode cL_law 629 = .ok (.iadd, 1) := by decide +kernel
theorem dL_law_630 : decode cL_law 630 = .ok (.iaload, 1) := by decide +kernel
theorem dL_law_631 : decode cL_law 631 = .ok (.aload_n 0, 1) := by decide +kernel
theorem dL_law_632 : decode cL_law 632 = .ok (.iload 4, 2) := by decide +kernel
theorem dL_law_634 : decode cL_law 634 = .ok (.iconst 2, 1) := by decide +kernel
theorem dL_law_635 : decode cL_law 635 = .ok (.iadd, 1) := by decide +kernel
theorem dL_law_636 : decode cL_law 636 = .ok (.iaload, 1) := by decide +kernel
theorem dL_law_637 : decode cL_law 637 = .ok (.aload_n 0, 1) := by decide +kernel
theorem dL_law_638 : decode cL_law 638 = .ok (.iload 4, 2) := by decide +kernel
theorem dL_law_640 : decode cL_law 640 = .ok (.iconst 3, 1) := by decide +kernel
theorem dL_law_641 : decode cL_law 641 = .ok (.iadd, 1) := by decide +kernel
theorem dL_law_642 : decode cL_law 642 = .ok (.iaload, 1) := by decide +kernel
theorem dL_law_643 : decode cL_law 643 = .ok (.aload_n 3, 1) := by decide +kernel
theorem dL_law_644 : decode cL_law 644 = .ok (.invokestatic 119, 3) := by decide +kernel
theorem dL_law_647 : decode cL_law 647 = .ok (.istore 5, 2) := by decide +kernel
theorem dL_law_649 : decode cL_law 649 = .ok (.aload_n 2, 1) := by decide +kernel
theorem dL_law_650 : decode cL_law 650 = .ok (.aload_n 0, 1) := by decide +kernel
theorem dL_law_651 : decode cL_law 651 = .ok (.iload 4, 2) := by decide +kernel
theorem dL_law_653 : decode cL_law 653 = .ok (.iconst 1, 1) := by decide +kernel
theorem dL_law_654 : decode cL_law 654 = .ok (.iadd, 1) := by decide +kernel
theorem dL_law_655 : decode cL_law 655 = .ok (.iaload, 1) := by decide +kernel
theorem dL_law_656 : decode cL_law 656 = .ok (.aload_n 0, 1) := by decide +kernel
theorem dL_law_657 : decode cL_law 657 = .ok (.iload 4, 2) := by decide +kernel
theorem dL_law_659 : decode cL_law 659 = .ok (.iconst 2, 1) := by decide +kernel
theorem dL_law_660 : decode cL_law 660 = .ok (.iadd, 1) := by decide +kernel
theorem dL_law_661 : decode cL_law 661 = .ok (.iaload, 1) := by decide +kernel
theorem dL_law_662 : decode cL_law 662 = .ok (.aload_n 0, 1) := by decide +kernel
theorem dL_law_663 : decode cL_law 663 = .ok (.iload 4, 2) := by decide +kernel
theorem dL_law_665 : decode cL_law 665 = .ok (.iconst 3, 1) := by decide +kernel
theorem dL_law_666 : decode cL_law 666 = .ok (.iadd, 1) := by decide +kernel
theorem dL_law_667 : decode cL_law 667 = .ok (.iaload, 1) := by decide +kernel
theorem dL_law_668 : decode cL_law 668 = .ok (.invokevirtual 122, 3) := by decide +kernel
theorem dL_law_671 : decode cL_law 671 = .ok (.istore 6, 2) := by decide +kernel
theorem dL_law_673 : decode cL_law 673 = .ok (.aload_n 2, 1) := by decide +kernel
theorem dL_law_674 : decode cL_law 674 = .ok (.invokevirtual 96, 3) := by decide +kernel
theorem dL_law_677 : decode cL_law 677 = .ok (.iload 5, 2) := by decide +kernel
theorem dL_law_679 : decode cL_law 679 = .ok (.if_icmp .eq 5, 3) := by decide +kernel
theorem dL_law_682 : decode cL_law 682 = .ok (.iconst 0, 1) := by decide +kernel
theorem dL_law_683 : decode cL_law 683 = .ok (.ireturn, 1) := by decide +kernel
theorem dL_law_684 : decode cL_law 684 = .ok (.iload 5, 2) := by decide +kernel
theorem dL_law_686 : decode cL_law 686 = .ok (.ifCond .ne 15, 3) := by decide +kernel
theorem dL_law_689 : decode cL_law 689 = .ok (.aload_n 3, 1) := by decide +kernel
theorem dL_law_690 : decode cL_law 690 = .ok (.iconst 0, 1) := by decide +kernel
theorem dL_law_691 : decode cL_law 691 = .ok (.laload, 1) := by decide +kernel
theorem dL_law_692 : decode cL_law 692 = .ok (.iload 6, 2) := by decide +kernel
theorem dL_law_694 : decode cL_law 694 = .ok (.i2l, 1) := by decide +kernel
theorem dL_law_695 : decode cL_law 695 = .ok (.lcmp, 1) := by decide +kernel
theorem dL_law_696 : decode cL_law 696 = .ok (.ifCond .eq 5, 3) := by decide +kernel
theorem dL_law_699 : decode cL_law 699 = .ok (.iconst 0, 1) := by decide +kernel
theorem dL_law_700 : decode cL_law 700 = .ok (.ireturn, 1) := by decide +kernel
theorem dL_law_701 : decode cL_law 701 = .ok (.goto 867, 3) := by decide +kernel
theorem dL_law_704 : decode cL_law 704 = .ok (.aload_n 1, 1) := by decide +kernel
theorem dL_law_705 : decode cL_law 705 = .ok (.aload_n 0, 1) := by decide +kernel
theorem dL_law_706 : decode cL_law 706 = .ok (.iload 4, 2) := by decide +kernel
theorem dL_law_708 : decode cL_law 708 = .ok (.iconst 1, 1) := by decide +kernel
theorem dL_law_709 : decode cL_law 709 = .ok (.iadd, 1) := by decide +kernel
theorem dL_law_710 : decode cL_law 710 = .ok (.iaload, 1) := by decide +kernel
theorem dL_law_711 : decode cL_law 711 = .ok (.aload_n 0, 1) := by decide +kernel
theorem dL_law_712 : decode cL_law 712 = .ok (.iload 4, 2) := by decide +kernel
theorem dL_law_714 : decode cL_law 714 = .ok (.iconst 2, 1) := by decide +kernel
theorem dL_law_715 : decode cL_law 715 = .ok (.iadd, 1) := by decide +kernel
theorem dL_law_716 : decode cL_law 716 = .ok (.iaload, 1) := by decide +kernel
theorem dL_law_717 : decode cL_law 717 = .ok (.aload_n 3, 1) := by decide +kernel
theorem dL_law_718 : decode cL_law 718 = .ok (.invokestatic 123, 3) := by decide +kernel
theorem dL_law_721 : decode cL_law 721 = .ok (.istore 5, 2) := by decide +kernel
theorem dL_law_723 : decode cL_law 723 = .ok (.aload_n 2, 1) := by decide +kernel
theorem dL_law_724 : decode cL_law 724 = .ok (.aload_n 0, 1) := by decide +kernel
theorem dL_law_725 : decode cL_law 725 = .ok (.iload 4, 2) := by decide +kernel
theorem dL_law_727 : decode cL_law 727 = .ok (.iconst 1, 1) := by decide +kernel
theorem dL_law_728 : decode cL_law 728 = .ok (.iadd, 1) := by decide +kernel
theorem dL_law_729 : decode cL_law 729 = .ok (.iaload, 1) := by decide +kernel
theorem dL_law_730 : decode cL_law 730 = .ok (.aload_n 0, 1) := by decide +kernel
theorem dL_law_731 : decode cL_law 731 = .ok (.iload 4, 2) := by decide +kernel
theorem dL_law_733 : decode cL_law 733 = .ok (.iconst 2, 1) := by decide +kernel
theorem dL_law_734 : decode cL_law 734 = .ok (.iadd, 1) := by decide +kernel
theorem dL_law_735 : decode cL_law 735 = .ok (.iaload, 1) := by decide +kernel
theorem dL_law_736 : decode cL_law 736 = .ok (.invokevirtual 125, 3) := by decide +kernel
theorem dL_law_739 : decode cL_law 739 = .ok (.istore 6, 2) := by decide +kernel
theorem dL_law_741 : decode cL_law 741 = .ok (.aload_n 2, 1) := by decide +kernel
theorem dL_law_742 : decode cL_law 742 = .ok (.invokevirtual 96, 3) := by decide +kernel
theorem dL_law_745 : decode cL_law 745 = .ok (.iload 5, 2) := by decide +kernel
theorem dL_law_747 : decode cL_law 747 = .ok (.if_icmp .eq 5, 3) := by decide +kernel
theorem dL_law_750 : decode cL_law 750 = .ok (.iconst 0, 1) := by decide +kernel
theorem dL_law_751 : decode cL_law 751 = .ok (.ireturn, 1) := by decide +kernel
theorem dL_law_752 : decode cL_law 752 = .ok (.iload 5, 2) := by decide +kernel
theorem dL_law_754 : decode cL_law 754 = .ok (.ifCond .ne 22, 3) := by decide +kernel
theorem dL_law_757 : decode cL_law 757 = .ok (.aload_n 3, 1) := by decide +kernel
theorem dL_law_758 : decode cL_law 758 = .ok (.iconst 0, 1) := by decide +kernel
theorem dL_law_759 : decode cL_law 759 = .ok (.laload, 1) := by decide +kernel
theorem dL_law_760 : decode cL_law 760 = .ok (.iload 6, 2) := by decide +kernel
theorem dL_law_762 : decode cL_law 762 = .ok (.ifCond .eq 7, 3) := by decide +kernel
theorem dL_law_765 : decode cL_law 765 = .ok (.lconst 1, 1) := by decide +kernel
theorem dL_law_766 : decode cL_law 766 = .ok (.goto 4, 3) := by decide +kernel
theorem dL_law_769 : decode cL_law 769 = .ok (.lconst 0, 1) := by decide +kernel
theorem dL_law_770 : decode cL_law 770 = .ok (.lcmp, 1) := by decide +kernel
theorem dL_law_771 : decode cL_law 771 = .ok (.ifCond .eq 5, 3) := by decide +kernel
theorem dL_law_774 : decode cL_law 774 = .ok (.iconst 0, 1) := by decide +kernel
theorem dL_law_775 : decode cL_law 775 = .ok (.ireturn, 1) := by decide +kernel
theorem dL_law_776 : decode cL_law 776 = .ok (.goto 792, 3) := by decide +kernel
theorem dL_law_779 : decode cL_law 779 = .ok (.aload_n 1, 1) := by decide +kernel
theorem dL_law_780 : decode cL_law 780 = .ok (.aload_n 0, 1) := by decide +kernel
theorem dL_law_781 : decode cL_law 781 = .ok (.iload 4, 2) := by decide +kernel
theorem dL_law_783 : decode cL_law 783 = .ok (.iconst 1, 1) := by decide +kernel
theorem dL_law_784 : decode cL_law 784 = .ok (.iadd, 1) := by decide +kernel
theorem dL_law_785 : decode cL_law 785 = .ok (.iaload, 1) := by decide +kernel
theorem dL_law_786 : decode cL_law 786 = .ok (.aload_n 0, 1) := by decide +kernel
theorem dL_law_787 : decode cL_law 787 = .ok (.iload 4, 2) := by decide +kernel
theorem dL_law_789 : decode cL_law 789 = .ok (.iconst 2, 1) := by decide +kernel
theorem dL_law_790 : decode cL_law 790 = .ok (.iadd, 1) := by decide +kernel
theorem dL_law_791 : decode cL_law 791 = .ok (.iaload, 1) := by decide +kernel
theorem dL_law_792 : decode cL_law 792 = .ok (.aload_n 0, 1) := by decide +kernel
theorem dL_law_793 : decode cL_law 793 = .ok (.iload 4, 2) := by decide +kernel
theorem dL_law_795 : decode cL_law 795 = .ok (.iconst 3, 1) := by decide +kernel
theorem dL_law_796 : decode cL_law 796 = .ok (.iadd, 1) := by decide +kernel
theorem dL_law_797 : decode cL_law 797 = .ok (.iaload, 1) := by decide +kernel
theorem dL_law_798 : decode cL_law 798 = .ok (.aload_n 3, 1) := by decide +kernel
theorem dL_law_799 : decode cL_law 799 = .ok (.invokestatic 126, 3) := by decide +kernel
theorem dL_law_802 : decode cL_law 802 = .ok (.istore 5, 2) := by decide +kernel
theorem dL_law_804 : decode cL_law 804 = .ok (.aload_n 2, 1) := by decide +kernel
theorem dL_law_805 : decode cL_law 805 = .ok (.aload_n 0, 1) := by decide +kernel
theorem dL_law_806 : decode cL_law 806 = .ok (.iload 4, 2) := by decide +kernel
theorem dL_law_808 : decode cL_law 808 = .ok (.iconst 1, 1) := by decide +kernel
theorem dL_law_809 : decode cL_law 809 = .ok (.iadd, 1) := by decide +kernel
theorem dL_law_810 : decode cL_law 810 = .ok (.iaload, 1) := by decide +kernel
theorem dL_law_811 : decode cL_law 811 = .ok (.aload_n 0, 1) := by decide +kernel
theorem dL_law_812 : decode cL_law 812 = .ok (.iload 4, 2) := by decide +kernel
theorem dL_law_814 : decode cL_law 814 = .ok (.iconst 2, 1) := by decide +kernel
theorem dL_law_815 : decode cL_law 815 = .ok (.iadd, 1) := by decide +kernel
theorem dL_law_816 : decode cL_law 816 = .ok (.iaload, 1) := by decide +kernel
theorem dL_law_817 : decode cL_law 817 = .ok (.aload_n 0, 1) := by decide +kernel
theorem dL_law_818 : decode cL_law 818 = .ok (.iload 4, 2) := by decide +kernel
theorem dL_law_820 : decode cL_law 820 = .ok (.iconst 3, 1) := by decide +kernel
theorem dL_law_821 : decode cL_law 821 = .ok (.iadd, 1) := by decide +kernel
theorem dL_law_822 : decode cL_law 822 = .ok (.iaload, 1) := by decide +kernel
theorem dL_law_823 : decode cL_law 823 = .ok (.invokevirtual 128, 3) := by decide +kernel
theorem dL_law_826 : decode cL_law 826 = .ok (.istore 6, 2) := by decide +kernel
theorem dL_law_828 : decode cL_law 828 = .ok (.aload_n 2, 1) := by decide +kernel
theorem dL_law_829 : decode cL_law 829 = .ok (.invokevirtual 96, 3) := by decide +kernel
theorem dL_law_832 : decode cL_law 832 = .ok (.iload 5, 2) := by decide +kernel
theorem dL_law_834 : decode cL_law 834 = .ok (.if_icmp .eq 5, 3) := by decide +kernel
theorem dL_law_837 : decode cL_law 837 = .ok (.iconst 0, 1) := by decide +kernel
theorem dL_law_838 : decode cL_law 838 = .ok (.ireturn, 1) := by decide +kernel
theorem dL_law_839 : decode cL_law 839 = .ok (.iload 5, 2) := by decide +kernel
theorem dL_law_841 : decode cL_law 841 = .ok (.ifCond .ne 22, 3) := by decide +kernel
theorem dL_law_844 : decode cL_law 844 = .ok (.aload_n 3, 1) := by decide +kernel
theorem dL_law_845 : decode cL_law 845 = .ok (.iconst 0, 1) := by decide +kernel
theorem dL_law_846 : decode cL_law 846 = .ok (.laload, 1) := by decide +kernel
theorem dL_law_847 : decode cL_law 847 = .ok (.iload 6, 2) := by decide +kernel
theorem dL_law_849 : decode cL_law 849 = .ok (.ifCond .eq 7, 3) := by decide +kernel
theorem dL_law_852 : decode cL_law 852 = .ok (.lconst 1, 1) := by decide +kernel
theorem dL_law_853 : decode cL_law 853 = .ok (.goto 4, 3) := by decide +kernel
theorem dL_law_856 : decode cL_law 856 = .ok (.lconst 0, 1) := by decide +kernel
theorem dL_law_857 : decode cL_law 857 = .ok (.lcmp, 1) := by decide +kernel
theorem dL_law_858 : decode cL_law 858 = .ok (.ifCond .eq 5, 3) := by decide +kernel
theorem dL_law_861 : decode cL_law 861 = .ok (.iconst 0, 1) := by decide +kernel
theorem dL_law_862 : decode cL_law 862 = .ok (.ireturn, 1) := by decide +kernel
theorem dL_law_863 : decode cL_law 863 = .ok (.goto 705, 3) := by decide +kernel
theorem dL_law_866 : decode cL_law 866 = .ok (.aload_n 1, 1) := by decide +kernel
theorem dL_law_867 : decode cL_law 867 = .ok (.aload_n 0, 1) := by decide +kernel
theorem dL_law_868 : decode cL_law 868 = .ok (.iload 4, 2) := by decide +kernel
theorem dL_law_870 : decode cL_law 870 = .ok (.iconst 1, 1) := by decide +kernel
theorem dL_law_871 : decode cL_law 871 = .ok (.iadd, 1) := by decide +kernel
theorem dL_law_872 : decode cL_law 872 = .ok (.iaload, 1) := by decide +kernel
theorem dL_law_873 : decode cL_law 873 = .ok (.aload_n 3, 1) := by decide +kernel
theorem dL_law_874 : decode cL_law 874 = .ok (.invokestatic 129, 3) := by decide +kernel
theorem dL_law_877 : decode cL_law 877 = .ok (.istore 5, 2) := by decide +kernel
theorem dL_law_879 : decode cL_law 879 = .ok (.aload_n 2, 1) := by decide +kernel
theorem dL_law_880 : decode cL_law 880 = .ok (.aload_n 0, 1) := by decide +kernel
theorem dL_law_881 : decode cL_law 881 = .ok (.iload 4, 2) := by decide +kernel
theorem dL_law_883 : decode cL_law 883 = .ok (.iconst 1, 1) := by decide +kernel
theorem dL_law_884 : decode cL_law 884 = .ok (.iadd, 1) := by decide +kernel
theorem dL_law_885 : decode cL_law 885 = .ok (.iaload, 1) := by decide +kernel
theorem dL_law_886 : decode cL_law 886 = .ok (.invokevirtual 131, 3) := by decide +kernel
theorem dL_law_889 : decode cL_law 889 = .ok (.istore 6, 2) := by decide +kernel
theorem dL_law_891 : decode cL_law 891 = .ok (.aload_n 2, 1) := by decide +kernel
theorem dL_law_892 : decode cL_law 892 = .ok (.invokevirtual 96, 3) := by decide +kernel
theorem dL_law_895 : decode cL_law 895 = .ok (.iload 5, 2) := by decide +kernel
theorem dL_law_897 : decode cL_law 897 = .ok (.if_icmp .eq 5, 3) := by decide +kernel
theorem dL_law_900 : decode cL_law 900 = .ok (.iconst 0, 1) := by decide +kernel
theorem dL_law_901 : decode cL_law 901 = .ok (.ireturn, 1) := by decide +kernel
theorem dL_law_902 : decode cL_law 902 = .ok (.iload 5, 2) := by decide +kernel
theorem dL_law_904 : decode cL_law 904 = .ok (.ifCond .ne 15, 3) := by decide +kernel
theorem dL_law_907 : decode cL_law 907 = .ok (.aload_n 3, 1) := by decide +kernel
theorem dL_law_908 : decode cL_law 908 = .ok (.iconst 0, 1) := by decide +kernel
theorem dL_law_909 : decode cL_law 909 = .ok (.laload, 1) := by decide +kernel
theorem dL_law_910 : decode cL_law 910 = .ok (.iload 6, 2) := by decide +kernel
theorem dL_law_912 : decode cL_law 912 = .ok (.i2l, 1) := by decide +kernel
theorem dL_law_913 : decode cL_law 913 = .ok (.lcmp, 1) := by decide +kernel
theorem dL_law_914 : decode cL_law 914 = .ok (.ifCond .eq 5, 3) := by decide +kernel
theorem dL_law_917 : decode cL_law 917 = .ok (.iconst 0, 1) := by decide +kernel
theorem dL_law_918 : decode cL_law 918 = .ok (.ireturn, 1) := by decide +kernel
theorem dL_law_919 : decode cL_law 919 = .ok (.goto 649, 3) := by decide +kernel
theorem dL_law_922 : decode cL_law 922 = .ok (.aload_n 1, 1) := by decide +kernel
theorem dL_law_923 : decode cL_law 923 = .ok (.aload_n 0, 1) := by decide +kernel
theorem dL_law_924 : decode cL_law 924 = .ok (.iload 4, 2) := by decide +kernel
theorem dL_law_926 : decode cL_law 926 = .ok (.iconst 1, 1) := by decide +kernel
theorem dL_law_927 : decode cL_law 927 = .ok (.iadd, 1) := by decide +kernel
theorem dL_law_928 : decode cL_law 928 = .ok (.iaload, 1) := by decide +kernel
theorem dL_law_929 : decode cL_law 929 = .ok (.aload_n 3, 1) := by decide +kernel
theorem dL_law_930 : decode cL_law 930 = .ok (.invokestatic 132, 3) := by decide +kernel
theorem dL_law_933 : decode cL_law 933 = .ok (.istore 5, 2) := by decide +kernel
theorem dL_law_935 : decode cL_law 935 = .ok (.aload_n 2, 1) := by decide +kernel
theorem dL_law_936 : decode cL_law 936 = .ok (.aload_n 0, 1) := by decide +kernel
theorem dL_law_937 : decode cL_law 937 = .ok (.iload 4, 2) := by decide +kernel
theorem dL_law_939 : decode cL_law 939 = .ok (.iconst 1, 1) := by decide +kernel
theorem dL_law_940 : decode cL_law 940 = .ok (.iadd, 1) := by decide +kernel
theorem dL_law_941 : decode cL_law 941 = .ok (.iaload, 1) := by decide +kernel
theorem dL_law_942 : decode cL_law 942 = .ok (.invokevirtual 134, 3) := by decide +kernel
theorem dL_law_945 : decode cL_law 945 = .ok (.istore 6, 2) := by decide +kernel
theorem dL_law_947 : decode cL_law 947 = .ok (.aload_n 2, 1) := by decide +kernel
theorem dL_law_948 : decode cL_law 948 = .ok (.invokevirtual 96, 3) := by decide +kernel
theorem dL_law_951 : decode cL_law 951 = .ok (.iload 5, 2) := by decide +kernel
theorem dL_law_953 : decode cL_law 953 = .ok (.if_icmp .eq 5, 3) := by decide +kernel
theorem dL_law_956 : decode cL_law 956 = .ok (.iconst 0, 1) := by decide +kernel
theorem dL_law_957 : decode cL_law 957 = .ok (.ireturn, 1) := by decide +kernel
theorem dL_law_958 : decode cL_law 958 = .ok (.iload 5, 2) := by decide +kernel
theorem dL_law_960 : decode cL_law 960 = .ok (.ifCond .ne 15, 3) := by decide +kernel
theorem dL_law_963 : decode cL_law 963 = .ok (.aload_n 3, 1) := by decide +kernel
theorem dL_law_964 : decode cL_law 964 = .ok (.iconst 0, 1) := by decide +kernel
theorem dL_law_965 : decode cL_law 965 = .ok (.laload, 1) := by decide +kernel
theorem dL_law_966 : decode cL_law 966 = .ok (.iload 6, 2) := by decide +kernel
theorem dL_law_968 : decode cL_law 968 = .ok (.i2l, 1) := by decide +kernel
theorem dL_law_969 : decode cL_law 969 = .ok (.lcmp, 1) := by decide +kernel
theorem dL_law_970 : decode cL_law 970 = .ok (.ifCond .eq 5, 3) := by decide +kernel
theorem dL_law_973 : decode cL_law 973 = .ok (.iconst 0, 1) := by decide +kernel
theorem dL_law_974 : decode cL_law 974 = .ok (.ireturn, 1) := by decide +kernel
theorem dL_law_975 : decode cL_law 975 = .ok (.goto 593, 3) := by decide +kernel
theorem dL_law_978 : decode cL_law 978 = .ok (.aload_n 1, 1) := by decide +kernel
theorem dL_law_979 : decode cL_law 979 = .ok (.aload_n 0, 1) := by decide +kernel
theorem dL_law_980 : decode cL_law 980 = .ok (.iload 4, 2) := by decide +kernel
theorem dL_law_982 : decode cL_law 982 = .ok (.iconst 1, 1) := by decide +kernel
theorem dL_law_983 : decode cL_law 983 = .ok (.iadd, 1) := by decide +kernel
theorem dL_law_984 : decode cL_law 984 = .ok (.iaload, 1) := by decide +kernel
theorem dL_law_985 : decode cL_law 985 = .ok (.aload_n 3, 1) := by decide +kernel
theorem dL_law_986 : decode cL_law 986 = .ok (.invokestatic 135, 3) := by decide +kernel
theorem dL_law_989 : decode cL_law 989 = .ok (.istore 5, 2) := by decide +kernel
theorem dL_law_991 : decode cL_law 991 = .ok (.aload_n 2, 1) := by decide +kernel
theorem dL_law_992 : decode cL_law 992 = .ok (.aload_n 0, 1) := by decide +kernel
theorem dL_law_993 : decode cL_law 993 = .ok (.iload 4, 2) := by decide +kernel
theorem dL_law_995 : decode cL_law 995 = .ok (.iconst 1, 1) := by decide +kernel
theorem dL_law_996 : decode cL_law 996 = .ok (.iadd, 1) := by decide +kernel
theorem dL_law_997 : decode cL_law 997 = .ok (.iaload, 1) := by decide +kernel
theorem dL_law_998 : decode cL_law 998 = .ok (.invokevirtual 137, 3) := by decide +kernel
theorem dL_law_1001 : decode cL_law 1001 = .ok (.istore 6, 2) := by decide +kernel
theorem dL_law_1003 : decode cL_law 1003 = .ok (.aload_n 2, 1) := by decide +kernel
theorem dL_law_1004 : decode cL_law 1004 = .ok (.invokevirtual 96, 3) := by decide +kernel
theorem dL_law_1007 : decode cL_law 1007 = .ok (.iload 5, 2) := by decide +kernel
theorem dL_law_1009 : decode cL_law 1009 = .ok (.if_icmp .eq 5, 3) := by decide +kernel
theorem dL_law_1012 : decode cL_law 1012 = .ok (.iconst 0, 1) := by decide +kernel
theorem dL_law_1013 : decode cL_law 1013 = .ok (.ireturn, 1) := by decide +kernel
theorem dL_law_1014 : decode cL_law 1014 = .ok (.iload 5, 2) := by decide +kernel
theorem dL_law_1016 : decode cL_law 1016 = .ok (.ifCond .ne 15, 3) := by decide +kernel
theorem dL_law_1019 : decode cL_law 1019 = .ok (.aload_n 3, 1) := by decide +kernel
theorem dL_law_1020 : decode cL_law 1020 = .ok (.iconst 0, 1) := by decide +kernel
theorem dL_law_1021 : decode cL_law 1021 = .ok (.laload, 1) := by decide +kernel
theorem dL_law_1022 : decode cL_law 1022 = .ok (.iload 6, 2) := by decide +kernel
theorem dL_law_1024 : decode cL_law 1024 = .ok (.i2l, 1) := by decide +kernel
theorem dL_law_1025 : decode cL_law 1025 = .ok (.lcmp, 1) := by decide +kernel
theorem dL_law_1026 : decode cL_law 1026 = .ok (.ifCond .eq 5, 3) := by decide +kernel
theorem dL_law_1029 : decode cL_law 1029 = .ok (.iconst 0, 1) := by decide +kernel
theorem dL_law_1030 : decode cL_law 1030 = .ok (.ireturn, 1) := by decide +kernel
theorem dL_law_1031 : decode cL_law 1031 = .ok (.goto 537, 3) := by decide +kernel
theorem dL_law_1034 : decode cL_law 1034 = .ok (.aload_n 1, 1) := by decide +kernel
theorem dL_law_1035 : decode cL_law 1035 = .ok (.aload_n 0, 1) := by decide +kernel
theorem dL_law_1036 : decode cL_law 1036 = .ok (.iload 4, 2) := by decide +kernel
theorem dL_law_1038 : decode cL_law 1038 = .ok (.iconst 1, 1) := by decide +kernel
theorem dL_law_1039 : decode cL_law 1039 = .ok (.iadd, 1) := by decide +kernel
theorem dL_law_1040 : decode cL_law 1040 = .ok (.iaload, 1) := by decide +kernel
theorem dL_law_1041 : decode cL_law 1041 = .ok (.aload_n 0, 1) := by decide +kernel
theorem dL_law_1042 : decode cL_law 1042 = .ok (.iload 4, 2) := by decide +kernel
theorem dL_law_1044 : decode cL_law 1044 = .ok (.iconst 2, 1) := by decide +kernel
theorem dL_law_1045 : decode cL_law 1045 = .ok (.iadd, 1) := by decide +kernel
theorem dL_law_1046 : decode cL_law 1046 = .ok (.iaload, 1) := by decide +kernel
theorem dL_law_1047 : decode cL_law 1047 = .ok (.aload_n 3, 1) := by decide +kernel
theorem dL_law_1048 : decode cL_law 1048 = .ok (.invokestatic 138, 3) := by decide +kernel
theorem dL_law_1051 : decode cL_law 1051 = .ok (.istore 5, 2) := by decide +kernel
theorem dL_law_1053 : decode cL_law 1053 = .ok (.aload_n 2, 1) := by decide +kernel
theorem dL_law_1054 : decode cL_law 1054 = .ok (.aload_n 0, 1) := by decide +kernel
theorem dL_law_1055 : decode cL_law 1055 = .ok (.iload 4, 2) := by decide +kernel
theorem dL_law_1057 : decode cL_law 1057 = .ok (.iconst 1, 1) := by decide +kernel
theorem dL_law_1058 : decode cL_law 1058 = .ok (.iadd, 1) := by decide +kernel
theorem dL_law_1059 : decode cL_law 1059 = .ok (.iaload, 1) := by decide +kernel
theorem dL_law_1060 : decode cL_law 1060 = .ok (.aload_n 0, 1) := by decide +kernel
theorem dL_law_1061 : decode cL_law 1061 = .ok (.iload 4, 2) := by decide +kernel
theorem dL_law_1063 : decode cL_law 1063 = .ok (.iconst 2, 1) := by decide +kernel
theorem dL_law_1064 : decode cL_law 1064 = .ok (.iadd, 1) := by decide +kernel
theorem dL_law_1065 : decode cL_law 1065 = .ok (.iaload, 1) := by decide +kernel
theorem dL_law_1066 : decode cL_law 1066 = .ok (.invokevirtual 140, 3) := by decide +kernel
theorem dL_law_1069 : decode cL_law 1069 = .ok (.istore 6, 2) := by decide +kernel
theorem dL_law_1071 : decode cL_law 1071 = .ok (.aload_n 2, 1) := by decide +kernel
theorem dL_law_1072 : decode cL_law 1072 = .ok (.invokevirtual 96, 3) := by decide +kernel
theorem dL_law_1075 : decode cL_law 1075 = .ok (.iload 5, 2) := by decide +kernel
theorem dL_law_1077 : decode cL_law 1077 = .ok (.if_icmp .eq 5, 3) := by decide +kernel
theorem dL_law_1080 : decode cL_law 1080 = .ok (.iconst 0, 1) := by decide +kernel
theorem dL_law_1081 : decode cL_law 1081 = .ok (.ireturn, 1) := by decide +kernel
theorem dL_law_1082 : decode cL_law 1082 = .ok (.iload 5, 2) := by decide +kernel
theorem dL_law_1084 : decode cL_law 1084 = .ok (.ifCond .ne 15, 3) := by decide +kernel
theorem dL_law_1087 : decode cL_law 1087 = .ok (.aload_n 3, 1) := by decide +kernel
theorem dL_law_1088 : decode cL_law 1088 = .ok (.iconst 0, 1) := by decide +kernel
theorem dL_law_1089 : decode cL_law 1089 = .ok (.laload, 1) := by decide +kernel
theorem dL_law_1090 : decode cL_law 1090 = .ok (.iload 6, 2) := by decide +kernel
theorem dL_law_1092 : decode cL_law 1092 = .ok (.i2l, 1) := by decide +kernel
theorem dL_law_1093 : decode cL_law 1093 = .ok (.lcmp, 1) := by decide +kernel
theorem dL_law_1094 : decode cL_law 1094 = .ok (.ifCond .eq 5, 3) := by decide +kernel
theorem dL_law_1097 : decode cL_law 1097 = .ok (.iconst 0, 1) := by decide +kernel
theorem dL_law_1098 : decode cL_law 1098 = .ok (.ireturn, 1) := by decide +kernel
theorem dL_law_1099 : decode cL_law 1099 = .ok (.goto 469, 3) := by decide +kernel
theorem dL_law_1102 : decode cL_law 1102 = .ok (.aload_n 1, 1) := by decide +kernel
theorem dL_law_1103 : decode cL_law 1103 = .ok (.aload_n 0, 1) := by decide +kernel
theorem dL_law_1104 : decode cL_law 1104 = .ok (.iload 4, 2) := by decide +kernel
theorem dL_law_1106 : decode cL_law 1106 = .ok (.iconst 1, 1) := by decide +kernel
theorem dL_law_1107 : decode cL_law 1107 = .ok (.iadd, 1) := by decide +kernel
theorem dL_law_1108 : decode cL_law 1108 = .ok (.iaload, 1) := by decide +kernel
theorem dL_law_1109 : decode cL_law 1109 = .ok (.aload_n 0, 1) := by decide +kernel
theorem dL_law_1110 : decode cL_law 1110 = .ok (.iload 4, 2) := by decide +kernel
theorem dL_law_1112 : decode cL_law 1112 = .ok (.iconst 2, 1) := by decide +kernel
theorem dL_law_1113 : decode cL_law 1113 = .ok (.iadd, 1) := by decide +kernel
theorem dL_law_1114 : decode cL_law 1114 = .ok (.iaload, 1) := by decide +kernel
theorem dL_law_1115 : decode cL_law 1115 = .ok (.aload_n 3, 1) := by decide +kernel
theorem dL_law_1116 : decode cL_law 1116 = .ok (.invokestatic 141, 3) := by decide +kernel
theorem dL_law_1119 : decode cL_law 1119 = .ok (.istore 5, 2) := by decide +kernel
theorem dL_law_1121 : decode cL_law 1121 = .ok (.aload_n 2, 1) := by decide +kernel
theorem dL_law_1122 : decode cL_law 1122 = .ok (.aload_n 0, 1) := by decide +kernel
theorem dL_law_1123 : decode cL_law 1123 = .ok (.iload 4, 2) := by decide +kernel
theorem dL_law_1125 : decode cL_law 1125 = .ok (.iconst 1, 1) := by decide +kernel
theorem dL_law_1126 : decode cL_law 1126 = .ok (.iadd, 1) := by decide +kernel
theorem dL_law_1127 : decode cL_law 1127 = .ok (.iaload, 1) := by decide +kernel
theorem dL_law_1128 : decode cL_law 1128 = .ok (.aload_n 0, 1) := by decide +kernel
theorem dL_law_1129 : decode cL_law 1129 = .ok (.iload 4, 2) := by decide +kernel
theorem dL_law_1131 : decode cL_law 1131 = .ok (.iconst 2, 1) := by decide +kernel
theorem dL_law_1132 : decode cL_law 1132 = .ok (.iadd, 1) := by decide +kernel
theorem dL_law_1133 : decode cL_law 1133 = .ok (.iaload, 1) := by decide +kernel
theorem dL_law_1134 : decode cL_law 1134 = .ok (.invokevirtual 143, 3) := by decide +kernel
theorem dL_law_1137 : decode cL_law 1137 = .ok (.istore 6, 2) := by decide +kernel
theorem dL_law_1139 : decode cL_law 1139 = .ok (.aload_n 2, 1) := by decide +kernel
theorem dL_law_1140 : decode cL_law 1140 = .ok (.invokevirtual 96, 3) := by decide +kernel
theorem dL_law_1143 : decode cL_law 1143 = .ok (.iload 5, 2) := by decide +kernel
theorem dL_law_1145 : decode cL_law 1145 = .ok (.if_icmp .eq 5, 3) := by decide +kernel
theorem dL_law_1148 : decode cL_law 1148 = .ok (.iconst 0, 1) := by decide +kernel
theorem dL_law_1149 : decode cL_law 1149 = .ok (.ireturn, 1) := by decide +kernel
theorem dL_law_1150 : decode cL_law 1150 = .ok (.iload 5, 2) := by decide +kernel
theorem dL_law_1152 : decode cL_law 1152 = .ok (.ifCond .ne 15, 3) := by decide +kernel
theorem dL_law_1155 : decode cL_law 1155 = .ok (.aload_n 3, 1) := by decide +kernel
theorem dL_law_1156 : decode cL_law 1156 = .ok (.iconst 0, 1) := by decide +kernel
theorem dL_law_1157 : decode cL_law 1157 = .ok (.laload, 1) := by decide +kernel
theorem dL_law_1158 : decode cL_law 1158 = .ok (.iload 6, 2) := by decide +kernel
theorem dL_law_1160 : decode cL_law 1160 = .ok (.i2l, 1) := by decide +kernel
theorem dL_law_1161 : decode cL_law 1161 = .ok (.lcmp, 1) := by decide +kernel
theorem dL_law_1162 : decode cL_law 1162 = .ok (.ifCond .eq 5, 3) := by decide +kernel
theorem dL_law_1165 : decode cL_law 1165 = .ok (.iconst 0, 1) := by decide +kernel
theorem dL_law_1166 : decode cL_law 1166 = .ok (.ireturn, 1) := by decide +kernel
theorem dL_law_1167 : decode cL_law 1167 = .ok (.goto 401, 3) := by decide +kernel
theorem dL_law_1170 : decode cL_law 1170 = .ok (.aload_n 1, 1) := by decide +kernel
theorem dL_law_1171 : decode cL_law 1171 = .ok (.aload_n 0, 1) := by decide +kernel
theorem dL_law_1172 : decode cL_law 1172 = .ok (.iload 4, 2) := by decide +kernel
theorem dL_law_1174 : decode cL_law 1174 = .ok (.iconst 1, 1) := by decide +kernel
theorem dL_law_1175 : decode cL_law 1175 = .ok (.iadd, 1) := by decide +kernel
theorem dL_law_1176 : decode cL_law 1176 = .ok (.iaload, 1) := by decide +kernel
theorem dL_law_1177 : decode cL_law 1177 = .ok (.aload_n 3, 1) := by decide +kernel
theorem dL_law_1178 : decode cL_law 1178 = .ok (.invokestatic 144, 3) := by decide +kernel
theorem dL_law_1181 : decode cL_law 1181 = .ok (.istore 5, 2) := by decide +kernel
theorem dL_law_1183 : decode cL_law 1183 = .ok (.aload_n 2, 1) := by decide +kernel
theorem dL_law_1184 : decode cL_law 1184 = .ok (.aload_n 0, 1) := by decide +kernel
theorem dL_law_1185 : decode cL_law 1185 = .ok (.iload 4, 2) := by decide +kernel
theorem dL_law_1187 : decode cL_law 1187 = .ok (.iconst 1, 1) := by decide +kernel
theorem dL_law_1188 : decode cL_law 1188 = .ok (.iadd, 1) := by decide +kernel
theorem dL_law_1189 : decode cL_law 1189 = .ok (.iaload, 1) := by decide +kernel
theorem dL_law_1190 : decode cL_law 1190 = .ok (.invokevirtual 146, 3) := by decide +kernel
theorem dL_law_1193 : decode cL_law 1193 = .ok (.istore 6, 2) := by decide +kernel
theorem dL_law_1195 : decode cL_law 1195 = .ok (.aload_n 2, 1) := by decide +kernel
theorem dL_law_1196 : decode cL_law 1196 = .ok (.invokevirtual 96, 3) := by decide +kernel
theorem dL_law_1199 : decode cL_law 1199 = .ok (.iload 5, 2) := by decide +kernel
theorem dL_law_1201 : decode cL_law 1201 = .ok (.if_icmp .eq 5, 3) := by decide +kernel
theorem dL_law_1204 : decode cL_law 1204 = .ok (.iconst 0, 1) := by decide +kernel
theorem dL_law_1205 : decode cL_law 1205 = .ok (.ireturn, 1) := by decide +kernel
theorem dL_law_1206 : decode cL_law 1206 = .ok (.iload 5, 2) := by decide +kernel
theorem dL_law_1208 : decode cL_law 1208 = .ok (.ifCond .ne 15, 3) := by decide +kernel
theorem dL_law_1211 : decode cL_law 1211 = .ok (.aload_n 3, 1) := by decide +kernel
theorem dL_law_1212 : decode cL_law 1212 = .ok (.iconst 0, 1) := by decide +kernel
theorem dL_law_1213 : decode cL_law 1213 = .ok (.laload, 1) := by decide +kernel
theorem dL_law_1214 : decode cL_law 1214 = .ok (.iload 6, 2) := by decide +kernel
theorem dL_law_1216 : decode cL_law 1216 = .ok (.i2l, 1) := by decide +kernel
theorem dL_law_1217 : decode cL_law 1217 = .ok (.lcmp, 1) := by decide +kernel
theorem dL_law_1218 : decode cL_law 1218 = .ok (.ifCond .eq 5, 3) := by decide +kernel
theorem dL_law_1221 : decode cL_law 1221 = .ok (.iconst 0, 1) := by decide +kernel
theorem dL_law_1222 : decode cL_law 1222 = .ok (.ireturn, 1) := by decide +kernel
theorem dL_law_1223 : decode cL_law 1223 = .ok (.goto 345, 3) := by decide +kernel
theorem dL_law_1226 : decode cL_law 1226 = .ok (.aload_n 1, 1) := by decide +kernel
theorem dL_law_1227 : decode cL_law 1227 = .ok (.aload_n 0, 1) := by decide +kernel
theorem dL_law_1228 : decode cL_law 1228 = .ok (.iload 4, 2) := by decide +kernel
theorem dL_law_1230 : decode cL_law 1230 = .ok (.iconst 1, 1) := by decide +kernel
theorem dL_law_1231 : decode cL_law 1231 = .ok (.iadd, 1) := by decide +kernel
theorem dL_law_1232 : decode cL_law 1232 = .ok (.iaload, 1) := by decide +kernel
theorem dL_law_1233 : decode cL_law 1233 = .ok (.aload_n 0, 1) := by decide +kernel
theorem dL_law_1234 : decode cL_law 1234 = .ok (.iload 4, 2) := by decide +kernel
theorem dL_law_1236 : decode cL_law 1236 = .ok (.iconst 2, 1) := by decide +kernel
theorem dL_law_1237 : decode cL_law 1237 = .ok (.iadd, 1) := by decide +kernel
theorem dL_law_1238 : decode cL_law 1238 = .ok (.iaload, 1) := by decide +kernel
theorem dL_law_1239 : decode cL_law 1239 = .ok (.aload_n 0, 1) := by decide +kernel
theorem dL_law_1240 : decode cL_law 1240 = .ok (.iload 4, 2) := by decide +kernel
theorem dL_law_1242 : decode cL_law 1242 = .ok (.iconst 3, 1) := by decide +kernel
theorem dL_law_1243 : decode cL_law 1243 = .ok (.iadd, 1) := by decide +kernel
theorem dL_law_1244 : decode cL_law 1244 = .ok (.iaload, 1) := by decide +kernel
theorem dL_law_1245 : decode cL_law 1245 = .ok (.aload_n 0, 1) := by decide +kernel
theorem dL_law_1246 : decode cL_law 1246 = .ok (.iload 4, 2) := by decide +kernel
theorem dL_law_1248 : decode cL_law 1248 = .ok (.iconst 4, 1) := by decide +kernel
theorem dL_law_1249 : decode cL_law 1249 = .ok (.iadd, 1) := by decide +kernel
theorem dL_law_1250 : decode cL_law 1250 = .ok (.iaload, 1) := by decide +kernel
theorem dL_law_1251 : decode cL_law 1251 = .ok (.aload_n 3, 1) := by decide +kernel
theorem dL_law_1252 : decode cL_law 1252 = .ok (.invokestatic 147, 3) := by decide +kernel
theorem dL_law_1255 : decode cL_law 1255 = .ok (.istore 5, 2) := by decide +kernel
theorem dL_law_1257 : decode cL_law 1257 = .ok (.aload_n 2, 1) := by decide +kernel
theorem dL_law_1258 : decode cL_law 1258 = .ok (.aload_n 0, 1) := by decide +kernel
theorem dL_law_1259 : decode cL_law 1259 = .ok (.iload 4, 2) := by decide +kernel
theorem dL_law_1261 : decode cL_law 1261 = .ok (.iconst 1, 1) := by decide +kernel
theorem dL_law_1262 : decode cL_law 1262 = .ok (.iadd, 1) := by decide +kernel
theorem dL_law_1263 : decode cL_law 1263 = .ok (.iaload, 1) := by decide +kernel
theorem dL_law_1264 : decode cL_law 1264 = .ok (.aload_n 0, 1) := by decide +kernel
theorem dL_law_1265 : decode cL_law 1265 = .ok (.iload 4, 2) := by decide +kernel
theorem dL_law_1267 : decode cL_law 1267 = .ok (.iconst 2, 1) := by decide +kernel
theorem dL_law_1268 : decode cL_law 1268 = .ok (.iadd, 1) := by decide +kernel
theorem dL_law_1269 : decode cL_law 1269 = .ok (.iaload, 1) := by decide +kernel
theorem dL_law_1270 : decode cL_law 1270 = .ok (.aload_n 0, 1) := by decide +kernel
theorem dL_law_1271 : decode cL_law 1271 = .ok (.iload 4, 2) := by decide +kernel
theorem dL_law_1273 : decode cL_law 1273 = .ok (.iconst 3, 1) := by decide +kernel
theorem dL_law_1274 : decode cL_law 1274 = .ok (.iadd, 1) := by decide +kernel
theorem dL_law_1275 : decode cL_law 1275 = .ok (.iaload, 1) := by decide +kernel
theorem dL_law_1276 : decode cL_law 1276 = .ok (.aload_n 0, 1) := by decide +kernel
theorem dL_law_1277 : decode cL_law 1277 = .ok (.iload 4, 2) := by decide +kernel
theorem dL_law_1279 : decode cL_law 1279 = .ok (.iconst 4, 1) := by decide +kernel
theorem dL_law_1280 : decode cL_law 1280 = .ok (.iadd, 1) := by decide +kernel
theorem dL_law_1281 : decode cL_law 1281 = .ok (.iaload, 1) := by decide +kernel
theorem dL_law_1282 : decode cL_law 1282 = .ok (.invokevirtual 150, 3) := by decide +kernel
theorem dL_law_1285 : decode cL_law 1285 = .ok (.istore 6, 2) := by decide +kernel
theorem dL_law_1287 : decode cL_law 1287 = .ok (.aload_n 2, 1) := by decide +kernel
theorem dL_law_1288 : decode cL_law 1288 = .ok (.invokevirtual 96, 3) := by decide +kernel
theorem dL_law_1291 : decode cL_law 1291 = .ok (.iload 5, 2) := by decide +kernel
theorem dL_law_1293 : decode cL_law 1293 = .ok (.if_icmp .eq 5, 3) := by decide +kernel
theorem dL_law_1296 : decode cL_law 1296 = .ok (.iconst 0, 1) := by decide +kernel
theorem dL_law_1297 : decode cL_law 1297 = .ok (.ireturn, 1) := by decide +kernel
theorem dL_law_1298 : decode cL_law 1298 = .ok (.iload 5, 2) := by decide +kernel
theorem dL_law_1300 : decode cL_law 1300 = .ok (.ifCond .ne 15, 3) := by decide +kernel
theorem dL_law_1303 : decode cL_law 1303 = .ok (.aload_n 3, 1) := by decide +kernel
theorem dL_law_1304 : decode cL_law 1304 = .ok (.iconst 0, 1) := by decide +kernel
theorem dL_law_1305 : decode cL_law 1305 = .ok (.laload, 1) := by decide +kernel
theorem dL_law_1306 : decode cL_law 1306 = .ok (.iload 6, 2) := by decide +kernel
theorem dL_law_1308 : decode cL_law 1308 = .ok (.i2l, 1) := by decide +kernel
theorem dL_law_1309 : decode cL_law 1309 = .ok (.lcmp, 1) := by decide +kernel
theorem dL_law_1310 : decode cL_law 1310 = .ok (.ifCond .eq 5, 3) := by decide +kernel
theorem dL_law_1313 : decode cL_law 1313 = .ok (.iconst 0, 1) := by decide +kernel
theorem dL_law_1314 : decode cL_law 1314 = .ok (.ireturn, 1) := by decide +kernel
theorem dL_law_1315 : decode cL_law 1315 = .ok (.goto 253, 3) := by decide +kernel
theorem dL_law_1318 : decode cL_law 1318 = .ok (.aload_n 1, 1) := by decide +kernel
theorem dL_law_1319 : decode cL_law 1319 = .ok (.aload_n 3, 1) := by decide +kernel
theorem dL_law_1320 : decode cL_law 1320 = .ok (.invokestatic 151, 3) := by decide +kernel
theorem dL_law_1323 : decode cL_law 1323 = .ok (.istore 5, 2) := by decide +kernel
theorem dL_law_1325 : decode cL_law 1325 = .ok (.aload_n 2, 1) := by decide +kernel
theorem dL_law_1326 : decode cL_law 1326 = .ok (.invokevirtual 154, 3) := by decide +kernel
theorem dL_law_1329 : decode cL_law 1329 = .ok (.istore 6, 2) := by decide +kernel
theorem dL_law_1331 : decode cL_law 1331 = .ok (.aload_n 2, 1) := by decide +kernel
theorem dL_law_1332 : decode cL_law 1332 = .ok (.invokevirtual 96, 3) := by decide +kernel
theorem dL_law_1335 : decode cL_law 1335 = .ok (.iload 5, 2) := by decide +kernel
theorem dL_law_1337 : decode cL_law 1337 = .ok (.if_icmp .eq 5, 3) := by decide +kernel
theorem dL_law_1340 : decode cL_law 1340 = .ok (.iconst 0, 1) := by decide +kernel
theorem dL_law_1341 : decode cL_law 1341 = .ok (.ireturn, 1) := by decide +kernel
theorem dL_law_1342 : decode cL_law 1342 = .ok (.iload 5, 2) := by decide +kernel
theorem dL_law_1344 : decode cL_law 1344 = .ok (.ifCond .ne 15, 3) := by decide +kernel
theorem dL_law_1347 : decode cL_law 1347 = .ok (.aload_n 3, 1) := by decide +kernel
theorem dL_law_1348 : decode cL_law 1348 = .ok (.iconst 0, 1) := by decide +kernel
theorem dL_law_1349 : decode cL_law 1349 = .ok (.laload, 1) := by decide +kernel
theorem dL_law_1350 : decode cL_law 1350 = .ok (.iload 6, 2) := by decide +kernel
theorem dL_law_1352 : decode cL_law 1352 = .ok (.i2l, 1) := by decide +kernel
theorem dL_law_1353 : decode cL_law 1353 = .ok (.lcmp, 1) := by decide +kernel
theorem dL_law_1354 : decode cL_law 1354 = .ok (.ifCond .eq 5, 3) := by decide +kernel
theorem dL_law_1357 : decode cL_law 1357 = .ok (.iconst 0, 1) := by decide +kernel
theorem dL_law_1358 : decode cL_law 1358 = .ok (.ireturn, 1) := by decide +kernel
theorem dL_law_1359 : decode cL_law 1359 = .ok (.goto 209, 3) := by decide +kernel
theorem dL_law_1362 : decode cL_law 1362 = .ok (.aload_n 1, 1) := by decide +kernel
theorem dL_law_1363 : decode cL_law 1363 = .ok (.invokevirtual 155, 3) := by decide +kernel
theorem dL_law_1366 : decode cL_law 1366 = .ok (.aload_n 2, 1) := by decide +kernel
theorem dL_law_1367 : decode cL_law 1367 = .ok (.invokevirtual 158, 3) := by decide +kernel
theorem dL_law_1370 : decode cL_law 1370 = .ok (.if_icmp .eq 198, 3) := by decide +kernel
theorem dL_law_1373 : decode cL_law 1373 = .ok (.iconst 0, 1) := by decide +kernel
theorem dL_law_1374 : decode cL_law 1374 = .ok (.ireturn, 1) := by decide +kernel
theorem dL_law_1375 : decode cL_law 1375 = .ok (.aload_n 1, 1) := by decide +kernel
theorem dL_law_1376 : decode cL_law 1376 = .ok (.aload_n 0, 1) := by decide +kernel
theorem dL_law_1377 : decode cL_law 1377 = .ok (.iload 4, 2) := by decide +kernel
theorem dL_law_1379 : decode cL_law 1379 = .ok (.iconst 1, 1) := by decide +kernel
theorem dL_law_1380 : decode cL_law 1380 = .ok (.iadd, 1) := by decide +kernel
theorem dL_law_1381 : decode cL_law 1381 = .ok (.iaload, 1) := by decide +kernel
theorem dL_law_1382 : decode cL_law 1382 = .ok (.aload_n 3, 1) := by decide +kernel
theorem dL_law_1383 : decode cL_law 1383 = .ok (.invokestatic 159, 3) := by decide +kernel
theorem dL_law_1386 : decode cL_law 1386 = .ok (.istore 5, 2) := by decide +kernel
theorem dL_law_1388 : decode cL_law 1388 = .ok (.aload_n 2, 1) := by decide +kernel
theorem dL_law_1389 : decode cL_law 1389 = .ok (.aload_n 0, 1) := by decide +kernel
theorem dL_law_1390 : decode cL_law 1390 = .ok (.iload 4, 2) := by decide +kernel
theorem dL_law_1392 : decode cL_law 1392 = .ok (.iconst 1, 1) := by decide +kernel
theorem dL_law_1393 : decode cL_law 1393 = .ok (.iadd, 1) := by decide +kernel
theorem dL_law_1394 : decode cL_law 1394 = .ok (.iaload, 1) := by decide +kernel
theorem dL_law_1395 : decode cL_law 1395 = .ok (.invokevirtual 161, 3) := by decide +kernel
theorem dL_law_1398 : decode cL_law 1398 = .ok (.istore 6, 2) := by decide +kernel
theorem dL_law_1400 : decode cL_law 1400 = .ok (.aload_n 2, 1) := by decide +kernel
theorem dL_law_1401 : decode cL_law 1401 = .ok (.invokevirtual 96, 3) := by decide +kernel
theorem dL_law_1404 : decode cL_law 1404 = .ok (.iload 5, 2) := by decide +kernel
theorem dL_law_1406 : decode cL_law 1406 = .ok (.if_icmp .eq 5, 3) := by decide +kernel
theorem dL_law_1409 : decode cL_law 1409 = .ok (.iconst 0, 1) := by decide +kernel
theorem dL_law_1410 : decode cL_law 1410 = .ok (.ireturn, 1) := by decide +kernel
theorem dL_law_1411 : decode cL_law 1411 = .ok (.iload 5, 2) := by decide +kernel
theorem dL_law_1413 : decode cL_law 1413 = .ok (.ifCond .ne 15, 3) := by decide +kernel
theorem dL_law_1416 : decode cL_law 1416 = .ok (.aload_n 3, 1) := by decide +kernel
theorem dL_law_1417 : decode cL_law 1417 = .ok (.iconst 0, 1) := by decide +kernel
theorem dL_law_1418 : decode cL_law 1418 = .ok (.laload, 1) := by decide +kernel
theorem dL_law_1419 : decode cL_law 1419 = .ok (.iload 6, 2) := by decide +kernel
theorem dL_law_1421 : decode cL_law 1421 = .ok (.i2l, 1) := by decide +kernel
theorem dL_law_1422 : decode cL_law 1422 = .ok (.lcmp, 1) := by decide +kernel
theorem dL_law_1423 : decode cL_law 1423 = .ok (.ifCond .eq 5, 3) := by decide +kernel
theorem dL_law_1426 : decode cL_law 1426 = .ok (.iconst 0, 1) := by decide +kernel
theorem dL_law_1427 : decode cL_law 1427 = .ok (.ireturn, 1) := by decide +kernel
theorem dL_law_1428 : decode cL_law 1428 = .ok (.goto 140, 3) := by decide +kernel
theorem dL_law_1431 : decode cL_law 1431 = .ok (.aload_n 1, 1) := by decide +kernel
theorem dL_law_1432 : decode cL_law 1432 = .ok (.aload_n 0, 1) := by decide +kernel
theorem dL_law_1433 : decode cL_law 1433 = .ok (.iload 4, 2) := by decide +kernel
theorem dL_law_1435 : decode cL_law 1435 = .ok (.iconst 1, 1) := by decide +kernel
theorem dL_law_1436 : decode cL_law 1436 = .ok (.iadd, 1) := by decide +kernel
theorem dL_law_1437 : decode cL_law 1437 = .ok (.iaload, 1) := by decide +kernel
theorem dL_law_1438 : decode cL_law 1438 = .ok (.aload_n 0, 1) := by decide +kernel
theorem dL_law_1439 : decode cL_law 1439 = .ok (.iload 4, 2) := by decide +kernel
theorem dL_law_1441 : decode cL_law 1441 = .ok (.iconst 2, 1) := by decide +kernel
theorem dL_law_1442 : decode cL_law 1442 = .ok (.iadd, 1) := by decide +kernel
theorem dL_law_1443 : decode cL_law 1443 = .ok (.iaload, 1) := by decide +kernel
theorem dL_law_1444 : decode cL_law 1444 = .ok (.aload_n 3, 1) := by decide +kernel
theorem dL_law_1445 : decode cL_law 1445 = .ok (.invokestatic 162, 3) := by decide +kernel
theorem dL_law_1448 : decode cL_law 1448 = .ok (.istore 5, 2) := by decide +kernel
theorem dL_law_1450 : decode cL_law 1450 = .ok (.aload_n 2, 1) := by decide +kernel
theorem dL_law_1451 : decode cL_law 1451 = .ok (.aload_n 0, 1) := by decide +kernel
theorem dL_law_1452 : decode cL_law 1452 = .ok (.iload 4, 2) := by decide +kernel
theorem dL_law_1454 : decode cL_law 1454 = .ok (.iconst 1, 1) := by decide +kernel
theorem dL_law_1455 : decode cL_law 1455 = .ok (.iadd, 1) := by decide +kernel
theorem dL_law_1456 : decode cL_law 1456 = .ok (.iaload, 1) := by decide +kernel
theorem dL_law_1457 : decode cL_law 1457 = .ok (.aload_n 0, 1) := by decide +kernel
theorem dL_law_1458 : decode cL_law 1458 = .ok (.iload 4, 2) := by decide +kernel
theorem dL_law_1460 : decode cL_law 1460 = .ok (.iconst 2, 1) := by decide +kernel
theorem dL_law_1461 : decode cL_law 1461 = .ok (.iadd, 1) := by decide +kernel
theorem dL_law_1462 : decode cL_law 1462 = .ok (.iaload, 1) := by decide +kernel
theorem dL_law_1463 : decode cL_law 1463 = .ok (.invokevirtual 164, 3) := by decide +kernel
theorem dL_law_1466 : decode cL_law 1466 = .ok (.istore 6, 2) := by decide +kernel
theorem dL_law_1468 : decode cL_law 1468 = .ok (.aload_n 2, 1) := by decide +kernel
theorem dL_law_1469 : decode cL_law 1469 = .ok (.invokevirtual 96, 3) := by decide +kernel
theorem dL_law_1472 : decode cL_law 1472 = .ok (.iload 5, 2) := by decide +kernel
theorem dL_law_1474 : decode cL_law 1474 = .ok (.if_icmp .eq 5, 3) := by decide +kernel
theorem dL_law_1477 : decode cL_law 1477 = .ok (.iconst 0, 1) := by decide +kernel
theorem dL_law_1478 : decode cL_law 1478 = .ok (.ireturn, 1) := by decide +kernel
theorem dL_law_1479 : decode cL_law 1479 = .ok (.iload 5, 2) := by decide +kernel
theorem dL_law_1481 : decode cL_law 1481 = .ok (.ifCond .ne 15, 3) := by decide +kernel
theorem dL_law_1484 : decode cL_law 1484 = .ok (.aload_n 3, 1) := by decide +kernel
theorem dL_law_1485 : decode cL_law 1485 = .ok (.iconst 0, 1) := by decide +kernel
theorem dL_law_1486 : decode cL_law 1486 = .ok (.laload, 1) := by decide +kernel
theorem dL_law_1487 : decode cL_law 1487 = .ok (.iload 6, 2) := by decide +kernel
theorem dL_law_1489 : decode cL_law 1489 = .ok (.i2l, 1) := by decide +kernel
theorem dL_law_1490 : decode cL_law 1490 = .ok (.lcmp, 1) := by decide +kernel
theorem dL_law_1491 : decode cL_law 1491 = .ok (.ifCond .eq 5, 3) := by decide +kernel
theorem dL_law_1494 : decode cL_law 1494 = .ok (.iconst 0, 1) := by decide +kernel
theorem dL_law_1495 : decode cL_law 1495 = .ok (.ireturn, 1) := by decide +kernel
theorem dL_law_1496 : decode cL_law 1496 = .ok (.goto 72, 3) := by decide +kernel
theorem dL_law_1499 : decode cL_law 1499 = .ok (.aload_n 1, 1) := by decide +kernel
theorem dL_law_1500 : decode cL_law 1500 = .ok (.aload_n 0, 1) := by decide +kernel
theorem dL_law_1501 : decode cL_law 1501 = .ok (.iload 4, 2) := by decide +kernel
theorem dL_law_1503 : decode cL_law 1503 = .ok (.iconst 1, 1) := by decide +kernel
theorem dL_law_1504 : decode cL_law 1504 = .ok (.iadd, 1) := by decide +kernel
theorem dL_law_1505 : decode cL_law 1505 = .ok (.iaload, 1) := by decide +kernel
theorem dL_law_1506 : decode cL_law 1506 = .ok (.aload_n 3, 1) := by decide +kernel
theorem dL_law_1507 : decode cL_law 1507 = .ok (.invokestatic 165, 3) := by decide +kernel
theorem dL_law_1510 : decode cL_law 1510 = .ok (.istore 5, 2) := by decide +kernel
theorem dL_law_1512 : decode cL_law 1512 = .ok (.aload_n 2, 1) := by decide +kernel
theorem dL_law_1513 : decode cL_law 1513 = .ok (.aload_n 0, 1) := by decide +kernel
theorem dL_law_1514 : decode cL_law 1514 = .ok (.iload 4, 2) := by decide +kernel
theorem dL_law_1516 : decode cL_law 1516 = .ok (.iconst 1, 1) := by decide +kernel
theorem dL_law_1517 : decode cL_law 1517 = .ok (.iadd, 1) := by decide +kernel
theorem dL_law_1518 : decode cL_law 1518 = .ok (.iaload, 1) := by decide +kernel
theorem dL_law_1519 : decode cL_law 1519 = .ok (.invokevirtual 167, 3) := by decide +kernel
theorem dL_law_1522 : decode cL_law 1522 = .ok (.istore 6, 2) := by decide +kernel
theorem dL_law_1524 : decode cL_law 1524 = .ok (.aload_n 2, 1) := by decide +kernel
theorem dL_law_1525 : decode cL_law 1525 = .ok (.invokevirtual 96, 3) := by decide +kernel
theorem dL_law_1528 : decode cL_law 1528 = .ok (.iload 5, 2) := by decide +kernel
theorem dL_law_1530 : decode cL_law 1530 = .ok (.if_icmp .eq 5, 3) := by decide +kernel
theorem dL_law_1533 : decode cL_law 1533 = .ok (.iconst 0, 1) := by decide +kernel
theorem dL_law_1534 : decode cL_law 1534 = .ok (.ireturn, 1) := by decide +kernel
theorem dL_law_1535 : decode cL_law 1535 = .ok (.iload 5, 2) := by decide +kernel
theorem dL_law_1537 : decode cL_law 1537 = .ok (.ifCond .ne 15, 3) := by decide +kernel
theorem dL_law_1540 : decode cL_law 1540 = .ok (.aload_n 3, 1) := by decide +kernel
theorem dL_law_1541 : decode cL_law 1541 = .ok (.iconst 0, 1) := by decide +kernel
theorem dL_law_1542 : decode cL_law 1542 = .ok (.laload, 1) := by decide +kernel
theorem dL_law_1543 : decode cL_law 1543 = .ok (.iload 6, 2) := by decide +kernel
theorem dL_law_1545 : decode cL_law 1545 = .ok (.i2l, 1) := by decide +kernel
theorem dL_law_1546 : decode cL_law 1546 = .ok (.lcmp, 1) := by decide +kernel
theorem dL_law_1547 : decode cL_law 1547 = .ok (.ifCond .eq 5, 3) := by decide +kernel
theorem dL_law_1550 : decode cL_law 1550 = .ok (.iconst 0, 1) := by decide +kernel
theorem dL_law_1551 : decode cL_law 1551 = .ok (.ireturn, 1) := by decide +kernel
theorem dL_law_1552 : decode cL_law 1552 = .ok (.goto 16, 3) := by decide +kernel
theorem dL_law_1555 : decode cL_law 1555 = .ok (.aload_n 1, 1) := by decide +kernel
theorem dL_law_1556 : decode cL_law 1556 = .ok (.invokevirtual 168, 3) := by decide +kernel
theorem dL_law_1559 : decode cL_law 1559 = .ok (.aload_n 2, 1) := by decide +kernel
theorem dL_law_1560 : decode cL_law 1560 = .ok (.invokevirtual 171, 3) := by decide +kernel
theorem dL_law_1563 : decode cL_law 1563 = .ok (.if_icmp .eq 5, 3) := by decide +kernel
theorem dL_law_1566 : decode cL_law 1566 = .ok (.iconst 0, 1) := by decide +kernel
theorem dL_law_1567 : decode cL_law 1567 = .ok (.ireturn, 1) := by decide +kernel
theorem dL_law_1568 : decode cL_law 1568 = .ok (.iinc 4 5, 3) := by decide +kernel
theorem dL_law_1571 : decode cL_law 1571 = .ok (.goto (-1548), 3) := by decide +kernel
theorem dL_law_1574 : decode cL_law 1574 = .ok (.iconst 1, 1) := by decide +kernel
theorem dL_law_1575 : decode cL_law 1575 = .ok (.ireturn, 1) := by decide +kernel
