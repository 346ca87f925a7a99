theorem dX0_init_0 : decode cX0_init 0 = .ok (.aload_n 0, 1) := by decide +kernel
theorem dX0_init_1 : decode cX0_init 1 = .ok (.invokespecial 3, 3) := by decide +kernel
theorem dX0_init_4 : decode cX0_init 4 = .ok (.aload_n 0, 1) := by decide +kernel
theorem dX0_init_5 : decode cX0_init 5 = .ok (.bipush 100, 2) := by decide +kernel
theorem dX0_init_7 : decode cX0_init 7 = .ok (.newarray .int, 2) := by decide +kernel
theorem dX0_init_9 : decode cX0_init 9 = .ok (.putfield 9, 3) := by decide +kernel
theorem dX0_init_12 : decode cX0_init 12 = .ok (.aload_n 0, 1) := by decide +kernel
theorem dX0_init_13 : decode cX0_init 13 = .ok (.bipush 100, 2) := by decide +kernel
theorem dX0_init_15 : decode cX0_init 15 = .ok (.newarray .int, 2) := by decide +kernel
theorem dX0_init_17 : decode cX0_init 17 = .ok (.putfield 15, 3) := by decide +kernel
theorem dX0_init_20 : decode cX0_init 20 = .ok (.aload_n 0, 1) := by decide +kernel
theorem dX0_init_21 : decode cX0_init 21 = .ok (.bipush 100, 2) := by decide +kernel
theorem dX0_init_23 : decode cX0_init 23 = .ok (.newarray .int, 2) := by decide +kernel
theorem dX0_init_25 : decode cX0_init 25 = .ok (.putfield 18, 3) := by decide +kernel
theorem dX0_init_28 : decode cX0_init 28 = .ok (.aload_n 0, 1) := by decide +kernel
theorem dX0_init_29 : decode cX0_init 29 = .ok (.bipush 100, 2) := by decide +kernel
theorem dX0_init_31 : decode cX0_init 31 = .ok (.newarray .int, 2) := by decide +kernel
theorem dX0_init_33 : decode cX0_init 33 = .ok (.putfield 21, 3) := by decide +kernel
theorem dX0_init_36 : decode cX0_init 36 = .ok (.aload_n 0, 1) := by decide +kernel
theorem dX0_init_37 : decode cX0_init 37 = .ok (.bipush 100, 2) := by decide +kernel
theorem dX0_init_39 : decode cX0_init 39 = .ok (.newarray .int, 2) := by decide +kernel
theorem dX0_init_41 : decode cX0_init 41 = .ok (.putfield 24, 3) := by decide +kernel
theorem dX0_init_44 : decode cX0_init 44 = .ok (.aload_n 0, 1) := by decide +kernel
theorem dX0_init_45 : decode cX0_init 45 = .ok (.bipush 100, 2) := by decide +kernel
theorem dX0_init_47 : decode cX0_init 47 = .ok (.newarray .int, 2) := by decide +kernel
theorem dX0_init_49 : decode cX0_init 49 = .ok (.putfield 27, 3) := by decide +kernel
theorem dX0_init_52 : decode cX0_init 52 = .ok (.return_, 1) := by decide +kernel
theorem dX1_init_0 : decode cX1_init 0 = .ok (.aload_n 0, 1) := by decide +kernel
theorem dX1_init_1 : decode cX1_init 1 = .ok (.invokespecial 5, 3) := by decide +kernel
theorem dX1_init_4 : decode cX1_init 4 = .ok (.aload_n 0, 1) := by decide +kernel
theorem dX1_init_5 : decode cX1_init 5 = .ok (.bipush 32, 2) := by decide +kernel
theorem dX1_init_7 : decode cX1_init 7 = .ok (.newarray .int, 2) := by decide +kernel
theorem dX1_init_9 : decode cX1_init 9 = .ok (.putfield 11, 3) := by decide +kernel
theorem dX1_init_12 : decode cX1_init 12 = .ok (.aload_n 0, 1) := by decide +kernel
theorem dX1_init_13 : decode cX1_init 13 = .ok (.bipush 32, 2) := by decide +kernel
theorem dX1_init_15 : decode cX1_init 15 = .ok (.newarray .int, 2) := by decide +kernel
theorem dX1_init_17 : decode cX1_init 17 = .ok (.putfield 15, 3) := by decide +kernel
theorem dX1_init_20 : decode cX1_init 20 = .ok (.aload_n 0, 1) := by decide +kernel
theorem dX1_init_21 : decode cX1_init 21 = .ok (.sipush 4096, 3) := by decide +kernel
theorem dX1_init_24 : decode cX1_init 24 = .ok (.newarray .int, 2) := by decide +kernel
theorem dX1_init_26 : decode cX1_init 26 = .ok (.putfield 18, 3) := by decide +kernel
theorem dX1_init_29 : decode cX1_init 29 = .ok (.iconst 0, 1) := by decide +kernel
theorem dX1_init_30 : decode cX1_init 30 = .ok (.istore_n 1, 1) := by decide +kernel
theorem dX1_init_31 : decode cX1_init 31 = .ok (.iload_n 1, 1) := by decide +kernel
theorem dX1_init_32 : decode cX1_init 32 = .ok (.aload_n 0, 1) := by decide +kernel
theorem dX1_init_33 : decode cX1_init 33 = .ok (.getfield 18, 3) := by decide +kernel
theorem dX1_init_36 : decode cX1_init 36 = .ok (.arraylength, 1) := by decide +kernel
theorem dX1_init_37 : decode cX1_init 37 = .ok (.if_icmp .ge 16, 3) := by decide +kernel
theorem dX1_init_40 : decode cX1_init 40 = .ok (.aload_n 0, 1) := by decide +kernel
theorem dX1_init_41 : decode cX1_init 41 = .ok (.getfield 18, 3) := by decide +kernel
theorem dX1_init_44 : decode cX1_init 44 = .ok (.iload_n 1, 1) := by decide +kernel
theorem dX1_init_45 : decode cX1_init 45 = .ok (.iconst (-1), 1) := by decide +kernel
theorem dX1_init_46 : decode cX1_init 46 = .ok (.iastore, 1) := by decide +kernel
theorem dX1_init_47 : decode cX1_init 47 = .ok (.iinc 1 1, 3) := by decide +kernel
theorem dX1_init_50 : decode cX1_init 50 = .ok (.goto (-19), 3) := by decide +kernel
theorem dX1_init_53 : decode cX1_init 53 = .ok (.return_, 1) := by decide +kernel
theorem dX1_strainOf_0 : decode cX1_strainOf 0 = .ok (.iload_n 0, 1) := by decide +kernel
theorem dX1_strainOf_1 : decode cX1_strainOf 1 = .ok (.bipush 20, 2) := by decide +kernel
theorem dX1_strainOf_3 : decode cX1_strainOf 3 = .ok (.ishr, 1) := by decide +kernel
theorem dX1_strainOf_4 : decode cX1_strainOf 4 = .ok (.ireturn, 1) := by decide +kernel
theorem dX1_workOf_0 : decode cX1_workOf 0 = .ok (.iload_n 0, 1) := by decide +kernel
theorem dX1_workOf_1 : decode cX1_workOf 1 = .ok (.bipush 16, 2) := by decide +kernel
theorem dX1_workOf_3 : decode cX1_workOf 3 = .ok (.ishr, 1) := by decide +kernel
theorem dX1_workOf_4 : decode cX1_workOf 4 = .ok (.bipush 15, 2) := by decide +kernel
theorem dX1_workOf_6 : decode cX1_workOf 6 = .ok (.iand, 1) := by decide +kernel
theorem dX1_workOf_7 : decode cX1_workOf 7 = .ok (.ireturn, 1) := by decide +kernel
theorem dX1_rankOf_0 : decode cX1_rankOf 0 = .ok (.iload_n 0, 1) := by decide +kernel
theorem dX1_rankOf_1 : decode cX1_rankOf 1 = .ok (.iload_n 1, 1) := by decide +kernel
theorem dX1_rankOf_2 : decode cX1_rankOf 2 = .ok (.invokestatic 21, 3) := by decide +kernel
theorem dX1_rankOf_5 : decode cX1_rankOf 5 = .ok (.ishr, 1) := by decide +kernel
theorem dX1_rankOf_6 : decode cX1_rankOf 6 = .ok (.iconst 3, 1) := by decide +kernel
theorem dX1_rankOf_7 : decode cX1_rankOf 7 = .ok (.iand, 1) := by decide +kernel
theorem dX1_rankOf_8 : decode cX1_rankOf 8 = .ok (.ireturn, 1) := by decide +kernel
theorem dX1_rankShift_0 : decode cX1_rankShift 0 = .ok (.bipush 7, 2) := by decide +kernel
theorem dX1_rankShift_2 : decode cX1_rankShift 2 = .ok (.iload_n 0, 1) := by decide +kernel
theorem dX1_rankShift_3 : decode cX1_rankShift 3 = .ok (.isub, 1) := by decide +kernel
theorem dX1_rankShift_4 : decode cX1_rankShift 4 = .ok (.iconst 2, 1) := by decide +kernel
theorem dX1_rankShift_5 : decode cX1_rankShift 5 = .ok (.imul, 1) := by decide +kernel
theorem dX1_rankShift_6 : decode cX1_rankShift 6 = .ok (.ireturn, 1) := by decide +kernel
theorem dX1_clear_0 : decode cX1_clear 0 = .ok (.iconst 0, 1) := by decide +kernel
theorem dX1_clear_1 : decode cX1_clear 1 = .ok (.istore_n 1, 1) := by decide +kernel
theorem dX1_clear_2 : decode cX1_clear 2 = .ok (.iload_n 1, 1) := by decide +kernel
theorem dX1_clear_3 : decode cX1_clear 3 = .ok (.aload_n 0, 1) := by decide +kernel
theorem dX1_clear_4 : decode cX1_clear 4 = .ok (.getfield 11, 3) := by decide +kernel
theorem dX1_clear_7 : decode cX1_clear 7 = .ok (.arraylength, 1) := by decide +kernel
theorem dX1_clear_8 : decode cX1_clear 8 = .ok (.if_icmp .ge 16, 3) := by decide +kernel
theorem dX1_clear_11 : decode cX1_clear 11 = .ok (.aload_n 0, 1) := by decide +kernel
theorem dX1_clear_12 : decode cX1_clear 12 = .ok (.getfield 11, 3) := by decide +kernel
theorem dX1_clear_15 : decode cX1_clear 15 = .ok (.iload_n 1, 1) := by decide +kernel
theorem dX1_clear_16 : decode cX1_clear 16 = .ok (.iconst (-1), 1) := by decide +kernel
theorem dX1_clear_17 : decode cX1_clear 17 = .ok (.iastore, 1) := by decide +kernel
theorem dX1_clear_18 : decode cX1_clear 18 = .ok (.iinc 1 1, 3) := by decide +kernel
theorem dX1_clear_21 : decode cX1_clear 21 = .ok (.goto (-19), 3) := by decide +kernel
theorem dX1_clear_24 : decode cX1_clear 24 = .ok (.aload_n 0, 1) := by decide +kernel
theorem dX1_clear_25 : decode cX1_clear 25 = .ok (.iconst 1, 1) := by decide +kernel
theorem dX1_clear_26 : decode cX1_clear 26 = .ok (.putfield 25, 3) := by decide +kernel
theorem dX1_clear_29 : decode cX1_clear 29 = .ok (.return_, 1) := by decide +kernel
theorem dX1_offer_0 : decode cX1_offer 0 = .ok (.iload_n 1, 1) := by decide +kernel
theorem dX1_offer_1 : decode cX1_offer 1 = .ok (.iconst 4, 1) := by decide +kernel
theorem dX1_offer_2 : decode cX1_offer 2 = .ok (.imul, 1) := by decide +kernel
theorem dX1_offer_3 : decode cX1_offer 3 = .ok (.iload_n 2, 1) := by decide +kernel
theorem dX1_offer_4 : decode cX1_offer 4 = .ok (.iadd, 1) := by decide +kernel
theorem dX1_offer_5 : decode cX1_offer 5 = .ok (.istore 5, 2) := by decide +kernel
theorem dX1_offer_7 : decode cX1_offer 7 = .ok (.aload_n 0, 1) := by decide +kernel
theorem dX1_offer_8 : decode cX1_offer 8 = .ok (.getfield 11, 3) := by decide +kernel
theorem dX1_offer_11 : decode cX1_offer 11 = .ok (.iload 5, 2) := by decide +kernel
theorem dX1_offer_13 : decode cX1_offer 13 = .ok (.iload_n 3, 1) := by decide +kernel
theorem dX1_offer_14 : decode cX1_offer 14 = .ok (.iastore, 1) := by decide +kernel
theorem dX1_offer_15 : decode cX1_offer 15 = .ok (.aload_n 0, 1) := by decide +kernel
theorem dX1_offer_16 : decode cX1_offer 16 = .ok (.getfield 15, 3) := by decide +kernel
theorem dX1_offer_19 : decode cX1_offer 19 = .ok (.iload 5, 2) := by decide +kernel
theorem dX1_offer_21 : decode cX1_offer 21 = .ok (.iload_n 2, 1) := by decide +kernel
theorem dX1_offer_22 : decode cX1_offer 22 = .ok (.bipush 20, 2) := by decide +kernel
theorem dX1_offer_24 : decode cX1_offer 24 = .ok (.ishl, 1) := by decide +kernel
theorem dX1_offer_25 : decode cX1_offer 25 = .ok (.iload 4, 2) := by decide +kernel
theorem dX1_offer_27 : decode cX1_offer 27 = .ok (.bipush 16, 2) := by decide +kernel
theorem dX1_offer_29 : decode cX1_offer 29 = .ok (.ishl, 1) := by decide +kernel
theorem dX1_offer_30 : decode cX1_offer 30 = .ok (.iadd, 1) := by decide +kernel
theorem dX1_offer_31 : decode cX1_offer 31 = .ok (.iload_n 2, 1) := by decide +kernel
theorem dX1_offer_32 : decode cX1_offer 32 = .ok (.iload_n 1, 1) := by decide +kernel
theorem dX1_offer_33 : decode cX1_offer 33 = .ok (.invokestatic 21, 3) := by decide +kernel
theorem dX1_offer_36 : decode cX1_offer 36 = .ok (.ishl, 1) := by decide +kernel
theorem dX1_offer_37 : decode cX1_offer 37 = .ok (.iadd, 1) := by decide +kernel
theorem dX1_offer_38 : decode cX1_offer 38 = .ok (.iastore, 1) := by decide +kernel
theorem dX1_offer_39 : decode cX1_offer 39 = .ok (.aload_n 0, 1) := by decide +kernel
theorem dX1_offer_40 : decode cX1_offer 40 = .ok (.aload_n 0, 1) := by decide +kernel
theorem dX1_offer_41 : decode cX1_offer 41 = .ok (.getfield 25, 3) := by decide +kernel
theorem dX1_offer_44 : decode cX1_offer 44 = .ok (.iconst 2, 1) := by decide +kernel
theorem dX1_offer_45 : decode cX1_offer 45 = .ok (.iload_n 3, 1) := by decide +kernel
theorem dX1_offer_46 : decode cX1_offer 46 = .ok (.ishl, 1) := by decide +kernel
theorem dX1_offer_47 : decode cX1_offer 47 = .ok (.invokestatic 29, 3) := by decide +kernel
theorem dX1_offer_50 : decode cX1_offer 50 = .ok (.putfield 25, 3) := by decide +kernel
theorem dX1_offer_53 : decode cX1_offer 53 = .ok (.return_, 1) := by decide +kernel
theorem dX1_leastKey_0 : decode cX1_leastKey 0 = .ok (.iconst (-1), 1) := by decide +kernel
theorem dX1_leastKey_1 : decode cX1_leastKey 1 = .ok (.istore_n 2, 1) := by decide +kernel
theorem dX1_leastKey_2 : decode cX1_leastKey 2 = .ok (.aload_n 0, 1) := by decide +kernel
theorem dX1_leastKey_3 : decode cX1_leastKey 3 = .ok (.getfield 18, 3) := by decide +kernel
theorem dX1_leastKey_6 : decode cX1_leastKey 6 = .ok (.iconst 0, 1) := by decide +kernel
theorem dX1_leastKey_7 : decode cX1_leastKey 7 = .ok (.iconst 0, 1) := by decide +kernel
theorem dX1_leastKey_8 : decode cX1_leastKey 8 = .ok (.iastore, 1) := by decide +kernel
theorem dX1_leastKey_9 : decode cX1_leastKey 9 = .ok (.iconst 0, 1) := by decide +kernel
theorem dX1_leastKey_10 : decode cX1_leastKey 10 = .ok (.istore_n 3, 1) := by decide +kernel
theorem dX1_leastKey_11 : decode cX1_leastKey 11 = .ok (.iload_n 3, 1) := by decide +kernel
theorem dX1_leastKey_12 : decode cX1_leastKey 12 = .ok (.aload_n 0, 1) := by decide +kernel
theorem dX1_leastKey_13 : decode cX1_leastKey 13 = .ok (.getfield 25, 3) := by decide +kernel
theorem dX1_leastKey_16 : decode cX1_leastKey 16 = .ok (.if_icmp .ge 71, 3) := by decide +kernel
theorem dX1_leastKey_19 : decode cX1_leastKey 19 = .ok (.aload_n 0, 1) := by decide +kernel
theorem dX1_leastKey_20 : decode cX1_leastKey 20 = .ok (.getfield 18, 3) := by decide +kernel
theorem dX1_leastKey_23 : decode cX1_leastKey 23 = .ok (.iload_n 3, 1) := by decide +kernel
theorem dX1_leastKey_24 : decode cX1_leastKey 24 = .ok (.iaload, 1) := by decide +kernel
theorem dX1_leastKey_25 : decode cX1_leastKey 25 = .ok (.istore 4, 2) := by decide +kernel
theorem dX1_leastKey_27 : decode cX1_leastKey 27 = .ok (.aload_n 0, 1) := by decide +kernel
theorem dX1_leastKey_28 : decode cX1_leastKey 28 = .ok (.getfield 18, 3) := by decide +kernel
theorem dX1_leastKey_31 : decode cX1_leastKey 31 = .ok (.iload_n 3, 1) := by decide +kernel
theorem dX1_leastKey_32 : decode cX1_leastKey 32 = .ok (.iconst (-1), 1) := by decide +kernel
theorem dX1_leastKey_33 : decode cX1_leastKey 33 = .ok (.iastore, 1) := by decide +kernel
theorem dX1_leastKey_34 : decode cX1_leastKey 34 = .ok (.iload 4, 2) := by decide +kernel
theorem dX1_leastKey_36 : decode cX1_leastKey 36 = .ok (.iconst (-1), 1) := by decide +kernel
theorem dX1_leastKey_37 : decode cX1_leastKey 37 = .ok (.if_icmp .ne 6, 3) := by decide +kernel
theorem dX1_leastKey_40 : decode cX1_leastKey 40 = .ok (.goto 41, 3) := by decide +kernel
theorem dX1_leastKey_43 : decode cX1_leastKey 43 = .ok (.iload_n 3, 1) := by decide +kernel
theorem dX1_leastKey_44 : decode cX1_leastKey 44 = .ok (.invokestatic 35, 3) := by decide +kernel
theorem dX1_leastKey_47 : decode cX1_leastKey 47 = .ok (.istore 5, 2) := by decide +kernel
theorem dX1_leastKey_49 : decode cX1_leastKey 49 = .ok (.iload 5, 2) := by decide +kernel
theorem dX1_leastKey_51 : decode cX1_leastKey 51 = .ok (.iload_n 1, 1) := by decide +kernel
theorem dX1_leastKey_52 : decode cX1_leastKey 52 = .ok (.if_icmp .ge 15, 3) := by decide +kernel
theorem dX1_leastKey_55 : decode cX1_leastKey 55 = .ok (.aload_n 0, 1) := by decide +kernel
theorem dX1_leastKey_56 : decode cX1_leastKey 56 = .ok (.iload 5, 2) := by decide +kernel
theorem dX1_leastKey_58 : decode cX1_leastKey 58 = .ok (.iload_n 3, 1) := by decide +kernel
theorem dX1_leastKey_59 : decode cX1_leastKey 59 = .ok (.iload 4, 2) := by decide +kernel
theorem dX1_leastKey_61 : decode cX1_leastKey 61 = .ok (.invokevirtual 40, 3) := by decide +kernel
theorem dX1_leastKey_64 : decode cX1_leastKey 64 = .ok (.goto 17, 3) := by decide +kernel
theorem dX1_leastKey_67 : decode cX1_leastKey 67 = .ok (.iload_n 2, 1) := by decide +kernel
theorem dX1_leastKey_68 : decode cX1_leastKey 68 = .ok (.iconst (-1), 1) := by decide +kernel
theorem dX1_leastKey_69 : decode cX1_leastKey 69 = .ok (.if_icmp .eq 9, 3) := by decide +kernel
theorem dX1_leastKey_72 : decode cX1_leastKey 72 = .ok (.iload 4, 2) := by decide +kernel
theorem dX1_leastKey_74 : decode cX1_leastKey 74 = .ok (.iload_n 2, 1) := by decide +kernel
theorem dX1_leastKey_75 : decode cX1_leastKey 75 = .ok (.if_icmp .ge 6, 3) := by decide +kernel
theorem dX1_leastKey_78 : decode cX1_leastKey 78 = .ok (.iload 4, 2) := by decide +kernel
theorem dX1_leastKey_80 : decode cX1_leastKey 80 = .ok (.istore_n 2, 1) := by decide +kernel
theorem dX1_leastKey_81 : decode cX1_leastKey 81 = .ok (.iinc 3 1, 3) := by decide +kernel
theorem dX1_leastKey_84 : decode cX1_leastKey 84 = .ok (.goto (-73), 3) := by decide +kernel
theorem dX1_leastKey_87 : decode cX1_leastKey 87 = .ok (.iload_n 2, 1) := by decide +kernel
theorem dX1_leastKey_88 : decode cX1_leastKey 88 = .ok (.ireturn, 1) := by decide +kernel
theorem dX1_castPart_0 : decode cX1_castPart 0 = .ok (.iconst 0, 1) := by decide +kernel
theorem dX1_castPart_1 : decode cX1_castPart 1 = .ok (.istore 4, 2) := by decide +kernel
theorem dX1_castPart_3 : decode cX1_castPart 3 = .ok (.iload 4, 2) := by decide +kernel
theorem dX1_castPart_5 : decode cX1_castPart 5 = .ok (.iconst 4, 1) := by decide +kernel
theorem dX1_castPart_6 : decode cX1_castPart 6 = .ok (.if_icmp .ge 92, 3) := by decide +kernel
theorem dX1_castPart_9 : decode cX1_castPart 9 = .ok (.iload_n 1, 1) := by decide +kernel
theorem dX1_castPart_10 : decode cX1_castPart 10 = .ok (.iconst 4, 1) := by decide +kernel
theorem dX1_castPart_11 : decode cX1_castPart 11 = .ok (.imul, 1) := by decide +kernel
theorem dX1_castPart_12 : decode cX1_castPart 12 = .ok (.iload 4, 2) := by decide +kernel
theorem dX1_castPart_14 : decode cX1_castPart 14 = .ok (.iadd, 1) := by decide +kernel
theorem dX1_castPart_15 : decode cX1_castPart 15 = .ok (.istore 5, 2) := by decide +kernel
theorem dX1_castPart_17 : decode cX1_castPart 17 = .ok (.aload_n 0, 1) := by decide +kernel
theorem dX1_castPart_18 : decode cX1_castPart 18 = .ok (.getfield 11, 3) := by decide +kernel
theorem dX1_castPart_21 : decode cX1_castPart 21 = .ok (.iload 5, 2) := by decide +kernel
theorem dX1_castPart_23 : decode cX1_castPart 23 = .ok (.iaload, 1) := by decide +kernel
theorem dX1_castPart_24 : decode cX1_castPart 24 = .ok (.istore 6, 2) := by decide +kernel
theorem dX1_castPart_26 : decode cX1_castPart 26 = .ok (.iload 6, 2) := by decide +kernel
theorem dX1_castPart_28 : decode cX1_castPart 28 = .ok (.iconst (-1), 1) := by decide +kernel
theorem dX1_castPart_29 : decode cX1_castPart 29 = .ok (.if_icmp .eq 63, 3) := by decide +kernel
theorem dX1_castPart_32 : decode cX1_castPart 32 = .ok (.iload_n 2, 1) := by decide +kernel
theorem dX1_castPart_33 : decode cX1_castPart 33 = .ok (.iload 6, 2) := by decide +kernel
theorem dX1_castPart_35 : decode cX1_castPart 35 = .ok (.invokestatic 44, 3) := by decide +kernel
theorem dX1_castPart_38 : decode cX1_castPart 38 = .ok (.ifCond .ne 54, 3) := by decide +kernel
theorem dX1_castPart_41 : decode cX1_castPart 41 = .ok (.iload_n 2, 1) := by decide +kernel
theorem dX1_castPart_42 : decode cX1_castPart 42 = .ok (.iload 6, 2) := by decide +kernel
theorem dX1_castPart_44 : decode cX1_castPart 44 = .ok (.invokestatic 48, 3) := by decide +kernel
theorem dX1_castPart_47 : decode cX1_castPart 47 = .ok (.istore 7, 2) := by decide +kernel
theorem dX1_castPart_49 : decode cX1_castPart 49 = .ok (.iload_n 3, 1) := by decide +kernel
theorem dX1_castPart_50 : decode cX1_castPart 50 = .ok (.aload_n 0, 1) := by decide +kernel
theorem dX1_castPart_51 : decode cX1_castPart 51 = .ok (.getfield 15, 3) := by decide +kernel
theorem dX1_castPart_54 : decode cX1_castPart 54 = .ok (.iload 5, 2) := by decide +kernel
theorem dX1_castPart_56 : decode cX1_castPart 56 = .ok (.iaload, 1) := by decide +kernel
theorem dX1_castPart_57 : decode cX1_castPart 57 = .ok (.iadd, 1) := by decide +kernel
theorem dX1_castPart_58 : decode cX1_castPart 58 = .ok (.istore 8, 2) := by decide +kernel
theorem dX1_castPart_60 : decode cX1_castPart 60 = .ok (.aload_n 0, 1) := by decide +kernel
theorem dX1_castPart_61 : decode cX1_castPart 61 = .ok (.getfield 18, 3) := by decide +kernel
theorem dX1_castPart_64 : decode cX1_castPart 64 = .ok (.iload 7, 2) := by decide +kernel
theorem dX1_castPart_66 : decode cX1_castPart 66 = .ok (.iaload, 1) := by decide +kernel
theorem dX1_castPart_67 : decode cX1_castPart 67 = .ok (.iconst (-1), 1) := by decide +kernel
theorem dX1_castPart_68 : decode cX1_castPart 68 = .ok (.if_icmp .eq 15, 3) := by decide +kernel
theorem dX1_castPart_71 : decode cX1_castPart 71 = .ok (.iload 8, 2) := by decide +kernel
theorem dX1_castPart_73 : decode cX1_castPart 73 = .ok (.aload_n 0, 1) := by decide +kernel
theorem dX1_castPart_74 : decode cX1_castPart 74 = .ok (.getfield 18, 3) := by decide +kernel
theorem dX1_castPart_77 : decode cX1_castPart 77 = .ok (.iload 7, 2) := by decide +kernel
theorem dX1_castPart_79 : decode cX1_castPart 79 = .ok (.iaload, 1) := by decide +kernel
theorem dX1_castPart_80 : decode cX1_castPart 80 = .ok (.if_icmp .ge 12, 3) := by decide +kernel
theorem dX1_castPart_83 : decode cX1_castPart 83 = .ok (.aload_n 0, 1) := by decide +kernel
theorem dX1_castPart_84 : decode cX1_castPart 84 = .ok (.getfield 18, 3) := by decide +kernel
theorem dX1_castPart_87 : decode cX1_castPart 87 = .ok (.iload 7, 2) := by decide +kernel
theorem dX1_castPart_89 : decode cX1_castPart 89 = .ok (.iload 8, 2) := by decide +kernel
theorem dX1_castPart_91 : decode cX1_castPart 91 = .ok (.iastore, 1) := by decide +kernel
theorem dX1_castPart_92 : decode cX1_castPart 92 = .ok (.iinc 4 1, 3) := by decide +kernel
theorem dX1_castPart_95 : decode cX1_castPart 95 = .ok (.goto (-92), 3) := by decide +kernel
theorem dX1_castPart_98 : decode cX1_castPart 98 = .ok (.return_, 1) := by decide +kernel
theorem dX1_leastStrain_0 : decode cX1_leastStrain 0 = .ok (.aload_n 0, 1) := by decide +kernel
theorem dX1_leastStrain_1 : decode cX1_leastStrain 1 = .ok (.getfield 11, 3) := by decide +kernel
theorem dX1_leastStrain_4 : decode cX1_leastStrain 4 = .ok (.iload_n 1, 1) := by decide +kernel
theorem dX1_leastStrain_5 : decode cX1_leastStrain 5 = .ok (.iconst 0, 1) := by decide +kernel
theorem dX1_leastStrain_6 : decode cX1_leastStrain 6 = .ok (.iconst 0, 1) := by decide +kernel
theorem dX1_leastStrain_7 : decode cX1_leastStrain 7 = .ok (.invokestatic 51, 3) := by decide +kernel
theorem dX1_leastStrain_10 : decode cX1_leastStrain 10 = .ok (.ireturn, 1) := by decide +kernel
theorem dX1_leastFrom_0 : decode cX1_leastFrom 0 = .ok (.iload_n 2, 1) := by decide +kernel
theorem dX1_leastFrom_1 : decode cX1_leastFrom 1 = .ok (.iload_n 1, 1) := by decide +kernel
theorem dX1_leastFrom_2 : decode cX1_leastFrom 2 = .ok (.if_icmp .ge 9, 3) := by decide +kernel
theorem dX1_leastFrom_5 : decode cX1_leastFrom 5 = .ok (.iload_n 2, 1) := by decide +kernel
theorem dX1_leastFrom_6 : decode cX1_leastFrom 6 = .ok (.bipush 8, 2) := by decide +kernel
theorem dX1_leastFrom_8 : decode cX1_leastFrom 8 = .ok (.if_icmp .lt 5, 3) := by decide +kernel
theorem dX1_leastFrom_11 : decode cX1_leastFrom 11 = .ok (.iconst 0, 1) := by decide +kernel
theorem dX1_leastFrom_12 : decode cX1_leastFrom 12 = .ok (.ireturn, 1) := by decide +kernel
theorem dX1_leastFrom_13 : decode cX1_leastFrom 13 = .ok (.iconst (-1), 1) := by decide +kernel
theorem dX1_leastFrom_14 : decode cX1_leastFrom 14 = .ok (.istore 4, 2) := by decide +kernel
theorem dX1_leastFrom_16 : decode cX1_leastFrom 16 = .ok (.iconst 0, 1) := by decide +kernel
theorem dX1_leastFrom_17 : decode cX1_leastFrom 17 = .ok (.istore 5, 2) := by decide +kernel
theorem dX1_leastFrom_19 : decode cX1_leastFrom 19 = .ok (.iload 5, 2) := by decide +kernel
theorem dX1_leastFrom_21 : decode cX1_leastFrom 21 = .ok (.iconst 4, 1) := by decide +kernel
theorem dX1_leastFrom_22 : decode cX1_leastFrom 22 = .ok (.if_icmp .ge 82, 3) := by decide +kernel
theorem dX1_leastFrom_25 : decode cX1_leastFrom 25 = .ok (.aload_n 0, 1) := by decide +kernel
theorem dX1_leastFrom_26 : decode cX1_leastFrom 26 = .ok (.iload_n 2, 1) := by decide +kernel
theorem dX1_leastFrom_27 : decode cX1_leastFrom 27 = .ok (.iconst 4, 1) := by decide +kernel
theorem dX1_leastFrom_28 : decode cX1_leastFrom 28 = .ok (.imul, 1) := by decide +kernel
theorem dX1_leastFrom_29 : decode cX1_leastFrom 29 = .ok (.iload 5, 2) := by decide +kernel
theorem dX1_leastFrom_31 : decode cX1_leastFrom 31 = .ok (.iadd, 1) := by decide +kernel
theorem dX1_leastFrom_32 : decode cX1_leastFrom 32 = .ok (.iaload, 1) := by decide +kernel
theorem dX1_leastFrom_33 : decode cX1_leastFrom 33 = .ok (.istore 6, 2) := by decide +kernel
theorem dX1_leastFrom_35 : decode cX1_leastFrom 35 = .ok (.iload 6, 2) := by decide +kernel
theorem dX1_leastFrom_37 : decode cX1_leastFrom 37 = .ok (.iconst (-1), 1) := by decide +kernel
theorem dX1_leastFrom_38 : decode cX1_leastFrom 38 = .ok (.if_icmp .eq 60, 3) := by decide +kernel
theorem dX1_leastFrom_41 : decode cX1_leastFrom 41 = .ok (.iload_n 3, 1) := by decide +kernel
theorem dX1_leastFrom_42 : decode cX1_leastFrom 42 = .ok (.iload 6, 2) := by decide +kernel
theorem dX1_leastFrom_44 : decode cX1_leastFrom 44 = .ok (.invokestatic 44, 3) := by decide +kernel
theorem dX1_leastFrom_47 : decode cX1_leastFrom 47 = .ok (.ifCond .eq 6, 3) := by decide +kernel
theorem dX1_leastFrom_50 : decode cX1_leastFrom 50 = .ok (.goto 48, 3) := by decide +kernel
theorem dX1_leastFrom_53 : decode cX1_leastFrom 53 = .ok (.aload_n 0, 1) := by decide +kernel
theorem dX1_leastFrom_54 : decode cX1_leastFrom 54 = .ok (.iload_n 1, 1) := by decide +kernel
theorem dX1_leastFrom_55 : decode cX1_leastFrom 55 = .ok (.iload_n 2, 1) := by decide +kernel
theorem dX1_leastFrom_56 : decode cX1_leastFrom 56 = .ok (.iconst 1, 1) := by decide +kernel
theorem dX1_leastFrom_57 : decode cX1_leastFrom 57 = .ok (.iadd, 1) := by decide +kernel
theorem dX1_leastFrom_58 : decode cX1_leastFrom 58 = .ok (.iload_n 3, 1) := by decide +kernel
theorem dX1_leastFrom_59 : decode cX1_leastFrom 59 = .ok (.iload 6, 2) := by decide +kernel
theorem dX1_leastFrom_61 : decode cX1_leastFrom 61 = .ok (.invokestatic 48, 3) := by decide +kernel
theorem dX1_leastFrom_64 : decode cX1_leastFrom 64 = .ok (.invokestatic 51, 3) := by decide +kernel
theorem dX1_leastFrom_67 : decode cX1_leastFrom 67 = .ok (.istore 7, 2) := by decide +kernel
theorem dX1_leastFrom_69 : decode cX1_leastFrom 69 = .ok (.iload 7, 2) := by decide +kernel
theorem dX1_leastFrom_71 : decode cX1_leastFrom 71 = .ok (.iconst (-1), 1) := by decide +kernel
theorem dX1_leastFrom_72 : decode cX1_leastFrom 72 = .ok (.if_icmp .eq 26, 3) := by decide +kernel
theorem dX1_leastFrom_75 : decode cX1_leastFrom 75 = .ok (.iload 4, 2) := by decide +kernel
theorem dX1_leastFrom_77 : decode cX1_leastFrom 77 = .ok (.iconst (-1), 1) := by decide +kernel
theorem dX1_leastFrom_78 : decode cX1_leastFrom 78 = .ok (.if_icmp .eq 13, 3) := by decide +kernel
theorem dX1_leastFrom_81 : decode cX1_leastFrom 81 = .ok (.iload 5, 2) := by decide +kernel
theorem dX1_leastFrom_83 : decode cX1_leastFrom 83 = .ok (.iload 7, 2) := by decide +kernel
theorem dX1_leastFrom_85 : decode cX1_leastFrom 85 = .ok (.iadd, 1) := by decide +kernel
theorem dX1_leastFrom_86 : decode cX1_leastFrom 86 = .ok (.iload 4, 2) := by decide +kernel
theorem dX1_leastFrom_88 : decode cX1_leastFrom 88 = .ok (.if_icmp .ge 10, 3) := by decide +kernel
theorem dX1_leastFrom_91 : decode cX1_leastFrom 91 = .ok (.iload 5, 2) := by decide +kernel
theorem dX1_leastFrom_93 : decode cX1_leastFrom 93 = .ok (.iload 7, 2) := by decide +kernel
theorem dX1_leastFrom_95 : decode cX1_leastFrom 95 = .ok (.iadd, 1) := by decide +kernel
theorem dX1_leastFrom_96 : decode cX1_leastFrom 96 = .ok (.istore 4, 2) := by decide +kernel
theorem dX1_leastFrom_98 : decode cX1_leastFrom 98 = .ok (.iinc 5 1, 3) := by decide +kernel
theorem dX1_leastFrom_101 : decode cX1_leastFrom 101 = .ok (.goto (-82), 3) := by decide +kernel
theorem dX1_leastFrom_104 : decode cX1_leastFrom 104 = .ok (.iload 4, 2) := by decide +kernel
theorem dX1_leastFrom_106 : decode cX1_leastFrom 106 = .ok (.ireturn, 1) := by decide +kernel
theorem dX2_init_0 : decode cX2_init 0 = .ok (.aload_n 0, 1) := by decide +kernel
theorem dX2_init_1 : decode cX2_init 1 = .ok (.invokespecial 3, 3) := by decide +kernel
theorem dX2_init_4 : decode cX2_init 4 = .ok (.aload_n 0, 1) := by decide +kernel
theorem dX2_init_5 : decode cX2_init 5 = .ok (.bipush 40, 2) := by decide +kernel
theorem dX2_init_7 : decode cX2_init 7 = .ok (.newarray .int, 2) := by decide +kernel
theorem dX2_init_9 : decode cX2_init 9 = .ok (.putfield 9, 3) := by decide +kernel
theorem dX2_init_12 : decode cX2_init 12 = .ok (.aload_n 0, 1) := by decide +kernel
theorem dX2_init_13 : decode cX2_init 13 = .ok (.sipush 320, 3) := by decide +kernel
theorem dX2_init_16 : decode cX2_init 16 = .ok (.newarray .int, 2) := by decide +kernel
theorem dX2_init_18 : decode cX2_init 18 = .ok (.putfield 15, 3) := by decide +kernel
theorem dX2_init_21 : decode cX2_init 21 = .ok (.aload_n 0, 1) := by decide +kernel
theorem dX2_init_22 : decode cX2_init 22 = .ok (.bipush 40, 2) := by decide +kernel
theorem dX2_init_24 : decode cX2_init 24 = .ok (.newarray .int, 2) := by decide +kernel
theorem dX2_init_26 : decode cX2_init 26 = .ok (.putfield 18, 3) := by decide +kernel
theorem dX2_init_29 : decode cX2_init 29 = .ok (.iconst 0, 1) := by decide +kernel
theorem dX2_init_30 : decode cX2_init 30 = .ok (.istore_n 1, 1) := by decide +kernel
theorem dX2_init_31 : decode cX2_init 31 = .ok (.iload_n 1, 1) := by decide +kernel
theorem dX2_init_32 : decode cX2_init 32 = .ok (.aload_n 0, 1) := by decide +kernel
theorem dX2_init_33 : decode cX2_init 33 = .ok (.getfield 15, 3) := by decide +kernel
theorem dX2_init_36 : decode cX2_init 36 = .ok (.arraylength, 1) := by decide +kernel
theorem dX2_init_37 : decode cX2_init 37 = .ok (.if_icmp .ge 16, 3) := by decide +kernel
theorem dX2_init_40 : decode cX2_init 40 = .ok (.aload_n 0, 1) := by decide +kernel
theorem dX2_init_41 : decode cX2_init 41 = .ok (.getfield 15, 3) := by decide +kernel
theorem dX2_init_44 : decode cX2_init 44 = .ok (.iload_n 1, 1) := by decide +kernel
theorem dX2_init_45 : decode cX2_init 45 = .ok (.iconst (-1), 1) := by decide +kernel
theorem dX2_init_46 : decode cX2_init 46 = .ok (.iastore, 1) := by decide +kernel
theorem dX2_init_47 : decode cX2_init 47 = .ok (.iinc 1 1, 3) := by decide +kernel
theorem dX2_init_50 : decode cX2_init 50 = .ok (.goto (-19), 3) := by decide +kernel
theorem dX2_init_53 : decode cX2_init 53 = .ok (.return_, 1) := by decide +kernel
theorem dX3_init_0 : decode cX3_init 0 = .ok (.aload_n 0, 1) := by decide +kernel
theorem dX3_init_1 : decode cX3_init 1 = .ok (.invokespecial 3, 3) := by decide +kernel
theorem dX3_init_4 : decode cX3_init 4 = .ok (.aload_n 0, 1) := by decide +kernel
theorem dX3_init_5 : decode cX3_init 5 = .ok (.bipush 32, 2) := by decide +kernel
theorem dX3_init_7 : decode cX3_init 7 = .ok (.newarray .int, 2) := by decide +kernel
theorem dX3_init_9 : decode cX3_init 9 = .ok (.putfield 9, 3) := by decide +kernel
theorem dX3_init_12 : decode cX3_init 12 = .ok (.aload_n 0, 1) := by decide +kernel
theorem dX3_init_13 : decode cX3_init 13 = .ok (.bipush 8, 2) := by decide +kernel
theorem dX3_init_15 : decode cX3_init 15 = .ok (.newarray .int, 2) := by decide +kernel
theorem dX3_init_17 : decode cX3_init 17 = .ok (.putfield 15, 3) := by decide +kernel
theorem dX3_init_20 : decode cX3_init 20 = .ok (.return_, 1) := by decide +kernel
theorem dX3_actorAt_0 : decode cX3_actorAt 0 = .ok (.iload_n 2, 1) := by decide +kernel
theorem dX3_actorAt_1 : decode cX3_actorAt 1 = .ok (.aload_n 0, 1) := by decide +kernel
theorem dX3_actorAt_2 : decode cX3_actorAt 2 = .ok (.getfield 15, 3) := by decide +kernel
theorem dX3_actorAt_5 : decode cX3_actorAt 5 = .ok (.iload_n 1, 1) := by decide +kernel
theorem dX3_actorAt_6 : decode cX3_actorAt 6 = .ok (.iaload, 1) := by decide +kernel
theorem dX3_actorAt_7 : decode cX3_actorAt 7 = .ok (.if_icmp .ge 16, 3) := by decide +kernel
theorem dX3_actorAt_10 : decode cX3_actorAt 10 = .ok (.aload_n 0, 1) := by decide +kernel
theorem dX3_actorAt_11 : decode cX3_actorAt 11 = .ok (.getfield 9, 3) := by decide +kernel
theorem dX3_actorAt_14 : decode cX3_actorAt 14 = .ok (.iload_n 1, 1) := by decide +kernel
theorem dX3_actorAt_15 : decode cX3_actorAt 15 = .ok (.iconst 4, 1) := by decide +kernel
theorem dX3_actorAt_16 : decode cX3_actorAt 16 = .ok (.imul, 1) := by decide +kernel
theorem dX3_actorAt_17 : decode cX3_actorAt 17 = .ok (.iload_n 2, 1) := by decide +kernel
theorem dX3_actorAt_18 : decode cX3_actorAt 18 = .ok (.iadd, 1) := by decide +kernel
theorem dX3_actorAt_19 : decode cX3_actorAt 19 = .ok (.iaload, 1) := by decide +kernel
theorem dX3_actorAt_20 : decode cX3_actorAt 20 = .ok (.goto 4, 3) := by decide +kernel
theorem dX3_actorAt_23 : decode cX3_actorAt 23 = .ok (.iconst (-1), 1) := by decide +kernel
theorem dX3_actorAt_24 : decode cX3_actorAt 24 = .ok (.ireturn, 1) := by decide +kernel
theorem dX3_rankIn_0 : decode cX3_rankIn 0 = .ok (.iconst 0, 1) := by decide +kernel
theorem dX3_rankIn_1 : decode cX3_rankIn 1 = .ok (.istore_n 3, 1) := by decide +kernel
theorem dX3_rankIn_2 : decode cX3_rankIn 2 = .ok (.iload_n 3, 1) := by decide +kernel
theorem dX3_rankIn_3 : decode cX3_rankIn 3 = .ok (.aload_n 0, 1) := by decide +kernel
theorem dX3_rankIn_4 : decode cX3_rankIn 4 = .ok (.getfield 15, 3) := by decide +kernel
theorem dX3_rankIn_7 : decode cX3_rankIn 7 = .ok (.iload_n 1, 1) := by decide +kernel
theorem dX3_rankIn_8 : decode cX3_rankIn 8 = .ok (.iaload, 1) := by decide +kernel
theorem dX3_rankIn_9 : decode cX3_rankIn 9 = .ok (.if_icmp .ge 25, 3) := by decide +kernel
theorem dX3_rankIn_12 : decode cX3_rankIn 12 = .ok (.aload_n 0, 1) := by decide +kernel
theorem dX3_rankIn_13 : decode cX3_rankIn 13 = .ok (.getfield 9, 3) := by decide +kernel
theorem dX3_rankIn_16 : decode cX3_rankIn 16 = .ok (.iload_n 1, 1) := by decide +kernel
theorem dX3_rankIn_17 : decode cX3_rankIn 17 = .ok (.iconst 4, 1) := by decide +kernel
theorem dX3_rankIn_18 : decode cX3_rankIn 18 = .ok (.imul, 1) := by decide +kernel
theorem dX3_rankIn_19 : decode cX3_rankIn 19 = .ok (.iload_n 3, 1) := by decide +kernel
theorem dX3_rankIn_20 : decode cX3_rankIn 20 = .ok (.iadd, 1) := by decide +kernel
theorem dX3_rankIn_21 : decode cX3_rankIn 21 = .ok (.iaload, 1) := by decide +kernel
theorem dX3_rankIn_22 : decode cX3_rankIn 22 = .ok (.iload_n 2, 1) := by decide +kernel
theorem dX3_rankIn_23 : decode cX3_rankIn 23 = .ok (.if_icmp .ne 5, 3) := by decide +kernel
theorem dX3_rankIn_26 : decode cX3_rankIn 26 = .ok (.iload_n 3, 1) := by decide +kernel
theorem dX3_rankIn_27 : decode cX3_rankIn 27 = .ok (.ireturn, 1) := by decide +kernel
theorem dX3_rankIn_28 : decode cX3_rankIn 28 = .ok (.iinc 3 1, 3) := by decide +kernel
theorem dX3_rankIn_31 : decode cX3_rankIn 31 = .ok (.goto (-29), 3) := by decide +kernel
theorem dX3_rankIn_34 : decode cX3_rankIn 34 = .ok (.iconst (-1), 1) := by decide +kernel
theorem dX3_rankIn_35 : decode cX3_rankIn 35 = .ok (.ireturn, 1) := by decide +kernel
theorem dX3_isFull_0 : decode cX3_isFull 0 = .ok (.aload_n 0, 1) := by decide +kernel
theorem dX3_isFull_1 : decode cX3_isFull 1 = .ok (.getfield 15, 3) := by decide +kernel
theorem dX3_isFull_4 : decode cX3_isFull 4 = .ok (.iload_n 1, 1) := by decide +kernel
theorem dX3_isFull_5 : decode cX3_isFull 5 = .ok (.iaload, 1) := by decide +kernel
theorem dX3_isFull_6 : decode cX3_isFull 6 = .ok (.iconst 4, 1) := by decide +kernel
theorem dX3_isFull_7 : decode cX3_isFull 7 = .ok (.if_icmp .lt 7, 3) := by decide +kernel
theorem dX3_isFull_10 : decode cX3_isFull 10 = .ok (.iconst 1, 1) := by decide +kernel
theorem dX3_isFull_11 : decode cX3_isFull 11 = .ok (.goto 4, 3) := by decide +kernel
theorem dX3_isFull_14 : decode cX3_isFull 14 = .ok (.iconst 0, 1) := by decide +kernel
theorem dX3_isFull_15 : decode cX3_isFull 15 = .ok (.ireturn, 1) := by decide +kernel
theorem dX3_append_0 : decode cX3_append 0 = .ok (.aload_n 0, 1) := by decide +kernel
theorem dX3_append_1 : decode cX3_append 1 = .ok (.getfield 15, 3) := by decide +kernel
theorem dX3_append_4 : decode cX3_append 4 = .ok (.iload_n 1, 1) := by decide +kernel
theorem dX3_append_5 : decode cX3_append 5 = .ok (.iaload, 1) := by decide +kernel
theorem dX3_append_6 : decode cX3_append 6 = .ok (.istore_n 3, 1) := by decide +kernel
theorem dX3_append_7 : decode cX3_append 7 = .ok (.aload_n 0, 1) := by decide +kernel
theorem dX3_append_8 : decode cX3_append 8 = .ok (.getfield 9, 3) := by decide +kernel
theorem dX3_append_11 : decode cX3_append 11 = .ok (.iload_n 1, 1) := by decide +kernel
theorem dX3_append_12 : decode cX3_append 12 = .ok (.iconst 4, 1) := by decide +kernel
theorem dX3_append_13 : decode cX3_append 13 = .ok (.imul, 1) := by decide +kernel
theorem dX3_append_14 : decode cX3_append 14 = .ok (.iload_n 3, 1) := by decide +kernel
theorem dX3_append_15 : decode cX3_append 15 = .ok (.iadd, 1) := by decide +kernel
theorem dX3_append_16 : decode cX3_append 16 = .ok (.iload_n 2, 1) := by decide +kernel
theorem dX3_append_17 : decode cX3_append 17 = .ok (.iastore, 1) := by decide +kernel
theorem dX3_append_18 : decode cX3_append 18 = .ok (.aload_n 0, 1) := by decide +kernel
theorem dX3_append_19 : decode cX3_append 19 = .ok (.getfield 15, 3) := by decide +kernel
theorem dX3_append_22 : decode cX3_append 22 = .ok (.iload_n 1, 1) := by decide +kernel
theorem dX3_append_23 : decode cX3_append 23 = .ok (.iload_n 3, 1) := by decide +kernel
theorem dX3_append_24 : decode cX3_append 24 = .ok (.iconst 1, 1) := by decide +kernel
theorem dX3_append_25 : decode cX3_append 25 = .ok (.iadd, 1) := by decide +kernel
theorem dX3_append_26 : decode cX3_append 26 = .ok (.iastore, 1) := by decide +kernel
theorem dX3_append_27 : decode cX3_append 27 = .ok (.iload_n 3, 1) := by decide +kernel
theorem dX3_append_28 : decode cX3_append 28 = .ok (.ireturn, 1) := by decide +kernel
theorem dX3_remove_0 : decode cX3_remove 0 = .ok (.iload_n 2, 1) := by decide +kernel
theorem dX3_remove_1 : decode cX3_remove 1 = .ok (.iconst 1, 1) := by decide +kernel
theorem dX3_remove_2 : decode cX3_remove 2 = .ok (.iadd, 1) := by decide +kernel
theorem dX3_remove_3 : decode cX3_remove 3 = .ok (.istore_n 3, 1) := by decide +kernel
theorem dX3_remove_4 : decode cX3_remove 4 = .ok (.iload_n 3, 1) := by decide +kernel
theorem dX3_remove_5 : decode cX3_remove 5 = .ok (.aload_n 0, 1) := by decide +kernel
theorem dX3_remove_6 : decode cX3_remove 6 = .ok (.getfield 15, 3) := by decide +kernel
theorem dX3_remove_9 : decode cX3_remove 9 = .ok (.iload_n 1, 1) := by decide +kernel
theorem dX3_remove_10 : decode cX3_remove 10 = .ok (.iaload, 1) := by decide +kernel
theorem dX3_remove_11 : decode cX3_remove 11 = .ok (.if_icmp .ge 31, 3) := by decide +kernel
theorem dX3_remove_14 : decode cX3_remove 14 = .ok (.aload_n 0, 1) := by decide +kernel
theorem dX3_remove_15 : decode cX3_remove 15 = .ok (.getfield 9, 3) := by decide +kernel
theorem dX3_remove_18 : decode cX3_remove 18 = .ok (.iload_n 1, 1) := by decide +kernel
theorem dX3_remove_19 : decode cX3_remove 19 = .ok (.iconst 4, 1) := by decide +kernel
theorem dX3_remove_20 : decode cX3_remove 20 = .ok (.imul, 1) := by decide +kernel
theorem dX3_remove_21 : decode cX3_remove 21 = .ok (.iload_n 3, 1) := by decide +kernel
theorem dX3_remove_22 : decode cX3_remove 22 = .ok (.iadd, 1) := by decide +kernel
theorem dX3_remove_23 : decode cX3_remove 23 = .ok (.iconst 1, 1) := by decide +kernel
theorem dX3_remove_24 : decode cX3_remove 24 = .ok (.isub, 1) := by decide +kernel
theorem dX3_remove_25 : decode cX3_remove 25 = .ok (.aload_n 0, 1) := by decide +kernel
theorem dX3_remove_26 : decode cX3_remove 26 = .ok (.getfield 9, 3) := by decide +kernel
theorem dX3_remove_29 : decode cX3_remove 29 = .ok (.iload_n 1, 1) := by decide +kernel
theorem dX3_remove_30 : decode cX3_remove 30 = .ok (.iconst 4, 1) := by decide +kernel
theorem dX3_remove_31 : decode cX3_remove 31 = .ok (.imul, 1) := by decide +kernel
theorem dX3_remove_32 : decode cX3_remove 32 = .ok (.iload_n 3, 1) := by decide +kernel
theorem dX3_remove_33 : decode cX3_remove 33 = .ok (.iadd, 1) := by decide +kernel
theorem dX3_remove_34 : decode cX3_remove 34 = .ok (.iaload, 1) := by decide +kernel
theorem dX3_remove_35 : decode cX3_remove 35 = .ok (.iastore, 1) := by decide +kernel
theorem dX3_remove_36 : decode cX3_remove 36 = .ok (.iinc 3 1, 3) := by decide +kernel
theorem dX3_remove_39 : decode cX3_remove 39 = .ok (.goto (-35), 3) := by decide +kernel
theorem dX3_remove_42 : decode cX3_remove 42 = .ok (.aload_n 0, 1) := by decide +kernel
theorem dX3_remove_43 : decode cX3_remove 43 = .ok (.getfield 15, 3) := by decide +kernel
theorem dX3_remove_46 : decode cX3_remove 46 = .ok (.iload_n 1, 1) := by decide +kernel
theorem dX3_remove_47 : decode cX3_remove 47 = .ok (.dup2, 1) := by decide +kernel
theorem dX3_remove_48 : decode cX3_remove 48 = .ok (.iaload, 1) := by decide +kernel
theorem dX3_remove_49 : decode cX3_remove 49 = .ok (.iconst 1, 1) := by decide +kernel
theorem dX3_remove_50 : decode cX3_remove 50 = .ok (.isub, 1) := by decide +kernel
theorem dX3_remove_51 : decode cX3_remove 51 = .ok (.iastore, 1) := by decide +kernel
theorem dX3_remove_52 : decode cX3_remove 52 = .ok (.return_, 1) := by decide +kernel
theorem dX4_init_0 : decode cX4_init 0 = .ok (.aload_n 0, 1) := by decide +kernel
theorem dX4_init_1 : decode cX4_init 1 = .ok (.invokespecial 3, 3) := by decide +kernel
theorem dX4_init_4 : decode cX4_init 4 = .ok (.aload_n 0, 1) := by decide +kernel
theorem dX4_init_5 : decode cX4_init 5 = .ok (.bipush 12, 2) := by decide +kernel
theorem dX4_init_7 : decode cX4_init 7 = .ok (.newarray .int, 2) := by decide +kernel
theorem dX4_init_9 : decode cX4_init 9 = .ok (.putfield 9, 3) := by decide +kernel
theorem dX4_init_12 : decode cX4_init 12 = .ok (.aload_n 0, 1) := by decide +kernel
theorem dX4_init_13 : decode cX4_init 13 = .ok (.bipush 12, 2) := by decide +kernel
theorem dX4_init_15 : decode cX4_init 15 = .ok (.newarray .int, 2) := by decide +kernel
theorem dX4_init_17 : decode cX4_init 17 = .ok (.putfield 15, 3) := by decide +kernel
theorem dX4_init_20 : decode cX4_init 20 = .ok (.aload_n 0, 1) := by decide +kernel
theorem dX4_init_21 : decode cX4_init 21 = .ok (.sipush 1001, 3) := by decide +kernel
theorem dX4_init_24 : decode cX4_init 24 = .ok (.newarray .int, 2) := by decide +kernel
theorem dX4_init_26 : decode cX4_init 26 = .ok (.putfield 18, 3) := by decide +kernel
theorem dX4_init_29 : decode cX4_init 29 = .ok (.iconst 0, 1) := by decide +kernel
theorem dX4_init_30 : decode cX4_init 30 = .ok (.istore_n 1, 1) := by decide +kernel
theorem dX4_init_31 : decode cX4_init 31 = .ok (.iload_n 1, 1) := by decide +kernel
theorem dX4_init_32 : decode cX4_init 32 = .ok (.bipush 12, 2) := by decide +kernel
theorem dX4_init_34 : decode cX4_init 34 = .ok (.if_icmp .ge 16, 3) := by decide +kernel
theorem dX4_init_37 : decode cX4_init 37 = .ok (.aload_n 0, 1) := by decide +kernel
theorem dX4_init_38 : decode cX4_init 38 = .ok (.getfield 9, 3) := by decide +kernel
theorem dX4_init_41 : decode cX4_init 41 = .ok (.iload_n 1, 1) := by decide +kernel
theorem dX4_init_42 : decode cX4_init 42 = .ok (.iconst 5, 1) := by decide +kernel
theorem dX4_init_43 : decode cX4_init 43 = .ok (.iastore, 1) := by decide +kernel
theorem dX4_init_44 : decode cX4_init 44 = .ok (.iinc 1 1, 3) := by decide +kernel
theorem dX4_init_47 : decode cX4_init 47 = .ok (.goto (-16), 3) := by decide +kernel
theorem dX4_init_50 : decode cX4_init 50 = .ok (.return_, 1) := by decide +kernel
theorem dX4_fallIll_0 : decode cX4_fallIll 0 = .ok (.iconst 0, 1) := by decide +kernel
theorem dX4_fallIll_1 : decode cX4_fallIll 1 = .ok (.istore 4, 2) := by decide +kernel
theorem dX4_fallIll_3 : decode cX4_fallIll 3 = .ok (.iload_n 2, 1) := by decide +kernel
theorem dX4_fallIll_4 : decode cX4_fallIll 4 = .ok (.istore 5, 2) := by decide +kernel
theorem dX4_fallIll_6 : decode cX4_fallIll 6 = .ok (.iload 5, 2) := by decide +kernel
theorem dX4_fallIll_8 : decode cX4_fallIll 8 = .ok (.iload_n 3, 1) := by decide +kernel
theorem dX4_fallIll_9 : decode cX4_fallIll 9 = .ok (.if_icmp .gt 44, 3) := by decide +kernel
theorem dX4_fallIll_12 : decode cX4_fallIll 12 = .ok (.aload_n 0, 1) := by decide +kernel
theorem dX4_fallIll_13 : decode cX4_fallIll 13 = .ok (.getfield 18, 3) := by decide +kernel
theorem dX4_fallIll_16 : decode cX4_fallIll 16 = .ok (.iload 5, 2) := by decide +kernel
theorem dX4_fallIll_18 : decode cX4_fallIll 18 = .ok (.iaload, 1) := by decide +kernel
theorem dX4_fallIll_19 : decode cX4_fallIll 19 = .ok (.iload_n 1, 1) := by decide +kernel
theorem dX4_fallIll_20 : decode cX4_fallIll 20 = .ok (.invokestatic 21, 3) := by decide +kernel
theorem dX4_fallIll_23 : decode cX4_fallIll 23 = .ok (.ifCond .ne 24, 3) := by decide +kernel
theorem dX4_fallIll_26 : decode cX4_fallIll 26 = .ok (.aload_n 0, 1) := by decide +kernel
theorem dX4_fallIll_27 : decode cX4_fallIll 27 = .ok (.getfield 18, 3) := by decide +kernel
theorem dX4_fallIll_30 : decode cX4_fallIll 30 = .ok (.iload 5, 2) := by decide +kernel
theorem dX4_fallIll_32 : decode cX4_fallIll 32 = .ok (.aload_n 0, 1) := by decide +kernel
theorem dX4_fallIll_33 : decode cX4_fallIll 33 = .ok (.getfield 18, 3) := by decide +kernel
theorem dX4_fallIll_36 : decode cX4_fallIll 36 = .ok (.iload 5, 2) := by decide +kernel
theorem dX4_fallIll_38 : decode cX4_fallIll 38 = .ok (.iaload, 1) := by decide +kernel
theorem dX4_fallIll_39 : decode cX4_fallIll 39 = .ok (.iload_n 1, 1) := by decide +kernel
theorem dX4_fallIll_40 : decode cX4_fallIll 40 = .ok (.invokestatic 25, 3) := by decide +kernel
theorem dX4_fallIll_43 : decode cX4_fallIll 43 = .ok (.iastore, 1) := by decide +kernel
theorem dX4_fallIll_44 : decode cX4_fallIll 44 = .ok (.iinc 4 1, 3) := by decide +kernel
theorem dX4_fallIll_47 : decode cX4_fallIll 47 = .ok (.iinc 5 1, 3) := by decide +kernel
theorem dX4_fallIll_50 : decode cX4_fallIll 50 = .ok (.goto (-44), 3) := by decide +kernel
theorem dX4_fallIll_53 : decode cX4_fallIll 53 = .ok (.iload 4, 2) := by decide +kernel
theorem dX4_fallIll_55 : decode cX4_fallIll 55 = .ok (.ireturn, 1) := by decide +kernel
theorem dX5_init_0 : decode cX5_init 0 = .ok (.aload_n 0, 1) := by decide +kernel
theorem dX5_init_1 : decode cX5_init 1 = .ok (.invokespecial 3, 3) := by decide +kernel
theorem dX5_init_4 : decode cX5_init 4 = .ok (.aload_n 0, 1) := by decide +kernel
theorem dX5_init_5 : decode cX5_init 5 = .ok (.bipush 40, 2) := by decide +kernel
theorem dX5_init_7 : decode cX5_init 7 = .ok (.newarray .int, 2) := by decide +kernel
theorem dX5_init_9 : decode cX5_init 9 = .ok (.putfield 9, 3) := by decide +kernel
theorem dX5_init_12 : decode cX5_init 12 = .ok (.aload_n 0, 1) := by decide +kernel
theorem dX5_init_13 : decode cX5_init 13 = .ok (.bipush 40, 2) := by decide +kernel
theorem dX5_init_15 : decode cX5_init 15 = .ok (.newarray .int, 2) := by decide +kernel
theorem dX5_init_17 : decode cX5_init 17 = .ok (.putfield 15, 3) := by decide +kernel
theorem dX5_init_20 : decode cX5_init 20 = .ok (.aload_n 0, 1) := by decide +kernel
theorem dX5_init_21 : decode cX5_init 21 = .ok (.bipush 40, 2) := by decide +kernel
theorem dX5_init_23 : decode cX5_init 23 = .ok (.newarray .boolean, 2) := by decide +kernel
theorem dX5_init_25 : decode cX5_init 25 = .ok (.putfield 18, 3) := by decide +kernel
theorem dX5_init_28 : decode cX5_init 28 = .ok (.return_, 1) := by decide +kernel
theorem dX5_add_0 : decode cX5_add 0 = .ok (.aload_n 0, 1) := by decide +kernel
theorem dX5_add_1 : decode cX5_add 1 = .ok (.getfield 15, 3) := by decide +kernel
theorem dX5_add_4 : decode cX5_add 4 = .ok (.aload_n 0, 1) := by decide +kernel
theorem dX5_add_5 : decode cX5_add 5 = .ok (.getfield 22, 3) := by decide +kernel
theorem dX5_add_8 : decode cX5_add 8 = .ok (.iload_n 1, 1) := by decide +kernel
theorem dX5_add_9 : decode cX5_add 9 = .ok (.iastore, 1) := by decide +kernel
theorem dX5_add_10 : decode cX5_add 10 = .ok (.aload_n 0, 1) := by decide +kernel
theorem dX5_add_11 : decode cX5_add 11 = .ok (.getfield 9, 3) := by decide +kernel
theorem dX5_add_14 : decode cX5_add 14 = .ok (.aload_n 0, 1) := by decide +kernel
theorem dX5_add_15 : decode cX5_add 15 = .ok (.getfield 22, 3) := by decide +kernel
theorem dX5_add_18 : decode cX5_add 18 = .ok (.iload_n 2, 1) := by decide +kernel
theorem dX5_add_19 : decode cX5_add 19 = .ok (.iastore, 1) := by decide +kernel
theorem dX5_add_20 : decode cX5_add 20 = .ok (.aload_n 0, 1) := by decide +kernel
theorem dX5_add_21 : decode cX5_add 21 = .ok (.dup, 1) := by decide +kernel
theorem dX5_add_22 : decode cX5_add 22 = .ok (.getfield 22, 3) := by decide +kernel
theorem dX5_add_25 : decode cX5_add 25 = .ok (.iconst 1, 1) := by decide +kernel
theorem dX5_add_26 : decode cX5_add 26 = .ok (.iadd, 1) := by decide +kernel
theorem dX5_add_27 : decode cX5_add 27 = .ok (.putfield 22, 3) := by decide +kernel
theorem dX5_add_30 : decode cX5_add 30 = .ok (.aload_n 0, 1) := by decide +kernel
theorem dX5_add_31 : decode cX5_add 31 = .ok (.getfield 22, 3) := by decide +kernel
theorem dX5_add_34 : decode cX5_add 34 = .ok (.iconst 1, 1) := by decide +kernel
theorem dX5_add_35 : decode cX5_add 35 = .ok (.isub, 1) := by decide +kernel
theorem dX5_add_36 : decode cX5_add 36 = .ok (.ireturn, 1) := by decide +kernel
theorem dX5_lowestFitting_0 : decode cX5_lowestFitting 0 = .ok (.iconst 0, 1) := by decide +kernel
theorem dX5_lowestFitting_1 : decode cX5_lowestFitting 1 = .ok (.istore_n 3, 1) := by decide +kernel
theorem dX5_lowestFitting_2 : decode cX5_lowestFitting 2 = .ok (.iload_n 3, 1) := by decide +kernel
theorem dX5_lowestFitting_3 : decode cX5_lowestFitting 3 = .ok (.aload_n 0, 1) := by decide +kernel
theorem dX5_lowestFitting_4 : decode cX5_lowestFitting 4 = .ok (.getfield 22, 3) := by decide +kernel
theorem dX5_lowestFitting_7 : decode cX5_lowestFitting 7 = .ok (.if_icmp .ge 31, 3) := by decide +kernel
theorem dX5_lowestFitting_10 : decode cX5_lowestFitting 10 = .ok (.aload_n 0, 1) := by decide +kernel
theorem dX5_lowestFitting_11 : decode cX5_lowestFitting 11 = .ok (.getfield 15, 3) := by decide +kernel
theorem dX5_lowestFitting_14 : decode cX5_lowestFitting 14 = .ok (.iload_n 3, 1) := by decide +kernel
theorem dX5_lowestFitting_15 : decode cX5_lowestFitting 15 = .ok (.iaload, 1) := by decide +kernel
theorem dX5_lowestFitting_16 : decode cX5_lowestFitting 16 = .ok (.iload_n 1, 1) := by decide +kernel
theorem dX5_lowestFitting_17 : decode cX5_lowestFitting 17 = .ok (.if_icmp .ne 15, 3) := by decide +kernel
theorem dX5_lowestFitting_20 : decode cX5_lowestFitting 20 = .ok (.aload_n 0, 1) := by decide +kernel
theorem dX5_lowestFitting_21 : decode cX5_lowestFitting 21 = .ok (.getfield 9, 3) := by decide +kernel
theorem dX5_lowestFitting_24 : decode cX5_lowestFitting 24 = .ok (.iload_n 3, 1) := by decide +kernel
theorem dX5_lowestFitting_25 : decode cX5_lowestFitting 25 = .ok (.iaload, 1) := by decide +kernel
theorem dX5_lowestFitting_26 : decode cX5_lowestFitting 26 = .ok (.iload_n 2, 1) := by decide +kernel
theorem dX5_lowestFitting_27 : decode cX5_lowestFitting 27 = .ok (.if_icmp .ne 5, 3) := by decide +kernel
theorem dX5_lowestFitting_30 : decode cX5_lowestFitting 30 = .ok (.iload_n 3, 1) := by decide +kernel
theorem dX5_lowestFitting_31 : decode cX5_lowestFitting 31 = .ok (.ireturn, 1) := by decide +kernel
theorem dX5_lowestFitting_32 : decode cX5_lowestFitting 32 = .ok (.iinc 3 1, 3) := by decide +kernel
theorem dX5_lowestFitting_35 : decode cX5_lowestFitting 35 = .ok (.goto (-33), 3) := by decide +kernel
theorem dX5_lowestFitting_38 : decode cX5_lowestFitting 38 = .ok (.iconst (-1), 1) := by decide +kernel
theorem dX5_lowestFitting_39 : decode cX5_lowestFitting 39 = .ok (.ireturn, 1) := by decide +kernel
theorem dX5_lowestToLetOut_0 : decode cX5_lowestToLetOut 0 = .ok (.iconst 0, 1) := by decide +kernel
theorem dX5_lowestToLetOut_1 : decode cX5_lowestToLetOut 1 = .ok (.istore_n 3, 1) := by decide +kernel
theorem dX5_lowestToLetOut_2 : decode cX5_lowestToLetOut 2 = .ok (.iload_n 3, 1) := by decide +kernel
theorem dX5_lowestToLetOut_3 : decode cX5_lowestToLetOut 3 = .ok (.aload_n 0, 1) := by decide +kernel
theorem dX5_lowestToLetOut_4 : decode cX5_lowestToLetOut 4 = .ok (.getfield 22, 3) := by decide +kernel
theorem dX5_lowestToLetOut_7 : decode cX5_lowestToLetOut 7 = .ok (.if_icmp .ge 42, 3) := by decide +kernel
theorem dX5_lowestToLetOut_10 : decode cX5_lowestToLetOut 10 = .ok (.aload_n 0, 1) := by decide +kernel
theorem dX5_lowestToLetOut_11 : decode cX5_lowestToLetOut 11 = .ok (.getfield 15, 3) := by decide +kernel
theorem dX5_lowestToLetOut_14 : decode cX5_lowestToLetOut 14 = .ok (.iload_n 3, 1) := by decide +kernel
theorem dX5_lowestToLetOut_15 : decode cX5_lowestToLetOut 15 = .ok (.iaload, 1) := by decide +kernel
theorem dX5_lowestToLetOut_16 : decode cX5_lowestToLetOut 16 = .ok (.iload_n 1, 1) := by decide +kernel
theorem dX5_lowestToLetOut_17 : decode cX5_lowestToLetOut 17 = .ok (.if_icmp .ne 26, 3) := by decide +kernel
theorem dX5_lowestToLetOut_20 : decode cX5_lowestToLetOut 20 = .ok (.aload_n 0, 1) := by decide +kernel
theorem dX5_lowestToLetOut_21 : decode cX5_lowestToLetOut 21 = .ok (.getfield 9, 3) := by decide +kernel
theorem dX5_lowestToLetOut_24 : decode cX5_lowestToLetOut 24 = .ok (.iload_n 3, 1) := by decide +kernel
theorem dX5_lowestToLetOut_25 : decode cX5_lowestToLetOut 25 = .ok (.iaload, 1) := by decide +kernel
theorem dX5_lowestToLetOut_26 : decode cX5_lowestToLetOut 26 = .ok (.iconst 1, 1) := by decide +kernel
theorem dX5_lowestToLetOut_27 : decode cX5_lowestToLetOut 27 = .ok (.iadd, 1) := by decide +kernel
theorem dX5_lowestToLetOut_28 : decode cX5_lowestToLetOut 28 = .ok (.iload_n 2, 1) := by decide +kernel
theorem dX5_lowestToLetOut_29 : decode cX5_lowestToLetOut 29 = .ok (.if_icmp .ne 14, 3) := by decide +kernel
theorem dX5_lowestToLetOut_32 : decode cX5_lowestToLetOut 32 = .ok (.aload_n 0, 1) := by decide +kernel
theorem dX5_lowestToLetOut_33 : decode cX5_lowestToLetOut 33 = .ok (.getfield 18, 3) := by decide +kernel
theorem dX5_lowestToLetOut_36 : decode cX5_lowestToLetOut 36 = .ok (.iload_n 3, 1) := by decide +kernel
theorem dX5_lowestToLetOut_37 : decode cX5_lowestToLetOut 37 = .ok (.baload, 1) := by decide +kernel
theorem dX5_lowestToLetOut_38 : decode cX5_lowestToLetOut 38 = .ok (.ifCond .ne 5, 3) := by decide +kernel
theorem dX5_lowestToLetOut_41 : decode cX5_lowestToLetOut 41 = .ok (.iload_n 3, 1) := by decide +kernel
theorem dX5_lowestToLetOut_42 : decode cX5_lowestToLetOut 42 = .ok (.ireturn, 1) := by decide +kernel
theorem dX5_lowestToLetOut_43 : decode cX5_lowestToLetOut 43 = .ok (.iinc 3 1, 3) := by decide +kernel
theorem dX5_lowestToLetOut_46 : decode cX5_lowestToLetOut 46 = .ok (.goto (-44), 3) := by decide +kernel
theorem dX5_lowestToLetOut_49 : decode cX5_lowestToLetOut 49 = .ok (.iconst (-1), 1) := by decide +kernel
theorem dX5_lowestToLetOut_50 : decode cX5_lowestToLetOut 50 = .ok (.ireturn, 1) := by decide +kernel
theorem dX6_init_0 : decode cX6_init 0 = .ok (.aload_n 0, 1) := by decide +kernel
theorem dX6_init_1 : decode cX6_init 1 = .ok (.invokespecial 1, 3) := by decide +kernel
theorem dX6_init_4 : decode cX6_init 4 = .ok (.aload_n 0, 1) := by decide +kernel
theorem dX6_init_5 : decode cX6_init 5 = .ok (.new 7, 3) := by decide +kernel
theorem dX6_init_8 : decode cX6_init 8 = .ok (.dup, 1) := by decide +kernel
theorem dX6_init_9 : decode cX6_init 9 = .ok (.invokespecial 9, 3) := by decide +kernel
theorem dX6_init_12 : decode cX6_init 12 = .ok (.putfield 10, 3) := by decide +kernel
theorem dX6_init_15 : decode cX6_init 15 = .ok (.aload_n 0, 1) := by decide +kernel
theorem dX6_init_16 : decode cX6_init 16 = .ok (.new 16, 3) := by decide +kernel
theorem dX6_init_19 : decode cX6_init 19 = .ok (.dup, 1) := by decide +kernel
theorem dX6_init_20 : decode cX6_init 20 = .ok (.invokespecial 18, 3) := by decide +kernel
theorem dX6_init_23 : decode cX6_init 23 = .ok (.putfield 19, 3) := by decide +kernel
theorem dX6_init_26 : decode cX6_init 26 = .ok (.aload_n 0, 1) := by decide +kernel
theorem dX6_init_27 : decode cX6_init 27 = .ok (.new 23, 3) := by decide +kernel
theorem dX6_init_30 : decode cX6_init 30 = .ok (.dup, 1) := by decide +kernel
theorem dX6_init_31 : decode cX6_init 31 = .ok (.invokespecial 25, 3) := by decide +kernel
theorem dX6_init_34 : decode cX6_init 34 = .ok (.putfield 26, 3) := by decide +kernel
theorem dX6_init_37 : decode cX6_init 37 = .ok (.aload_n 0, 1) := by decide +kernel
theorem dX6_init_38 : decode cX6_init 38 = .ok (.new 30, 3) := by decide +kernel
theorem dX6_init_41 : decode cX6_init 41 = .ok (.dup, 1) := by decide +kernel
theorem dX6_init_42 : decode cX6_init 42 = .ok (.invokespecial 32, 3) := by decide +kernel
theorem dX6_init_45 : decode cX6_init 45 = .ok (.putfield 33, 3) := by decide +kernel
theorem dX6_init_48 : decode cX6_init 48 = .ok (.aload_n 0, 1) := by decide +kernel
theorem dX6_init_49 : decode cX6_init 49 = .ok (.new 37, 3) := by decide +kernel
theorem dX6_init_52 : decode cX6_init 52 = .ok (.dup, 1) := by decide +kernel
theorem dX6_init_53 : decode cX6_init 53 = .ok (.invokespecial 39, 3) := by decide +kernel
theorem dX6_init_56 : decode cX6_init 56 = .ok (.putfield 40, 3) := by decide +kernel
theorem dX6_init_59 : decode cX6_init 59 = .ok (.aload_n 0, 1) := by decide +kernel
theorem dX6_init_60 : decode cX6_init 60 = .ok (.new 44, 3) := by decide +kernel
theorem dX6_init_63 : decode cX6_init 63 = .ok (.dup, 1) := by decide +kernel
theorem dX6_init_64 : decode cX6_init 64 = .ok (.invokespecial 46, 3) := by decide +kernel
theorem dX6_init_67 : decode cX6_init 67 = .ok (.putfield 47, 3) := by decide +kernel
theorem dX6_init_70 : decode cX6_init 70 = .ok (.aload_n 0, 1) := by decide +kernel
theorem dX6_init_71 : decode cX6_init 71 = .ok (.iconst 1, 1) := by decide +kernel
theorem dX6_init_72 : decode cX6_init 72 = .ok (.putfield 51, 3) := by decide +kernel
theorem dX6_init_75 : decode cX6_init 75 = .ok (.aload_n 0, 1) := by decide +kernel
theorem dX6_init_76 : decode cX6_init 76 = .ok (.iconst 0, 1) := by decide +kernel
theorem dX6_init_77 : decode cX6_init 77 = .ok (.putfield 55, 3) := by decide +kernel
theorem dX6_init_80 : decode cX6_init 80 = .ok (.return_, 1) := by decide +kernel
theorem dX6_setParts_0 : decode cX6_setParts 0 = .ok (.iload_n 1, 1) := by decide +kernel
theorem dX6_setParts_1 : decode cX6_setParts 1 = .ok (.iconst 1, 1) := by decide +kernel
theorem dX6_setParts_2 : decode cX6_setParts 2 = .ok (.if_icmp .lt 9, 3) := by decide +kernel
theorem dX6_setParts_5 : decode cX6_setParts 5 = .ok (.iload_n 1, 1) := by decide +kernel
theorem dX6_setParts_6 : decode cX6_setParts 6 = .ok (.bipush 8, 2) := by decide +kernel
theorem dX6_setParts_8 : decode cX6_setParts 8 = .ok (.if_icmp .le 13, 3) := by decide +kernel
theorem dX6_setParts_11 : decode cX6_setParts 11 = .ok (.new 58, 3) := by decide +kernel
theorem dX6_setParts_14 : decode cX6_setParts 14 = .ok (.dup, 1) := by decide +kernel
theorem dX6_setParts_15 : decode cX6_setParts 15 = .ok (.ldc 60, 2) := by decide +kernel
theorem dX6_setParts_17 : decode cX6_setParts 17 = .ok (.invokespecial 62, 3) := by decide +kernel
theorem dX6_setParts_20 : decode cX6_setParts 20 = .ok (.athrow, 1) := by decide +kernel
theorem dX6_setParts_21 : decode cX6_setParts 21 = .ok (.aload_n 0, 1) := by decide +kernel
theorem dX6_setParts_22 : decode cX6_setParts 22 = .ok (.getfield 51, 3) := by decide +kernel
theorem dX6_setParts_25 : decode cX6_setParts 25 = .ok (.istore_n 2, 1) := by decide +kernel
theorem dX6_setParts_26 : decode cX6_setParts 26 = .ok (.aload_n 0, 1) := by decide +kernel
theorem dX6_setParts_27 : decode cX6_setParts 27 = .ok (.iload_n 1, 1) := by decide +kernel
theorem dX6_setParts_28 : decode cX6_setParts 28 = .ok (.putfield 51, 3) := by decide +kernel
theorem dX6_setParts_31 : decode cX6_setParts 31 = .ok (.iload_n 2, 1) := by decide +kernel
theorem dX6_setParts_32 : decode cX6_setParts 32 = .ok (.ireturn, 1) := by decide +kernel
theorem dX6_setSize_0 : decode cX6_setSize 0 = .ok (.iload_n 1, 1) := by decide +kernel
theorem dX6_setSize_1 : decode cX6_setSize 1 = .ok (.invokestatic 65, 3) := by decide +kernel
theorem dX6_setSize_4 : decode cX6_setSize 4 = .ok (.iload_n 2, 1) := by decide +kernel
theorem dX6_setSize_5 : decode cX6_setSize 5 = .ok (.invokestatic 69, 3) := by decide +kernel
theorem dX6_setSize_8 : decode cX6_setSize 8 = .ok (.aload_n 0, 1) := by decide +kernel
theorem dX6_setSize_9 : decode cX6_setSize 9 = .ok (.getfield 10, 3) := by decide +kernel
theorem dX6_setSize_12 : decode cX6_setSize 12 = .ok (.getfield 72, 3) := by decide +kernel
theorem dX6_setSize_15 : decode cX6_setSize 15 = .ok (.iload_n 1, 1) := by decide +kernel
theorem dX6_setSize_16 : decode cX6_setSize 16 = .ok (.iaload, 1) := by decide +kernel
theorem dX6_setSize_17 : decode cX6_setSize 17 = .ok (.istore_n 3, 1) := by decide +kernel
theorem dX6_setSize_18 : decode cX6_setSize 18 = .ok (.aload_n 0, 1) := by decide +kernel
theorem dX6_setSize_19 : decode cX6_setSize 19 = .ok (.getfield 10, 3) := by decide +kernel
theorem dX6_setSize_22 : decode cX6_setSize 22 = .ok (.getfield 72, 3) := by decide +kernel
theorem dX6_setSize_25 : decode cX6_setSize 25 = .ok (.iload_n 1, 1) := by decide +kernel
theorem dX6_setSize_26 : decode cX6_setSize 26 = .ok (.iload_n 2, 1) := by decide +kernel
theorem dX6_setSize_27 : decode cX6_setSize 27 = .ok (.iastore, 1) := by decide +kernel
theorem dX6_setSize_28 : decode cX6_setSize 28 = .ok (.iload_n 3, 1) := by decide +kernel
theorem dX6_setSize_29 : decode cX6_setSize 29 = .ok (.ireturn, 1) := by decide +kernel
theorem dX6_learn_0 : decode cX6_learn 0 = .ok (.iload_n 1, 1) := by decide +kernel
theorem dX6_learn_1 : decode cX6_learn 1 = .ok (.invokestatic 65, 3) := by decide +kernel
theorem dX6_learn_4 : decode cX6_learn 4 = .ok (.iload_n 2, 1) := by decide +kernel
theorem dX6_learn_5 : decode cX6_learn 5 = .ok (.invokestatic 76, 3) := by decide +kernel
theorem dX6_learn_8 : decode cX6_learn 8 = .ok (.iload_n 3, 1) := by decide +kernel
theorem dX6_learn_9 : decode cX6_learn 9 = .ok (.ifCond .eq 19, 3) := by decide +kernel
theorem dX6_learn_12 : decode cX6_learn 12 = .ok (.aload_n 0, 1) := by decide +kernel
theorem dX6_learn_13 : decode cX6_learn 13 = .ok (.getfield 10, 3) := by decide +kernel
theorem dX6_learn_16 : decode cX6_learn 16 = .ok (.getfield 79, 3) := by decide +kernel
theorem dX6_learn_19 : decode cX6_learn 19 = .ok (.iload_n 1, 1) := by decide +kernel
theorem dX6_learn_20 : decode cX6_learn 20 = .ok (.iaload, 1) := by decide +kernel
theorem dX6_learn_21 : decode cX6_learn 21 = .ok (.iload_n 2, 1) := by decide +kernel
theorem dX6_learn_22 : decode cX6_learn 22 = .ok (.invokestatic 82, 3) := by decide +kernel
theorem dX6_learn_25 : decode cX6_learn 25 = .ok (.goto 16, 3) := by decide +kernel
theorem dX6_learn_28 : decode cX6_learn 28 = .ok (.aload_n 0, 1) := by decide +kernel
theorem dX6_learn_29 : decode cX6_learn 29 = .ok (.getfield 10, 3) := by decide +kernel
theorem dX6_learn_32 : decode cX6_learn 32 = .ok (.getfield 79, 3) := by decide +kernel
theorem dX6_learn_35 : decode cX6_learn 35 = .ok (.iload_n 1, 1) := by decide +kernel
theorem dX6_learn_36 : decode cX6_learn 36 = .ok (.iaload, 1) := by decide +kernel
theorem dX6_learn_37 : decode cX6_learn 37 = .ok (.iload_n 2, 1) := by decide +kernel
theorem dX6_learn_38 : decode cX6_learn 38 = .ok (.invokestatic 86, 3) := by decide +kernel
theorem dX6_learn_41 : decode cX6_learn 41 = .ok (.istore 4, 2) := by decide +kernel
theorem dX6_learn_43 : decode cX6_learn 43 = .ok (.iload 4, 2) := by decide +kernel
theorem dX6_learn_45 : decode cX6_learn 45 = .ok (.invokestatic 89, 3) := by decide +kernel
theorem dX6_learn_48 : decode cX6_learn 48 = .ok (.istore 5, 2) := by decide +kernel
theorem dX6_learn_50 : decode cX6_learn 50 = .ok (.iload 5, 2) := by decide +kernel
theorem dX6_learn_52 : decode cX6_learn 52 = .ok (.iconst 4, 1) := by decide +kernel
theorem dX6_learn_53 : decode cX6_learn 53 = .ok (.if_icmp .le 13, 3) := by decide +kernel
theorem dX6_learn_56 : decode cX6_learn 56 = .ok (.new 95, 3) := by decide +kernel
theorem dX6_learn_59 : decode cX6_learn 59 = .ok (.dup, 1) := by decide +kernel
theorem dX6_learn_60 : decode cX6_learn 60 = .ok (.ldc 97, 2) := by decide +kernel
theorem dX6_learn_62 : decode cX6_learn 62 = .ok (.invokespecial 99, 3) := by decide +kernel
theorem dX6_learn_65 : decode cX6_learn 65 = .ok (.athrow, 1) := by decide +kernel
theorem dX6_learn_66 : decode cX6_learn 66 = .ok (.aload_n 0, 1) := by decide +kernel
theorem dX6_learn_67 : decode cX6_learn 67 = .ok (.getfield 10, 3) := by decide +kernel
theorem dX6_learn_70 : decode cX6_learn 70 = .ok (.getfield 79, 3) := by decide +kernel
theorem dX6_learn_73 : decode cX6_learn 73 = .ok (.iload_n 1, 1) := by decide +kernel
theorem dX6_learn_74 : decode cX6_learn 74 = .ok (.iload 4, 2) := by decide +kernel
theorem dX6_learn_76 : decode cX6_learn 76 = .ok (.iastore, 1) := by decide +kernel
theorem dX6_learn_77 : decode cX6_learn 77 = .ok (.iload 5, 2) := by decide +kernel
theorem dX6_learn_79 : decode cX6_learn 79 = .ok (.ireturn, 1) := by decide +kernel
theorem dX6_put_0 : decode cX6_put 0 = .ok (.iload_n 1, 1) := by decide +kernel
theorem dX6_put_1 : decode cX6_put 1 = .ok (.invokestatic 76, 3) := by decide +kernel
theorem dX6_put_4 : decode cX6_put 4 = .ok (.iload_n 2, 1) := by decide +kernel
theorem dX6_put_5 : decode cX6_put 5 = .ok (.invokestatic 65, 3) := by decide +kernel
theorem dX6_put_8 : decode cX6_put 8 = .ok (.aload_n 0, 1) := by decide +kernel
theorem dX6_put_9 : decode cX6_put 9 = .ok (.getfield 19, 3) := by decide +kernel
theorem dX6_put_12 : decode cX6_put 12 = .ok (.iload_n 1, 1) := by decide +kernel
theorem dX6_put_13 : decode cX6_put 13 = .ok (.iload_n 2, 1) := by decide +kernel
theorem dX6_put_14 : decode cX6_put 14 = .ok (.invokevirtual 100, 3) := by decide +kernel
theorem dX6_put_17 : decode cX6_put 17 = .ok (.iconst (-1), 1) := by decide +kernel
theorem dX6_put_18 : decode cX6_put 18 = .ok (.if_icmp .eq 13, 3) := by decide +kernel
theorem dX6_put_21 : decode cX6_put 21 = .ok (.new 95, 3) := by decide +kernel
theorem dX6_put_24 : decode cX6_put 24 = .ok (.dup, 1) := by decide +kernel
theorem dX6_put_25 : decode cX6_put 25 = .ok (.ldc 103, 2) := by decide +kernel
theorem dX6_put_27 : decode cX6_put 27 = .ok (.invokespecial 99, 3) := by decide +kernel
theorem dX6_put_30 : decode cX6_put 30 = .ok (.athrow, 1) := by decide +kernel
theorem dX6_put_31 : decode cX6_put 31 = .ok (.aload_n 0, 1) := by decide +kernel
theorem dX6_put_32 : decode cX6_put 32 = .ok (.getfield 19, 3) := by decide +kernel
theorem dX6_put_35 : decode cX6_put 35 = .ok (.iload_n 1, 1) := by decide +kernel
theorem dX6_put_36 : decode cX6_put 36 = .ok (.invokevirtual 105, 3) := by decide +kernel
theorem dX6_put_39 : decode cX6_put 39 = .ok (.ifCond .eq 13, 3) := by decide +kernel
theorem dX6_put_42 : decode cX6_put 42 = .ok (.new 95, 3) := by decide +kernel
theorem dX6_put_45 : decode cX6_put 45 = .ok (.dup, 1) := by decide +kernel
theorem dX6_put_46 : decode cX6_put 46 = .ok (.ldc 109, 2) := by decide +kernel
theorem dX6_put_48 : decode cX6_put 48 = .ok (.invokespecial 99, 3) := by decide +kernel
theorem dX6_put_51 : decode cX6_put 51 = .ok (.athrow, 1) := by decide +kernel
theorem dX6_put_52 : decode cX6_put 52 = .ok (.aload_n 0, 1) := by decide +kernel
theorem dX6_put_53 : decode cX6_put 53 = .ok (.getfield 19, 3) := by decide +kernel
theorem dX6_put_56 : decode cX6_put 56 = .ok (.iload_n 1, 1) := by decide +kernel
theorem dX6_put_57 : decode cX6_put 57 = .ok (.iload_n 2, 1) := by decide +kernel
theorem dX6_put_58 : decode cX6_put 58 = .ok (.invokevirtual 111, 3) := by decide +kernel
theorem dX6_put_61 : decode cX6_put 61 = .ok (.ireturn, 1) := by decide +kernel
theorem dX6_take_0 : decode cX6_take 0 = .ok (.iload_n 1, 1) := by decide +kernel
theorem dX6_take_1 : decode cX6_take 1 = .ok (.invokestatic 76, 3) := by decide +kernel
theorem dX6_take_4 : decode cX6_take 4 = .ok (.iload_n 2, 1) := by decide +kernel
theorem dX6_take_5 : decode cX6_take 5 = .ok (.invokestatic 65, 3) := by decide +kernel
theorem dX6_take_8 : decode cX6_take 8 = .ok (.aload_n 0, 1) := by decide +kernel
theorem dX6_take_9 : decode cX6_take 9 = .ok (.getfield 19, 3) := by decide +kernel
theorem dX6_take_12 : decode cX6_take 12 = .ok (.iload_n 1, 1) := by decide +kernel
theorem dX6_take_13 : decode cX6_take 13 = .ok (.iload_n 2, 1) := by decide +kernel
theorem dX6_take_14 : decode cX6_take 14 = .ok (.invokevirtual 100, 3) := by decide +kernel
theorem dX6_take_17 : decode cX6_take 17 = .ok (.istore_n 3, 1) := by decide +kernel
theorem dX6_take_18 : decode cX6_take 18 = .ok (.iload_n 3, 1) := by decide +kernel
theorem dX6_take_19 : decode cX6_take 19 = .ok (.iconst (-1), 1) := by decide +kernel
theorem dX6_take_20 : decode cX6_take 20 = .ok (.if_icmp .ne 13, 3) := by decide +kernel
theorem dX6_take_23 : decode cX6_take 23 = .ok (.new 95, 3) := by decide +kernel
theorem dX6_take_26 : decode cX6_take 26 = .ok (.dup, 1) := by decide +kernel
theorem dX6_take_27 : decode cX6_take 27 = .ok (.ldc 114, 2) := by decide +kernel
theorem dX6_take_29 : decode cX6_take 29 = .ok (.invokespecial 99, 3) := by decide +kernel
theorem dX6_take_32 : decode cX6_take 32 = .ok (.athrow, 1) := by decide +kernel
theorem dX6_take_33 : decode cX6_take 33 = .ok (.aload_n 0, 1) := by decide +kernel
theorem dX6_take_34 : decode cX6_take 34 = .ok (.getfield 19, 3) := by decide +kernel
theorem dX6_take_37 : decode cX6_take 37 = .ok (.iload_n 1, 1) := by decide +kernel
theorem dX6_take_38 : decode cX6_take 38 = .ok (.iload_n 3, 1) := by decide +kernel
theorem dX6_take_39 : decode cX6_take 39 = .ok (.invokevirtual 116, 3) := by decide +kernel
theorem dX6_take_42 : decode cX6_take 42 = .ok (.iload_n 3, 1) := by decide +kernel
theorem dX6_take_43 : decode cX6_take 43 = .ok (.ireturn, 1) := by decide +kernel
theorem dX6_costume_0 : decode cX6_costume 0 = .ok (.iload_n 1, 1) := by decide +kernel
theorem dX6_costume_1 : decode cX6_costume 1 = .ok (.invokestatic 76, 3) := by decide +kernel
theorem dX6_costume_4 : decode cX6_costume 4 = .ok (.iload_n 2, 1) := by decide +kernel
theorem dX6_costume_5 : decode cX6_costume 5 = .ok (.invokestatic 69, 3) := by decide +kernel
theorem dX6_costume_8 : decode cX6_costume 8 = .ok (.aload_n 0, 1) := by decide +kernel
theorem dX6_costume_9 : decode cX6_costume 9 = .ok (.getfield 26, 3) := by decide +kernel
theorem dX6_costume_12 : decode cX6_costume 12 = .ok (.getfield 120, 3) := by decide +kernel
theorem dX6_costume_15 : decode cX6_costume 15 = .ok (.bipush 40, 2) := by decide +kernel
theorem dX6_costume_17 : decode cX6_costume 17 = .ok (.if_icmp .lt 13, 3) := by decide +kernel
theorem dX6_costume_20 : decode cX6_costume 20 = .ok (.new 95, 3) := by decide +kernel
theorem dX6_costume_23 : decode cX6_costume 23 = .ok (.dup, 1) := by decide +kernel
theorem dX6_costume_24 : decode cX6_costume 24 = .ok (.ldc 123, 2) := by decide +kernel
theorem dX6_costume_26 : decode cX6_costume 26 = .ok (.invokespecial 99, 3) := by decide +kernel
theorem dX6_costume_29 : decode cX6_costume 29 = .ok (.athrow, 1) := by decide +kernel
theorem dX6_costume_30 : decode cX6_costume 30 = .ok (.aload_n 0, 1) := by decide +kernel
theorem dX6_costume_31 : decode cX6_costume 31 = .ok (.getfield 26, 3) := by decide +kernel
theorem dX6_costume_34 : decode cX6_costume 34 = .ok (.iload_n 1, 1) := by decide +kernel
theorem dX6_costume_35 : decode cX6_costume 35 = .ok (.iload_n 2, 1) := by decide +kernel
theorem dX6_costume_36 : decode cX6_costume 36 = .ok (.invokevirtual 125, 3) := by decide +kernel
theorem dX6_costume_39 : decode cX6_costume 39 = .ok (.ireturn, 1) := by decide +kernel
theorem dX6_sizeOf_0 : decode cX6_sizeOf 0 = .ok (.iload_n 1, 1) := by decide +kernel
theorem dX6_sizeOf_1 : decode cX6_sizeOf 1 = .ok (.aload_n 0, 1) := by decide +kernel
theorem dX6_sizeOf_2 : decode cX6_sizeOf 2 = .ok (.getfield 26, 3) := by decide +kernel
theorem dX6_sizeOf_5 : decode cX6_sizeOf 5 = .ok (.getfield 120, 3) := by decide +kernel
theorem dX6_sizeOf_8 : decode cX6_sizeOf 8 = .ok (.invokestatic 128, 3) := by decide +kernel
theorem dX6_sizeOf_11 : decode cX6_sizeOf 11 = .ok (.aload_n 0, 1) := by decide +kernel
theorem dX6_sizeOf_12 : decode cX6_sizeOf 12 = .ok (.getfield 26, 3) := by decide +kernel
theorem dX6_sizeOf_15 : decode cX6_sizeOf 15 = .ok (.getfield 131, 3) := by decide +kernel
theorem dX6_sizeOf_18 : decode cX6_sizeOf 18 = .ok (.iload_n 1, 1) := by decide +kernel
theorem dX6_sizeOf_19 : decode cX6_sizeOf 19 = .ok (.iaload, 1) := by decide +kernel
theorem dX6_sizeOf_20 : decode cX6_sizeOf 20 = .ok (.ireturn, 1) := by decide +kernel
theorem dX6_cold_0 : decode cX6_cold 0 = .ok (.iload_n 1, 1) := by decide +kernel
theorem dX6_cold_1 : decode cX6_cold 1 = .ok (.invokestatic 65, 3) := by decide +kernel
theorem dX6_cold_4 : decode cX6_cold 4 = .ok (.iload_n 2, 1) := by decide +kernel
theorem dX6_cold_5 : decode cX6_cold 5 = .ok (.aload_n 0, 1) := by decide +kernel
theorem dX6_cold_6 : decode cX6_cold 6 = .ok (.getfield 55, 3) := by decide +kernel
theorem dX6_cold_9 : decode cX6_cold 9 = .ok (.invokestatic 132, 3) := by decide +kernel
theorem dX6_cold_12 : decode cX6_cold 12 = .ok (.iload_n 3, 1) := by decide +kernel
theorem dX6_cold_13 : decode cX6_cold 13 = .ok (.iload_n 2, 1) := by decide +kernel
theorem dX6_cold_14 : decode cX6_cold 14 = .ok (.invokestatic 132, 3) := by decide +kernel
theorem dX6_cold_17 : decode cX6_cold 17 = .ok (.aload_n 0, 1) := by decide +kernel
theorem dX6_cold_18 : decode cX6_cold 18 = .ok (.getfield 10, 3) := by decide +kernel
theorem dX6_cold_21 : decode cX6_cold 21 = .ok (.iload_n 1, 1) := by decide +kernel
theorem dX6_cold_22 : decode cX6_cold 22 = .ok (.iload_n 2, 1) := by decide +kernel
theorem dX6_cold_23 : decode cX6_cold 23 = .ok (.iload_n 3, 1) := by decide +kernel
theorem dX6_cold_24 : decode cX6_cold 24 = .ok (.invokevirtual 135, 3) := by decide +kernel
theorem dX6_cold_27 : decode cX6_cold 27 = .ok (.ireturn, 1) := by decide +kernel
theorem dX6_isIll_0 : decode cX6_isIll 0 = .ok (.iload_n 1, 1) := by decide +kernel
theorem dX6_isIll_1 : decode cX6_isIll 1 = .ok (.invokestatic 65, 3) := by decide +kernel
theorem dX6_isIll_4 : decode cX6_isIll 4 = .ok (.iload_n 2, 1) := by decide +kernel
theorem dX6_isIll_5 : decode cX6_isIll 5 = .ok (.iconst 0, 1) := by decide +kernel
theorem dX6_isIll_6 : decode cX6_isIll 6 = .ok (.invokestatic 132, 3) := by decide +kernel
theorem dX6_isIll_9 : decode cX6_isIll 9 = .ok (.aload_n 0, 1) := by decide +kernel
theorem dX6_isIll_10 : decode cX6_isIll 10 = .ok (.getfield 10, 3) := by decide +kernel
theorem dX6_isIll_13 : decode cX6_isIll 13 = .ok (.getfield 139, 3) := by decide +kernel
theorem dX6_isIll_16 : decode cX6_isIll 16 = .ok (.iload_n 2, 1) := by decide +kernel
theorem dX6_isIll_17 : decode cX6_isIll 17 = .ok (.iaload, 1) := by decide +kernel
theorem dX6_isIll_18 : decode cX6_isIll 18 = .ok (.iload_n 1, 1) := by decide +kernel
theorem dX6_isIll_19 : decode cX6_isIll 19 = .ok (.invokestatic 142, 3) := by decide +kernel
theorem dX6_isIll_22 : decode cX6_isIll 22 = .ok (.ireturn, 1) := by decide +kernel
theorem dX6_canPlay_0 : decode cX6_canPlay 0 = .ok (.iload_n 1, 1) := by decide +kernel
theorem dX6_canPlay_1 : decode cX6_canPlay 1 = .ok (.invokestatic 65, 3) := by decide +kernel
theorem dX6_canPlay_4 : decode cX6_canPlay 4 = .ok (.iload_n 2, 1) := by decide +kernel
theorem dX6_canPlay_5 : decode cX6_canPlay 5 = .ok (.invokestatic 76, 3) := by decide +kernel
theorem dX6_canPlay_8 : decode cX6_canPlay 8 = .ok (.iload_n 3, 1) := by decide +kernel
theorem dX6_canPlay_9 : decode cX6_canPlay 9 = .ok (.iconst 0, 1) := by decide +kernel
theorem dX6_canPlay_10 : decode cX6_canPlay 10 = .ok (.invokestatic 132, 3) := by decide +kernel
theorem dX6_canPlay_13 : decode cX6_canPlay 13 = .ok (.aload_n 0, 1) := by decide +kernel
theorem dX6_canPlay_14 : decode cX6_canPlay 14 = .ok (.getfield 19, 3) := by decide +kernel
theorem dX6_canPlay_17 : decode cX6_canPlay 17 = .ok (.iload_n 2, 1) := by decide +kernel
theorem dX6_canPlay_18 : decode cX6_canPlay 18 = .ok (.iload_n 1, 1) := by decide +kernel
theorem dX6_canPlay_19 : decode cX6_canPlay 19 = .ok (.invokevirtual 100, 3) := by decide +kernel
theorem dX6_canPlay_22 : decode cX6_canPlay 22 = .ok (.iconst (-1), 1) := by decide +kernel
theorem dX6_canPlay_23 : decode cX6_canPlay 23 = .ok (.if_icmp .eq 25, 3) := by decide +kernel
theorem dX6_canPlay_26 : decode cX6_canPlay 26 = .ok (.aload_n 0, 1) := by decide +kernel
theorem dX6_canPlay_27 : decode cX6_canPlay 27 = .ok (.iload_n 1, 1) := by decide +kernel
theorem dX6_canPlay_28 : decode cX6_canPlay 28 = .ok (.iload_n 2, 1) := by decide +kernel
theorem dX6_canPlay_29 : decode cX6_canPlay 29 = .ok (.aload_n 0, 1) := by decide +kernel
theorem dX6_canPlay_30 : decode cX6_canPlay 30 = .ok (.getfield 10, 3) := by decide +kernel
theorem dX6_canPlay_33 : decode cX6_canPlay 33 = .ok (.getfield 139, 3) := by decide +kernel
theorem dX6_canPlay_36 : decode cX6_canPlay 36 = .ok (.iload_n 3, 1) := by decide +kernel
theorem dX6_canPlay_37 : decode cX6_canPlay 37 = .ok (.iaload, 1) := by decide +kernel
theorem dX6_canPlay_38 : decode cX6_canPlay 38 = .ok (.invokevirtual 146, 3) := by decide +kernel
theorem dX6_canPlay_41 : decode cX6_canPlay 41 = .ok (.ifCond .eq 7, 3) := by decide +kernel
theorem dX6_canPlay_44 : decode cX6_canPlay 44 = .ok (.iconst 1, 1) := by decide +kernel
theorem dX6_canPlay_45 : decode cX6_canPlay 45 = .ok (.goto 4, 3) := by decide +kernel
theorem dX6_canPlay_48 : decode cX6_canPlay 48 = .ok (.iconst 0, 1) := by decide +kernel
theorem dX6_canPlay_49 : decode cX6_canPlay 49 = .ok (.ireturn, 1) := by decide +kernel
theorem dX6_strain_0 : decode cX6_strain 0 = .ok (.iload_n 1, 1) := by decide +kernel
theorem dX6_strain_1 : decode cX6_strain 1 = .ok (.iconst 0, 1) := by decide +kernel
theorem dX6_strain_2 : decode cX6_strain 2 = .ok (.invokestatic 132, 3) := by decide +kernel
theorem dX6_strain_5 : decode cX6_strain 5 = .ok (.aload_n 0, 1) := by decide +kernel
theorem dX6_strain_6 : decode cX6_strain 6 = .ok (.aload_n 0, 1) := by decide +kernel
theorem dX6_strain_7 : decode cX6_strain 7 = .ok (.getfield 10, 3) := by decide +kernel
theorem dX6_strain_10 : decode cX6_strain 10 = .ok (.getfield 139, 3) := by decide +kernel
theorem dX6_strain_13 : decode cX6_strain 13 = .ok (.iload_n 1, 1) := by decide +kernel
theorem dX6_strain_14 : decode cX6_strain 14 = .ok (.iaload, 1) := by decide +kernel
theorem dX6_strain_15 : decode cX6_strain 15 = .ok (.invokevirtual 150, 3) := by decide +kernel
theorem dX6_strain_18 : decode cX6_strain 18 = .ok (.istore_n 2, 1) := by decide +kernel
theorem dX6_strain_19 : decode cX6_strain 19 = .ok (.iload_n 2, 1) := by decide +kernel
theorem dX6_strain_20 : decode cX6_strain 20 = .ok (.iconst (-1), 1) := by decide +kernel
theorem dX6_strain_21 : decode cX6_strain 21 = .ok (.if_icmp .ne 7, 3) := by decide +kernel
theorem dX6_strain_24 : decode cX6_strain 24 = .ok (.iconst (-1), 1) := by decide +kernel
theorem dX6_strain_25 : decode cX6_strain 25 = .ok (.goto 7, 3) := by decide +kernel
theorem dX6_strain_28 : decode cX6_strain 28 = .ok (.iload_n 2, 1) := by decide +kernel
theorem dX6_strain_29 : decode cX6_strain 29 = .ok (.invokestatic 153, 3) := by decide +kernel
theorem dX6_strain_32 : decode cX6_strain 32 = .ok (.ireturn, 1) := by decide +kernel
theorem dX6_strainByAll_0 : decode cX6_strainByAll 0 = .ok (.iload_n 1, 1) := by decide +kernel
theorem dX6_strainByAll_1 : decode cX6_strainByAll 1 = .ok (.iconst 0, 1) := by decide +kernel
theorem dX6_strainByAll_2 : decode cX6_strainByAll 2 = .ok (.invokestatic 132, 3) := by decide +kernel
theorem dX6_strainByAll_5 : decode cX6_strainByAll 5 = .ok (.aload_n 0, 1) := by decide +kernel
theorem dX6_strainByAll_6 : decode cX6_strainByAll 6 = .ok (.aload_n 0, 1) := by decide +kernel
theorem dX6_strainByAll_7 : decode cX6_strainByAll 7 = .ok (.getfield 10, 3) := by decide +kernel
theorem dX6_strainByAll_10 : decode cX6_strainByAll 10 = .ok (.getfield 139, 3) := by decide +kernel
theorem dX6_strainByAll_13 : decode cX6_strainByAll 13 = .ok (.iload_n 1, 1) := by decide +kernel
theorem dX6_strainByAll_14 : decode cX6_strainByAll 14 = .ok (.iaload, 1) := by decide +kernel
theorem dX6_strainByAll_15 : decode cX6_strainByAll 15 = .ok (.invokevirtual 156, 3) := by decide +kernel
theorem dX6_strainByAll_18 : decode cX6_strainByAll 18 = .ok (.aload_n 0, 1) := by decide +kernel
theorem dX6_strainByAll_19 : decode cX6_strainByAll 19 = .ok (.getfield 33, 3) := by decide +kernel
theorem dX6_strainByAll_22 : decode cX6_strainByAll 22 = .ok (.aload_n 0, 1) := by decide +kernel
theorem dX6_strainByAll_23 : decode cX6_strainByAll 23 = .ok (.getfield 51, 3) := by decide +kernel
theorem dX6_strainByAll_26 : decode cX6_strainByAll 26 = .ok (.invokevirtual 159, 3) := by decide +kernel
theorem dX6_strainByAll_29 : decode cX6_strainByAll 29 = .ok (.ireturn, 1) := by decide +kernel
theorem dX6_work_0 : decode cX6_work 0 = .ok (.iload_n 1, 1) := by decide +kernel
theorem dX6_work_1 : decode cX6_work 1 = .ok (.iconst 0, 1) := by decide +kernel
theorem dX6_work_2 : decode cX6_work 2 = .ok (.invokestatic 132, 3) := by decide +kernel
theorem dX6_work_5 : decode cX6_work 5 = .ok (.aload_n 0, 1) := by decide +kernel
theorem dX6_work_6 : decode cX6_work 6 = .ok (.aload_n 0, 1) := by decide +kernel
theorem dX6_work_7 : decode cX6_work 7 = .ok (.getfield 10, 3) := by decide +kernel
theorem dX6_work_10 : decode cX6_work 10 = .ok (.getfield 139, 3) := by decide +kernel
theorem dX6_work_13 : decode cX6_work 13 = .ok (.iload_n 1, 1) := by decide +kernel
theorem dX6_work_14 : decode cX6_work 14 = .ok (.iaload, 1) := by decide +kernel
theorem dX6_work_15 : decode cX6_work 15 = .ok (.invokevirtual 150, 3) := by decide +kernel
theorem dX6_work_18 : decode cX6_work 18 = .ok (.istore_n 2, 1) := by decide +kernel
theorem dX6_work_19 : decode cX6_work 19 = .ok (.iload_n 2, 1) := by decide +kernel
theorem dX6_work_20 : decode cX6_work 20 = .ok (.iconst (-1), 1) := by decide +kernel
theorem dX6_work_21 : decode cX6_work 21 = .ok (.if_icmp .ne 7, 3) := by decide +kernel
theorem dX6_work_24 : decode cX6_work 24 = .ok (.iconst (-1), 1) := by decide +kernel
theorem dX6_work_25 : decode cX6_work 25 = .ok (.goto 7, 3) := by decide +kernel
theorem dX6_work_28 : decode cX6_work 28 = .ok (.iload_n 2, 1) := by decide +kernel
theorem dX6_work_29 : decode cX6_work 29 = .ok (.invokestatic 162, 3) := by decide +kernel
theorem dX6_work_32 : decode cX6_work 32 = .ok (.ireturn, 1) := by decide +kernel
theorem dX6_actorFor_0 : decode cX6_actorFor 0 = .ok (.iload_n 2, 1) := by decide +kernel
theorem dX6_actorFor_1 : decode cX6_actorFor 1 = .ok (.invokestatic 76, 3) := by decide +kernel
theorem dX6_actorFor_4 : decode cX6_actorFor 4 = .ok (.iload_n 1, 1) := by decide +kernel
theorem dX6_actorFor_5 : decode cX6_actorFor 5 = .ok (.iconst 0, 1) := by decide +kernel
theorem dX6_actorFor_6 : decode cX6_actorFor 6 = .ok (.invokestatic 132, 3) := by decide +kernel
theorem dX6_actorFor_9 : decode cX6_actorFor 9 = .ok (.aload_n 0, 1) := by decide +kernel
theorem dX6_actorFor_10 : decode cX6_actorFor 10 = .ok (.aload_n 0, 1) := by decide +kernel
theorem dX6_actorFor_11 : decode cX6_actorFor 11 = .ok (.getfield 10, 3) := by decide +kernel
theorem dX6_actorFor_14 : decode cX6_actorFor 14 = .ok (.getfield 139, 3) := by decide +kernel
theorem dX6_actorFor_17 : decode cX6_actorFor 17 = .ok (.iload_n 1, 1) := by decide +kernel
theorem dX6_actorFor_18 : decode cX6_actorFor 18 = .ok (.iaload, 1) := by decide +kernel
theorem dX6_actorFor_19 : decode cX6_actorFor 19 = .ok (.invokevirtual 150, 3) := by decide +kernel
theorem dX6_actorFor_22 : decode cX6_actorFor 22 = .ok (.istore_n 3, 1) := by decide +kernel
theorem dX6_actorFor_23 : decode cX6_actorFor 23 = .ok (.iload_n 3, 1) := by decide +kernel
theorem dX6_actorFor_24 : decode cX6_actorFor 24 = .ok (.iconst (-1), 1) := by decide +kernel
theorem dX6_actorFor_25 : decode cX6_actorFor 25 = .ok (.if_icmp .eq 11, 3) := by decide +kernel
theorem dX6_actorFor_28 : decode cX6_actorFor 28 = .ok (.iload_n 2, 1) := by decide +kernel
theorem dX6_actorFor_29 : decode cX6_actorFor 29 = .ok (.aload_n 0, 1) := by decide +kernel
theorem dX6_actorFor_30 : decode cX6_actorFor 30 = .ok (.getfield 51, 3) := by decide +kernel
theorem dX6_actorFor_33 : decode cX6_actorFor 33 = .ok (.if_icmp .lt 7, 3) := by decide +kernel
theorem dX6_actorFor_36 : decode cX6_actorFor 36 = .ok (.iconst (-1), 1) := by decide +kernel
theorem dX6_actorFor_37 : decode cX6_actorFor 37 = .ok (.goto 9, 3) := by decide +kernel
theorem dX6_actorFor_40 : decode cX6_actorFor 40 = .ok (.aload_n 0, 1) := by decide +kernel
theorem dX6_actorFor_41 : decode cX6_actorFor 41 = .ok (.iload_n 3, 1) := by decide +kernel
theorem dX6_actorFor_42 : decode cX6_actorFor 42 = .ok (.iload_n 2, 1) := by decide +kernel
theorem dX6_actorFor_43 : decode cX6_actorFor 43 = .ok (.invokevirtual 165, 3) := by decide +kernel
theorem dX6_actorFor_46 : decode cX6_actorFor 46 = .ok (.ireturn, 1) := by decide +kernel
theorem dX6_chain_0 : decode cX6_chain 0 = .ok (.iload_n 1, 1) := by decide +kernel
theorem dX6_chain_1 : decode cX6_chain 1 = .ok (.invokestatic 65, 3) := by decide +kernel
theorem dX6_chain_4 : decode cX6_chain 4 = .ok (.iload_n 2, 1) := by decide +kernel
theorem dX6_chain_5 : decode cX6_chain 5 = .ok (.iconst 0, 1) := by decide +kernel
theorem dX6_chain_6 : decode cX6_chain 6 = .ok (.invokestatic 132, 3) := by decide +kernel
theorem dX6_chain_9 : decode cX6_chain 9 = .ok (.aload_n 0, 1) := by decide +kernel
theorem dX6_chain_10 : decode cX6_chain 10 = .ok (.aload_n 0, 1) := by decide +kernel
theorem dX6_chain_11 : decode cX6_chain 11 = .ok (.getfield 10, 3) := by decide +kernel
theorem dX6_chain_14 : decode cX6_chain 14 = .ok (.getfield 139, 3) := by decide +kernel
theorem dX6_chain_17 : decode cX6_chain 17 = .ok (.iload_n 2, 1) := by decide +kernel
theorem dX6_chain_18 : decode cX6_chain 18 = .ok (.iaload, 1) := by decide +kernel
theorem dX6_chain_19 : decode cX6_chain 19 = .ok (.invokevirtual 150, 3) := by decide +kernel
theorem dX6_chain_22 : decode cX6_chain 22 = .ok (.istore_n 3, 1) := by decide +kernel
theorem dX6_chain_23 : decode cX6_chain 23 = .ok (.aload_n 0, 1) := by decide +kernel
theorem dX6_chain_24 : decode cX6_chain 24 = .ok (.aload_n 0, 1) := by decide +kernel
theorem dX6_chain_25 : decode cX6_chain 25 = .ok (.getfield 10, 3) := by decide +kernel
theorem dX6_chain_28 : decode cX6_chain 28 = .ok (.getfield 139, 3) := by decide +kernel
theorem dX6_chain_31 : decode cX6_chain 31 = .ok (.iload_n 2, 1) := by decide +kernel
theorem dX6_chain_32 : decode cX6_chain 32 = .ok (.iaload, 1) := by decide +kernel
theorem dX6_chain_33 : decode cX6_chain 33 = .ok (.iload_n 1, 1) := by decide +kernel
theorem dX6_chain_34 : decode cX6_chain 34 = .ok (.invokestatic 82, 3) := by decide +kernel
theorem dX6_chain_37 : decode cX6_chain 37 = .ok (.invokevirtual 150, 3) := by decide +kernel
theorem dX6_chain_40 : decode cX6_chain 40 = .ok (.istore 4, 2) := by decide +kernel
theorem dX6_chain_42 : decode cX6_chain 42 = .ok (.iload_n 3, 1) := by decide +kernel
theorem dX6_chain_43 : decode cX6_chain 43 = .ok (.iconst (-1), 1) := by decide +kernel
theorem dX6_chain_44 : decode cX6_chain 44 = .ok (.if_icmp .eq 9, 3) := by decide +kernel
theorem dX6_chain_47 : decode cX6_chain 47 = .ok (.iload 4, 2) := by decide +kernel
theorem dX6_chain_49 : decode cX6_chain 49 = .ok (.iconst (-1), 1) := by decide +kernel
theorem dX6_chain_50 : decode cX6_chain 50 = .ok (.if_icmp .ne 7, 3) := by decide +kernel
theorem dX6_chain_53 : decode cX6_chain 53 = .ok (.iconst (-1), 1) := by decide +kernel
theorem dX6_chain_54 : decode cX6_chain 54 = .ok (.goto 10, 3) := by decide +kernel
theorem dX6_chain_57 : decode cX6_chain 57 = .ok (.aload_n 0, 1) := by decide +kernel
theorem dX6_chain_58 : decode cX6_chain 58 = .ok (.iload_n 3, 1) := by decide +kernel
theorem dX6_chain_59 : decode cX6_chain 59 = .ok (.iload 4, 2) := by decide +kernel
theorem dX6_chain_61 : decode cX6_chain 61 = .ok (.invokevirtual 168, 3) := by decide +kernel
theorem dX6_chain_64 : decode cX6_chain 64 = .ok (.ireturn, 1) := by decide +kernel
theorem dX6_needActor_0 : decode cX6_needActor 0 = .ok (.iload_n 0, 1) := by decide +kernel
theorem dX6_needActor_1 : decode cX6_needActor 1 = .ok (.ifCond .lt 9, 3) := by decide +kernel
theorem dX6_needActor_4 : decode cX6_needActor 4 = .ok (.iload_n 0, 1) := by decide +kernel
theorem dX6_needActor_5 : decode cX6_needActor 5 = .ok (.bipush 12, 2) := by decide +kernel
theorem dX6_needActor_7 : decode cX6_needActor 7 = .ok (.if_icmp .lt 13, 3) := by decide +kernel
theorem dX6_needActor_10 : decode cX6_needActor 10 = .ok (.new 215, 3) := by decide +kernel
theorem dX6_needActor_13 : decode cX6_needActor 13 = .ok (.dup, 1) := by decide +kernel
theorem dX6_needActor_14 : decode cX6_needActor 14 = .ok (.ldc 217, 2) := by decide +kernel
theorem dX6_needActor_16 : decode cX6_needActor 16 = .ok (.invokespecial 219, 3) := by decide +kernel
theorem dX6_needActor_19 : decode cX6_needActor 19 = .ok (.athrow, 1) := by decide +kernel
theorem dX6_needActor_20 : decode cX6_needActor 20 = .ok (.return_, 1) := by decide +kernel
theorem dX6_needPart_0 : decode cX6_needPart 0 = .ok (.iload_n 0, 1) := by decide +kernel
theorem dX6_needPart_1 : decode cX6_needPart 1 = .ok (.ifCond .lt 9, 3) := by decide +kernel
theorem dX6_needPart_4 : decode cX6_needPart 4 = .ok (.iload_n 0, 1) := by decide +kernel
theorem dX6_needPart_5 : decode cX6_needPart 5 = .ok (.bipush 8, 2) := by decide +kernel
theorem dX6_needPart_7 : decode cX6_needPart 7 = .ok (.if_icmp .lt 13, 3) := by decide +kernel
theorem dX6_needPart_10 : decode cX6_needPart 10 = .ok (.new 215, 3) := by decide +kernel
theorem dX6_needPart_13 : decode cX6_needPart 13 = .ok (.dup, 1) := by decide +kernel
theorem dX6_needPart_14 : decode cX6_needPart 14 = .ok (.ldc 220, 2) := by decide +kernel
theorem dX6_needPart_16 : decode cX6_needPart 16 = .ok (.invokespecial 219, 3) := by decide +kernel
theorem dX6_needPart_19 : decode cX6_needPart 19 = .ok (.athrow, 1) := by decide +kernel
theorem dX6_needPart_20 : decode cX6_needPart 20 = .ok (.return_, 1) := by decide +kernel
theorem dX6_needOneOf_0 : decode cX6_needOneOf 0 = .ok (.iload_n 0, 1) := by decide +kernel
theorem dX6_needOneOf_1 : decode cX6_needOneOf 1 = .ok (.ifCond .lt 8, 3) := by decide +kernel
theorem dX6_needOneOf_4 : decode cX6_needOneOf 4 = .ok (.iload_n 0, 1) := by decide +kernel
theorem dX6_needOneOf_5 : decode cX6_needOneOf 5 = .ok (.iload_n 1, 1) := by decide +kernel
theorem dX6_needOneOf_6 : decode cX6_needOneOf 6 = .ok (.if_icmp .lt 13, 3) := by decide +kernel
theorem dX6_needOneOf_9 : decode cX6_needOneOf 9 = .ok (.new 215, 3) := by decide +kernel
theorem dX6_needOneOf_12 : decode cX6_needOneOf 12 = .ok (.dup, 1) := by decide +kernel
theorem dX6_needOneOf_13 : decode cX6_needOneOf 13 = .ok (.ldc 222, 2) := by decide +kernel
theorem dX6_needOneOf_15 : decode cX6_needOneOf 15 = .ok (.invokespecial 219, 3) := by decide +kernel
theorem dX6_needOneOf_18 : decode cX6_needOneOf 18 = .ok (.athrow, 1) := by decide +kernel
theorem dX6_needOneOf_19 : decode cX6_needOneOf 19 = .ok (.return_, 1) := by decide +kernel
theorem dX6_needSize_0 : decode cX6_needSize 0 = .ok (.iload_n 0, 1) := by decide +kernel
theorem dX6_needSize_1 : decode cX6_needSize 1 = .ok (.ifCond .lt 9, 3) := by decide +kernel
theorem dX6_needSize_4 : decode cX6_needSize 4 = .ok (.iload_n 0, 1) := by decide +kernel
theorem dX6_needSize_5 : decode cX6_needSize 5 = .ok (.bipush 9, 2) := by decide +kernel
theorem dX6_needSize_7 : decode cX6_needSize 7 = .ok (.if_icmp .le 13, 3) := by decide +kernel
theorem dX6_needSize_10 : decode cX6_needSize 10 = .ok (.new 58, 3) := by decide +kernel
theorem dX6_needSize_13 : decode cX6_needSize 13 = .ok (.dup, 1) := by decide +kernel
theorem dX6_needSize_14 : decode cX6_needSize 14 = .ok (.ldc 224, 2) := by decide +kernel
theorem dX6_needSize_16 : decode cX6_needSize 16 = .ok (.invokespecial 62, 3) := by decide +kernel
theorem dX6_needSize_19 : decode cX6_needSize 19 = .ok (.athrow, 1) := by decide +kernel
theorem dX6_needSize_20 : decode cX6_needSize 20 = .ok (.return_, 1) := by decide +kernel
theorem dX6_needDay_0 : decode cX6_needDay 0 = .ok (.iload_n 0, 1) := by decide +kernel
theorem dX6_needDay_1 : decode cX6_needDay 1 = .ok (.iload_n 1, 1) := by decide +kernel
theorem dX6_needDay_2 : decode cX6_needDay 2 = .ok (.if_icmp .lt 10, 3) := by decide +kernel
theorem dX6_needDay_5 : decode cX6_needDay 5 = .ok (.iload_n 0, 1) := by decide +kernel
theorem dX6_needDay_6 : decode cX6_needDay 6 = .ok (.sipush 1000, 3) := by decide +kernel
theorem dX6_needDay_9 : decode cX6_needDay 9 = .ok (.if_icmp .le 13, 3) := by decide +kernel
theorem dX6_needDay_12 : decode cX6_needDay 12 = .ok (.new 58, 3) := by decide +kernel
theorem dX6_needDay_15 : decode cX6_needDay 15 = .ok (.dup, 1) := by decide +kernel
theorem dX6_needDay_16 : decode cX6_needDay 16 = .ok (.ldc 226, 2) := by decide +kernel
theorem dX6_needDay_18 : decode cX6_needDay 18 = .ok (.invokespecial 62, 3) := by decide +kernel
theorem dX6_needDay_21 : decode cX6_needDay 21 = .ok (.athrow, 1) := by decide +kernel
theorem dX6_needDay_22 : decode cX6_needDay 22 = .ok (.return_, 1) := by decide +kernel
theorem dX6_has_0 : decode cX6_has 0 = .ok (.iload_n 0, 1) := by decide +kernel
theorem dX6_has_1 : decode cX6_has 1 = .ok (.iload_n 1, 1) := by decide +kernel
theorem dX6_has_2 : decode cX6_has 2 = .ok (.ishr, 1) := by decide +kernel
theorem dX6_has_3 : decode cX6_has 3 = .ok (.iconst 1, 1) := by decide +kernel
theorem dX6_has_4 : decode cX6_has 4 = .ok (.iand, 1) := by decide +kernel
theorem dX6_has_5 : decode cX6_has 5 = .ok (.ifCond .eq 7, 3) := by decide +kernel
theorem dX6_has_8 : decode cX6_has 8 = .ok (.iconst 1, 1) := by decide +kernel
theorem dX6_has_9 : decode cX6_has 9 = .ok (.goto 4, 3) := by decide +kernel
theorem dX6_has_12 : decode cX6_has 12 = .ok (.iconst 0, 1) := by decide +kernel
theorem dX6_has_13 : decode cX6_has 13 = .ok (.ireturn, 1) := by decide +kernel
theorem dX6_with_0 : decode cX6_with 0 = .ok (.iload_n 0, 1) := by decide +kernel
theorem dX6_with_1 : decode cX6_with 1 = .ok (.iconst 1, 1) := by decide +kernel
theorem dX6_with_2 : decode cX6_with 2 = .ok (.iload_n 1, 1) := by decide +kernel
theorem dX6_with_3 : decode cX6_with 3 = .ok (.ishl, 1) := by decide +kernel
theorem dX6_with_4 : decode cX6_with 4 = .ok (.ior, 1) := by decide +kernel
theorem dX6_with_5 : decode cX6_with 5 = .ok (.ireturn, 1) := by decide +kernel
theorem dX6_without_0 : decode cX6_without 0 = .ok (.iload_n 0, 1) := by decide +kernel
theorem dX6_without_1 : decode cX6_without 1 = .ok (.iconst 1, 1) := by decide +kernel
theorem dX6_without_2 : decode cX6_without 2 = .ok (.iload_n 1, 1) := by decide +kernel
theorem dX6_without_3 : decode cX6_without 3 = .ok (.ishl, 1) := by decide +kernel
theorem dX6_without_4 : decode cX6_without 4 = .ok (.iconst (-1), 1) := by decide +kernel
theorem dX6_without_5 : decode cX6_without 5 = .ok (.ixor, 1) := by decide +kernel
theorem dX6_without_6 : decode cX6_without 6 = .ok (.iand, 1) := by decide +kernel
theorem dX6_without_7 : decode cX6_without 7 = .ok (.ireturn, 1) := by decide +kernel
theorem dX6_isReady_0 : decode cX6_isReady 0 = .ok (.aload_n 0, 1) := by decide +kernel
theorem dX6_isReady_1 : decode cX6_isReady 1 = .ok (.getfield 10, 3) := by decide +kernel
theorem dX6_isReady_4 : decode cX6_isReady 4 = .ok (.getfield 72, 3) := by decide +kernel
theorem dX6_isReady_7 : decode cX6_isReady 7 = .ok (.iload_n 1, 1) := by decide +kernel
theorem dX6_isReady_8 : decode cX6_isReady 8 = .ok (.iaload, 1) := by decide +kernel
theorem dX6_isReady_9 : decode cX6_isReady 9 = .ok (.istore 4, 2) := by decide +kernel
theorem dX6_isReady_11 : decode cX6_isReady 11 = .ok (.aload_n 0, 1) := by decide +kernel
theorem dX6_isReady_12 : decode cX6_isReady 12 = .ok (.getfield 10, 3) := by decide +kernel
theorem dX6_isReady_15 : decode cX6_isReady 15 = .ok (.getfield 79, 3) := by decide +kernel
theorem dX6_isReady_18 : decode cX6_isReady 18 = .ok (.iload_n 1, 1) := by decide +kernel
theorem dX6_isReady_19 : decode cX6_isReady 19 = .ok (.iaload, 1) := by decide +kernel
theorem dX6_isReady_20 : decode cX6_isReady 20 = .ok (.iload_n 2, 1) := by decide +kernel
theorem dX6_isReady_21 : decode cX6_isReady 21 = .ok (.invokestatic 142, 3) := by decide +kernel
theorem dX6_isReady_24 : decode cX6_isReady 24 = .ok (.ifCond .eq 43, 3) := by decide +kernel
theorem dX6_isReady_27 : decode cX6_isReady 27 = .ok (.iload_n 3, 1) := by decide +kernel
theorem dX6_isReady_28 : decode cX6_isReady 28 = .ok (.iload_n 1, 1) := by decide +kernel
theorem dX6_isReady_29 : decode cX6_isReady 29 = .ok (.invokestatic 142, 3) := by decide +kernel
theorem dX6_isReady_32 : decode cX6_isReady 32 = .ok (.ifCond .ne 35, 3) := by decide +kernel
theorem dX6_isReady_35 : decode cX6_isReady 35 = .ok (.aload_n 0, 1) := by decide +kernel
theorem dX6_isReady_36 : decode cX6_isReady 36 = .ok (.getfield 26, 3) := by decide +kernel
theorem dX6_isReady_39 : decode cX6_isReady 39 = .ok (.iload_n 2, 1) := by decide +kernel
theorem dX6_isReady_40 : decode cX6_isReady 40 = .ok (.iload 4, 2) := by decide +kernel
theorem dX6_isReady_42 : decode cX6_isReady 42 = .ok (.invokevirtual 228, 3) := by decide +kernel
theorem dX6_isReady_45 : decode cX6_isReady 45 = .ok (.iconst (-1), 1) := by decide +kernel
theorem dX6_isReady_46 : decode cX6_isReady 46 = .ok (.if_icmp .ne 17, 3) := by decide +kernel
theorem dX6_isReady_49 : decode cX6_isReady 49 = .ok (.aload_n 0, 1) := by decide +kernel
theorem dX6_isReady_50 : decode cX6_isReady 50 = .ok (.getfield 26, 3) := by decide +kernel
theorem dX6_isReady_53 : decode cX6_isReady 53 = .ok (.iload_n 2, 1) := by decide +kernel
theorem dX6_isReady_54 : decode cX6_isReady 54 = .ok (.iload 4, 2) := by decide +kernel
theorem dX6_isReady_56 : decode cX6_isReady 56 = .ok (.invokevirtual 231, 3) := by decide +kernel
theorem dX6_isReady_59 : decode cX6_isReady 59 = .ok (.iconst (-1), 1) := by decide +kernel
theorem dX6_isReady_60 : decode cX6_isReady 60 = .ok (.if_icmp .eq 7, 3) := by decide +kernel
theorem dX6_isReady_63 : decode cX6_isReady 63 = .ok (.iconst 1, 1) := by decide +kernel
theorem dX6_isReady_64 : decode cX6_isReady 64 = .ok (.goto 4, 3) := by decide +kernel
theorem dX6_isReady_67 : decode cX6_isReady 67 = .ok (.iconst 0, 1) := by decide +kernel
theorem dX6_isReady_68 : decode cX6_isReady 68 = .ok (.ireturn, 1) := by decide +kernel
theorem dX6_offerActors_0 : decode cX6_offerActors 0 = .ok (.aload_n 0, 1) := by decide +kernel
theorem dX6_offerActors_1 : decode cX6_offerActors 1 = .ok (.getfield 33, 3) := by decide +kernel
theorem dX6_offerActors_4 : decode cX6_offerActors 4 = .ok (.invokevirtual 234, 3) := by decide +kernel
theorem dX6_offerActors_7 : decode cX6_offerActors 7 = .ok (.iconst 0, 1) := by decide +kernel
theorem dX6_offerActors_8 : decode cX6_offerActors 8 = .ok (.istore_n 2, 1) := by decide +kernel
theorem dX6_offerActors_9 : decode cX6_offerActors 9 = .ok (.iload_n 2, 1) := by decide +kernel
theorem dX6_offerActors_10 : decode cX6_offerActors 10 = .ok (.aload_n 0, 1) := by decide +kernel
theorem dX6_offerActors_11 : decode cX6_offerActors 11 = .ok (.getfield 51, 3) := by decide +kernel
theorem dX6_offerActors_14 : decode cX6_offerActors 14 = .ok (.if_icmp .ge 100, 3) := by decide +kernel
theorem dX6_offerActors_17 : decode cX6_offerActors 17 = .ok (.iconst 0, 1) := by decide +kernel
theorem dX6_offerActors_18 : decode cX6_offerActors 18 = .ok (.istore_n 3, 1) := by decide +kernel
theorem dX6_offerActors_19 : decode cX6_offerActors 19 = .ok (.iload_n 3, 1) := by decide +kernel
theorem dX6_offerActors_20 : decode cX6_offerActors 20 = .ok (.iconst 4, 1) := by decide +kernel
theorem dX6_offerActors_21 : decode cX6_offerActors 21 = .ok (.if_icmp .ge 87, 3) := by decide +kernel
theorem dX6_offerActors_24 : decode cX6_offerActors 24 = .ok (.aload_n 0, 1) := by decide +kernel
theorem dX6_offerActors_25 : decode cX6_offerActors 25 = .ok (.getfield 19, 3) := by decide +kernel
theorem dX6_offerActors_28 : decode cX6_offerActors 28 = .ok (.iload_n 2, 1) := by decide +kernel
theorem dX6_offerActors_29 : decode cX6_offerActors 29 = .ok (.iload_n 3, 1) := by decide +kernel
theorem dX6_offerActors_30 : decode cX6_offerActors 30 = .ok (.invokevirtual 193, 3) := by decide +kernel
theorem dX6_offerActors_33 : decode cX6_offerActors 33 = .ok (.istore 4, 2) := by decide +kernel
theorem dX6_offerActors_35 : decode cX6_offerActors 35 = .ok (.iload 4, 2) := by decide +kernel
theorem dX6_offerActors_37 : decode cX6_offerActors 37 = .ok (.iconst (-1), 1) := by decide +kernel
theorem dX6_offerActors_38 : decode cX6_offerActors 38 = .ok (.if_icmp .eq 64, 3) := by decide +kernel
theorem dX6_offerActors_41 : decode cX6_offerActors 41 = .ok (.aload_n 0, 1) := by decide +kernel
theorem dX6_offerActors_42 : decode cX6_offerActors 42 = .ok (.iload 4, 2) := by decide +kernel
theorem dX6_offerActors_44 : decode cX6_offerActors 44 = .ok (.iload_n 2, 1) := by decide +kernel
theorem dX6_offerActors_45 : decode cX6_offerActors 45 = .ok (.iload_n 1, 1) := by decide +kernel
theorem dX6_offerActors_46 : decode cX6_offerActors 46 = .ok (.invokevirtual 146, 3) := by decide +kernel
theorem dX6_offerActors_49 : decode cX6_offerActors 49 = .ok (.ifCond .eq 53, 3) := by decide +kernel
theorem dX6_offerActors_52 : decode cX6_offerActors 52 = .ok (.aload_n 0, 1) := by decide +kernel
theorem dX6_offerActors_53 : decode cX6_offerActors 53 = .ok (.getfield 26, 3) := by decide +kernel
theorem dX6_offerActors_56 : decode cX6_offerActors 56 = .ok (.iload_n 2, 1) := by decide +kernel
theorem dX6_offerActors_57 : decode cX6_offerActors 57 = .ok (.aload_n 0, 1) := by decide +kernel
theorem dX6_offerActors_58 : decode cX6_offerActors 58 = .ok (.getfield 10, 3) := by decide +kernel
theorem dX6_offerActors_61 : decode cX6_offerActors 61 = .ok (.getfield 72, 3) := by decide +kernel
theorem dX6_offerActors_64 : decode cX6_offerActors 64 = .ok (.iload 4, 2) := by decide +kernel
theorem dX6_offerActors_66 : decode cX6_offerActors 66 = .ok (.iaload, 1) := by decide +kernel
theorem dX6_offerActors_67 : decode cX6_offerActors 67 = .ok (.invokevirtual 228, 3) := by decide +kernel
theorem dX6_offerActors_70 : decode cX6_offerActors 70 = .ok (.iconst (-1), 1) := by decide +kernel
theorem dX6_offerActors_71 : decode cX6_offerActors 71 = .ok (.if_icmp .ne 7, 3) := by decide +kernel
theorem dX6_offerActors_74 : decode cX6_offerActors 74 = .ok (.iconst 1, 1) := by decide +kernel
theorem dX6_offerActors_75 : decode cX6_offerActors 75 = .ok (.goto 4, 3) := by decide +kernel
theorem dX6_offerActors_78 : decode cX6_offerActors 78 = .ok (.iconst 0, 1) := by decide +kernel
theorem dX6_offerActors_79 : decode cX6_offerActors 79 = .ok (.istore 5, 2) := by decide +kernel
theorem dX6_offerActors_81 : decode cX6_offerActors 81 = .ok (.aload_n 0, 1) := by decide +kernel
theorem dX6_offerActors_82 : decode cX6_offerActors 82 = .ok (.getfield 33, 3) := by decide +kernel
theorem dX6_offerActors_85 : decode cX6_offerActors 85 = .ok (.iload_n 2, 1) := by decide +kernel
theorem dX6_offerActors_86 : decode cX6_offerActors 86 = .ok (.iload_n 3, 1) := by decide +kernel
theorem dX6_offerActors_87 : decode cX6_offerActors 87 = .ok (.iload 4, 2) := by decide +kernel
theorem dX6_offerActors_89 : decode cX6_offerActors 89 = .ok (.iload 5, 2) := by decide +kernel
theorem dX6_offerActors_91 : decode cX6_offerActors 91 = .ok (.ifCond .eq 7, 3) := by decide +kernel
theorem dX6_offerActors_94 : decode cX6_offerActors 94 = .ok (.iconst 1, 1) := by decide +kernel
theorem dX6_offerActors_95 : decode cX6_offerActors 95 = .ok (.goto 4, 3) := by decide +kernel
theorem dX6_offerActors_98 : decode cX6_offerActors 98 = .ok (.iconst 0, 1) := by decide +kernel
theorem dX6_offerActors_99 : decode cX6_offerActors 99 = .ok (.invokevirtual 237, 3) := by decide +kernel
theorem dX6_offerActors_102 : decode cX6_offerActors 102 = .ok (.iinc 3 1, 3) := by decide +kernel
theorem dX6_offerActors_105 : decode cX6_offerActors 105 = .ok (.goto (-86), 3) := by decide +kernel
theorem dX6_offerActors_108 : decode cX6_offerActors 108 = .ok (.iinc 2 1, 3) := by decide +kernel
theorem dX6_offerActors_111 : decode cX6_offerActors 111 = .ok (.goto (-102), 3) := by decide +kernel
theorem dX6_offerActors_114 : decode cX6_offerActors 114 = .ok (.return_, 1) := by decide +kernel
theorem dX6_bestCast_0 : decode cX6_bestCast 0 = .ok (.aload_n 0, 1) := by decide +kernel
theorem dX6_bestCast_1 : decode cX6_bestCast 1 = .ok (.iload_n 1, 1) := by decide +kernel
theorem dX6_bestCast_2 : decode cX6_bestCast 2 = .ok (.invokevirtual 156, 3) := by decide +kernel
theorem dX6_bestCast_5 : decode cX6_bestCast 5 = .ok (.aload_n 0, 1) := by decide +kernel
theorem dX6_bestCast_6 : decode cX6_bestCast 6 = .ok (.getfield 33, 3) := by decide +kernel
theorem dX6_bestCast_9 : decode cX6_bestCast 9 = .ok (.aload_n 0, 1) := by decide +kernel
theorem dX6_bestCast_10 : decode cX6_bestCast 10 = .ok (.getfield 51, 3) := by decide +kernel
theorem dX6_bestCast_13 : decode cX6_bestCast 13 = .ok (.invokevirtual 241, 3) := by decide +kernel
theorem dX6_bestCast_16 : decode cX6_bestCast 16 = .ok (.ireturn, 1) := by decide +kernel
theorem dX6_actorIn_0 : decode cX6_actorIn 0 = .ok (.aload_n 0, 1) := by decide +kernel
theorem dX6_actorIn_1 : decode cX6_actorIn 1 = .ok (.getfield 19, 3) := by decide +kernel
theorem dX6_actorIn_4 : decode cX6_actorIn 4 = .ok (.iload_n 2, 1) := by decide +kernel
theorem dX6_actorIn_5 : decode cX6_actorIn 5 = .ok (.iload_n 1, 1) := by decide +kernel
theorem dX6_actorIn_6 : decode cX6_actorIn 6 = .ok (.iload_n 2, 1) := by decide +kernel
theorem dX6_actorIn_7 : decode cX6_actorIn 7 = .ok (.invokestatic 244, 3) := by decide +kernel
theorem dX6_actorIn_10 : decode cX6_actorIn 10 = .ok (.invokevirtual 193, 3) := by decide +kernel
theorem dX6_actorIn_13 : decode cX6_actorIn 13 = .ok (.ireturn, 1) := by decide +kernel
theorem dX6_countOthers_0 : decode cX6_countOthers 0 = .ok (.iconst 0, 1) := by decide +kernel
theorem dX6_countOthers_1 : decode cX6_countOthers 1 = .ok (.istore_n 3, 1) := by decide +kernel
theorem dX6_countOthers_2 : decode cX6_countOthers 2 = .ok (.iconst 0, 1) := by decide +kernel
theorem dX6_countOthers_3 : decode cX6_countOthers 3 = .ok (.istore 4, 2) := by decide +kernel
theorem dX6_countOthers_5 : decode cX6_countOthers 5 = .ok (.iload 4, 2) := by decide +kernel
theorem dX6_countOthers_7 : decode cX6_countOthers 7 = .ok (.aload_n 0, 1) := by decide +kernel
theorem dX6_countOthers_8 : decode cX6_countOthers 8 = .ok (.getfield 51, 3) := by decide +kernel
theorem dX6_countOthers_11 : decode cX6_countOthers 11 = .ok (.if_icmp .ge 29, 3) := by decide +kernel
theorem dX6_countOthers_14 : decode cX6_countOthers 14 = .ok (.aload_n 0, 1) := by decide +kernel
theorem dX6_countOthers_15 : decode cX6_countOthers 15 = .ok (.iload_n 1, 1) := by decide +kernel
theorem dX6_countOthers_16 : decode cX6_countOthers 16 = .ok (.iload 4, 2) := by decide +kernel
theorem dX6_countOthers_18 : decode cX6_countOthers 18 = .ok (.invokevirtual 165, 3) := by decide +kernel
theorem dX6_countOthers_21 : decode cX6_countOthers 21 = .ok (.aload_n 0, 1) := by decide +kernel
theorem dX6_countOthers_22 : decode cX6_countOthers 22 = .ok (.iload_n 2, 1) := by decide +kernel
theorem dX6_countOthers_23 : decode cX6_countOthers 23 = .ok (.iload 4, 2) := by decide +kernel
theorem dX6_countOthers_25 : decode cX6_countOthers 25 = .ok (.invokevirtual 165, 3) := by decide +kernel
theorem dX6_countOthers_28 : decode cX6_countOthers 28 = .ok (.if_icmp .eq 6, 3) := by decide +kernel
theorem dX6_countOthers_31 : decode cX6_countOthers 31 = .ok (.iinc 3 1, 3) := by decide +kernel
theorem dX6_countOthers_34 : decode cX6_countOthers 34 = .ok (.iinc 4 1, 3) := by decide +kernel
theorem dX6_countOthers_37 : decode cX6_countOthers 37 = .ok (.goto (-32), 3) := by decide +kernel
theorem dX6_countOthers_40 : decode cX6_countOthers 40 = .ok (.iload_n 3, 1) := by decide +kernel
theorem dX6_countOthers_41 : decode cX6_countOthers 41 = .ok (.ireturn, 1) := by decide +kernel
theorem dJ6_bitCount_0f7a4_0 : decode cJ6_bitCount_0f7a4 0 = .ok (.iload_n 0, 1) := by decide +kernel
theorem dJ6_bitCount_0f7a4_1 : decode cJ6_bitCount_0f7a4 1 = .ok (.iload_n 0, 1) := by decide +kernel
theorem dJ6_bitCount_0f7a4_2 : decode cJ6_bitCount_0f7a4 2 = .ok (.iconst 1, 1) := by decide +kernel
theorem dJ6_bitCount_0f7a4_3 : decode cJ6_bitCount_0f7a4 3 = .ok (.iushr, 1) := by decide +kernel
theorem dJ6_bitCount_0f7a4_4 : decode cJ6_bitCount_0f7a4 4 = .ok (.ldc_w 265, 3) := by decide +kernel
theorem dJ6_bitCount_0f7a4_7 : decode cJ6_bitCount_0f7a4 7 = .ok (.iand, 1) := by decide +kernel
theorem dJ6_bitCount_0f7a4_8 : decode cJ6_bitCount_0f7a4 8 = .ok (.isub, 1) := by decide +kernel
theorem dJ6_bitCount_0f7a4_9 : decode cJ6_bitCount_0f7a4 9 = .ok (.istore_n 0, 1) := by decide +kernel
theorem dJ6_bitCount_0f7a4_10 : decode cJ6_bitCount_0f7a4 10 = .ok (.iload_n 0, 1) := by decide +kernel
theorem dJ6_bitCount_0f7a4_11 : decode cJ6_bitCount_0f7a4 11 = .ok (.ldc_w 266, 3) := by decide +kernel
theorem dJ6_bitCount_0f7a4_14 : decode cJ6_bitCount_0f7a4 14 = .ok (.iand, 1) := by decide +kernel
theorem dJ6_bitCount_0f7a4_15 : decode cJ6_bitCount_0f7a4 15 = .ok (.iload_n 0, 1) := by decide +kernel
theorem dJ6_bitCount_0f7a4_16 : decode cJ6_bitCount_0f7a4 16 = .ok (.iconst 2, 1) := by decide +kernel
theorem dJ6_bitCount_0f7a4_17 : decode cJ6_bitCount_0f7a4 17 = .ok (.iushr, 1) := by decide +kernel
theorem dJ6_bitCount_0f7a4_18 : decode cJ6_bitCount_0f7a4 18 = .ok (.ldc_w 266, 3) := by decide +kernel
theorem dJ6_bitCount_0f7a4_21 : decode cJ6_bitCount_0f7a4 21 = .ok (.iand, 1) := by decide +kernel
theorem dJ6_bitCount_0f7a4_22 : decode cJ6_bitCount_0f7a4 22 = .ok (.iadd, 1) := by decide +kernel
theorem dJ6_bitCount_0f7a4_23 : decode cJ6_bitCount_0f7a4 23 = .ok (.istore_n 0, 1) := by decide +kernel
theorem dJ6_bitCount_0f7a4_24 : decode cJ6_bitCount_0f7a4 24 = .ok (.iload_n 0, 1) := by decide +kernel
theorem dJ6_bitCount_0f7a4_25 : decode cJ6_bitCount_0f7a4 25 = .ok (.iload_n 0, 1) := by decide +kernel
theorem dJ6_bitCount_0f7a4_26 : decode cJ6_bitCount_0f7a4 26 = .ok (.iconst 4, 1) := by decide +kernel
theorem dJ6_bitCount_0f7a4_27 : decode cJ6_bitCount_0f7a4 27 = .ok (.iushr, 1) := by decide +kernel
theorem dJ6_bitCount_0f7a4_28 : decode cJ6_bitCount_0f7a4 28 = .ok (.iadd, 1) := by decide +kernel
theorem dJ6_bitCount_0f7a4_29 : decode cJ6_bitCount_0f7a4 29 = .ok (.ldc_w 267, 3) := by decide +kernel
theorem dJ6_bitCount_0f7a4_32 : decode cJ6_bitCount_0f7a4 32 = .ok (.iand, 1) := by decide +kernel
theorem dJ6_bitCount_0f7a4_33 : decode cJ6_bitCount_0f7a4 33 = .ok (.istore_n 0, 1) := by decide +kernel
theorem dJ6_bitCount_0f7a4_34 : decode cJ6_bitCount_0f7a4 34 = .ok (.iload_n 0, 1) := by decide +kernel
theorem dJ6_bitCount_0f7a4_35 : decode cJ6_bitCount_0f7a4 35 = .ok (.iload_n 0, 1) := by decide +kernel
theorem dJ6_bitCount_0f7a4_36 : decode cJ6_bitCount_0f7a4 36 = .ok (.bipush 8, 2) := by decide +kernel
theorem dJ6_bitCount_0f7a4_38 : decode cJ6_bitCount_0f7a4 38 = .ok (.iushr, 1) := by decide +kernel
theorem dJ6_bitCount_0f7a4_39 : decode cJ6_bitCount_0f7a4 39 = .ok (.iadd, 1) := by decide +kernel
theorem dJ6_bitCount_0f7a4_40 : decode cJ6_bitCount_0f7a4 40 = .ok (.istore_n 0, 1) := by decide +kernel
theorem dJ6_bitCount_0f7a4_41 : decode cJ6_bitCount_0f7a4 41 = .ok (.iload_n 0, 1) := by decide +kernel
theorem dJ6_bitCount_0f7a4_42 : decode cJ6_bitCount_0f7a4 42 = .ok (.iload_n 0, 1) := by decide +kernel
theorem dJ6_bitCount_0f7a4_43 : decode cJ6_bitCount_0f7a4 43 = .ok (.bipush 16, 2) := by decide +kernel
theorem dJ6_bitCount_0f7a4_45 : decode cJ6_bitCount_0f7a4 45 = .ok (.iushr, 1) := by decide +kernel
theorem dJ6_bitCount_0f7a4_46 : decode cJ6_bitCount_0f7a4 46 = .ok (.iadd, 1) := by decide +kernel
theorem dJ6_bitCount_0f7a4_47 : decode cJ6_bitCount_0f7a4 47 = .ok (.istore_n 0, 1) := by decide +kernel
theorem dJ6_bitCount_0f7a4_48 : decode cJ6_bitCount_0f7a4 48 = .ok (.iload_n 0, 1) := by decide +kernel
theorem dJ6_bitCount_0f7a4_49 : decode cJ6_bitCount_0f7a4 49 = .ok (.bipush 63, 2) := by decide +kernel
theorem dJ6_bitCount_0f7a4_51 : decode cJ6_bitCount_0f7a4 51 = .ok (.iand, 1) := by decide +kernel
theorem dJ6_bitCount_0f7a4_52 : decode cJ6_bitCount_0f7a4 52 = .ok (.ireturn, 1) := by decide +kernel
theorem dJ9_max_7cf53_0 : decode cJ9_max_7cf53 0 = .ok (.iload_n 0, 1) := by decide +kernel
theorem dJ9_max_7cf53_1 : decode cJ9_max_7cf53 1 = .ok (.iload_n 1, 1) := by decide +kernel
theorem dJ9_max_7cf53_2 : decode cJ9_max_7cf53 2 = .ok (.if_icmp .lt 7, 3) := by decide +kernel
theorem dJ9_max_7cf53_5 : decode cJ9_max_7cf53 5 = .ok (.iload_n 0, 1) := by decide +kernel
theorem dJ9_max_7cf53_6 : decode cJ9_max_7cf53 6 = .ok (.goto 4, 3) := by decide +kernel
theorem dJ9_max_7cf53_9 : decode cJ9_max_7cf53 9 = .ok (.iload_n 1, 1) := by decide +kernel
theorem dJ9_max_7cf53_10 : decode cJ9_max_7cf53 10 = .ok (.ireturn, 1) := by decide +kernel
theorem dL_cell_0 : decode cL_cell 0 = .ok (.iload_n 1, 1) := by decide +kernel
theorem dL_cell_1 : decode cL_cell 1 = .ok (.aload_n 0, 1) := by decide +kernel
theorem dL_cell_2 : decode cL_cell 2 = .ok (.arraylength, 1) := by decide +kernel
theorem dL_cell_3 : decode cL_cell 3 = .ok (.if_icmp .ge 9, 3) := by decide +kernel
theorem dL_cell_6 : decode cL_cell 6 = .ok (.aload_n 0, 1) := by decide +kernel
theorem dL_cell_7 : decode cL_cell 7 = .ok (.iload_n 1, 1) := by decide +kernel
theorem dL_cell_8 : decode cL_cell 8 = .ok (.iaload, 1) := by decide +kernel
theorem dL_cell_9 : decode cL_cell 9 = .ok (.goto 9, 3) := by decide +kernel
theorem dL_cell_12 : decode cL_cell 12 = .ok (.ldc 7, 2) := by decide +kernel
theorem dL_cell_14 : decode cL_cell 14 = .ok (.iload_n 1, 1) := by decide +kernel
theorem dL_cell_15 : decode cL_cell 15 = .ok (.iconst 1, 1) := by decide +kernel
theorem dL_cell_16 : decode cL_cell 16 = .ok (.iadd, 1) := by decide +kernel
theorem dL_cell_17 : decode cL_cell 17 = .ok (.imul, 1) := by decide +kernel
theorem dL_cell_18 : decode cL_cell 18 = .ok (.ireturn, 1) := by decide +kernel
theorem dL_at_0 : decode cL_at 0 = .ok (.iload_n 0, 1) := by decide +kernel
theorem dL_at_1 : decode cL_at 1 = .ok (.iconst 1, 1) := by decide +kernel
theorem dL_at_2 : decode cL_at 2 = .ok (.iushr, 1) := by decide +kernel
theorem dL_at_3 : decode cL_at 3 = .ok (.iload_n 1, 1) := by decide +kernel
theorem dL_at_4 : decode cL_at 4 = .ok (.irem, 1) := by decide +kernel
theorem dL_at_5 : decode cL_at 5 = .ok (.ireturn, 1) := by decide +kernel
theorem dL_rank_0 : decode cL_rank 0 = .ok (.iconst 0, 1) := by decide +kernel
theorem dL_rank_1 : decode cL_rank 1 = .ok (.istore 4, 2) := by decide +kernel
theorem dL_rank_3 : decode cL_rank 3 = .ok (.iload 4, 2) := by decide +kernel
theorem dL_rank_5 : decode cL_rank 5 = .ok (.aload_n 3, 1) := by decide +kernel
theorem dL_rank_6 : decode cL_rank 6 = .ok (.iload_n 0, 1) := by decide +kernel
theorem dL_rank_7 : decode cL_rank 7 = .ok (.iaload, 1) := by decide +kernel
theorem dL_rank_8 : decode cL_rank 8 = .ok (.if_icmp .ge 24, 3) := by decide +kernel
theorem dL_rank_11 : decode cL_rank 11 = .ok (.aload_n 2, 1) := by decide +kernel
theorem dL_rank_12 : decode cL_rank 12 = .ok (.iconst 4, 1) := by decide +kernel
theorem dL_rank_13 : decode cL_rank 13 = .ok (.iload_n 0, 1) := by decide +kernel
theorem dL_rank_14 : decode cL_rank 14 = .ok (.imul, 1) := by decide +kernel
theorem dL_rank_15 : decode cL_rank 15 = .ok (.iload 4, 2) := by decide +kernel
theorem dL_rank_17 : decode cL_rank 17 = .ok (.iadd, 1) := by decide +kernel
theorem dL_rank_18 : decode cL_rank 18 = .ok (.iaload, 1) := by decide +kernel
theorem dL_rank_19 : decode cL_rank 19 = .ok (.iload_n 1, 1) := by decide +kernel
theorem dL_rank_20 : decode cL_rank 20 = .ok (.if_icmp .ne 6, 3) := by decide +kernel
theorem dL_rank_23 : decode cL_rank 23 = .ok (.iload 4, 2) := by decide +kernel
theorem dL_rank_25 : decode cL_rank 25 = .ok (.ireturn, 1) := by decide +kernel
theorem dL_rank_26 : decode cL_rank 26 = .ok (.iinc 4 1, 3) := by decide +kernel
theorem dL_rank_29 : decode cL_rank 29 = .ok (.goto (-26), 3) := by decide +kernel
theorem dL_rank_32 : decode cL_rank 32 = .ok (.iconst (-1), 1) := by decide +kernel
theorem dL_rank_33 : decode cL_rank 33 = .ok (.ireturn, 1) := by decide +kernel
theorem dL_plays_0 : decode cL_plays 0 = .ok (.iconst 0, 1) := by decide +kernel
theorem dL_plays_1 : decode cL_plays 1 = .ok (.istore 4, 2) := by decide +kernel
theorem dL_plays_3 : decode cL_plays 3 = .ok (.iload 4, 2) := by decide +kernel
theorem dL_plays_5 : decode cL_plays 5 = .ok (.aload_n 3, 1) := by decide +kernel
theorem dL_plays_6 : decode cL_plays 6 = .ok (.iconst 0, 1) := by decide +kernel
theorem dL_plays_7 : decode cL_plays 7 = .ok (.iaload, 1) := by decide +kernel
theorem dL_plays_8 : decode cL_plays 8 = .ok (.if_icmp .ge 22, 3) := by decide +kernel
theorem dL_plays_11 : decode cL_plays 11 = .ok (.aload_n 0, 1) := by decide +kernel
theorem dL_plays_12 : decode cL_plays 12 = .ok (.iload_n 1, 1) := by decide +kernel
theorem dL_plays_13 : decode cL_plays 13 = .ok (.iload 4, 2) := by decide +kernel
theorem dL_plays_15 : decode cL_plays 15 = .ok (.invokevirtual 8, 3) := by decide +kernel
theorem dL_plays_18 : decode cL_plays 18 = .ok (.iload_n 2, 1) := by decide +kernel
theorem dL_plays_19 : decode cL_plays 19 = .ok (.if_icmp .ne 5, 3) := by decide +kernel
theorem dL_plays_22 : decode cL_plays 22 = .ok (.iconst 1, 1) := by decide +kernel
theorem dL_plays_23 : decode cL_plays 23 = .ok (.ireturn, 1) := by decide +kernel
theorem dL_plays_24 : decode cL_plays 24 = .ok (.iinc 4 1, 3) := by decide +kernel
theorem dL_plays_27 : decode cL_plays 27 = .ok (.goto (-24), 3) := by decide +kernel
theorem dL_plays_30 : decode cL_plays 30 = .ok (.iconst 0, 1) := by decide +kernel
theorem dL_plays_31 : decode cL_plays 31 = .ok (.ireturn, 1) := by decide +kernel
theorem dL_good_0 : decode cL_good 0 = .ok (.aload_n 0, 1) := by decide +kernel
theorem dL_good_1 : decode cL_good 1 = .ok (.iload_n 1, 1) := by decide +kernel
theorem dL_good_2 : decode cL_good 2 = .ok (.invokevirtual 14, 3) := by decide +kernel
theorem dL_good_5 : decode cL_good 5 = .ok (.istore 5, 2) := by decide +kernel
theorem dL_good_7 : decode cL_good 7 = .ok (.iload 5, 2) := by decide +kernel
theorem dL_good_9 : decode cL_good 9 = .ok (.aload_n 0, 1) := by decide +kernel
theorem dL_good_10 : decode cL_good 10 = .ok (.iload_n 1, 1) := by decide +kernel
theorem dL_good_11 : decode cL_good 11 = .ok (.invokevirtual 18, 3) := by decide +kernel
theorem dL_good_14 : decode cL_good 14 = .ok (.if_icmp .eq 5, 3) := by decide +kernel
theorem dL_good_17 : decode cL_good 17 = .ok (.iconst 0, 1) := by decide +kernel
theorem dL_good_18 : decode cL_good 18 = .ok (.ireturn, 1) := by decide +kernel
theorem dL_good_19 : decode cL_good 19 = .ok (.iload 5, 2) := by decide +kernel
theorem dL_good_21 : decode cL_good 21 = .ok (.ifCond .ge 34, 3) := by decide +kernel
theorem dL_good_24 : decode cL_good 24 = .ok (.iload 5, 2) := by decide +kernel
theorem dL_good_26 : decode cL_good 26 = .ok (.iconst (-1), 1) := by decide +kernel
theorem dL_good_27 : decode cL_good 27 = .ok (.if_icmp .ne 26, 3) := by decide +kernel
theorem dL_good_30 : decode cL_good 30 = .ok (.aload_n 0, 1) := by decide +kernel
theorem dL_good_31 : decode cL_good 31 = .ok (.iload_n 1, 1) := by decide +kernel
theorem dL_good_32 : decode cL_good 32 = .ok (.invokevirtual 21, 3) := by decide +kernel
theorem dL_good_35 : decode cL_good 35 = .ok (.iconst (-1), 1) := by decide +kernel
theorem dL_good_36 : decode cL_good 36 = .ok (.if_icmp .ne 17, 3) := by decide +kernel
theorem dL_good_39 : decode cL_good 39 = .ok (.aload_n 0, 1) := by decide +kernel
theorem dL_good_40 : decode cL_good 40 = .ok (.iload_n 1, 1) := by decide +kernel
theorem dL_good_41 : decode cL_good 41 = .ok (.iconst 0, 1) := by decide +kernel
theorem dL_good_42 : decode cL_good 42 = .ok (.invokevirtual 8, 3) := by decide +kernel
theorem dL_good_45 : decode cL_good 45 = .ok (.iconst (-1), 1) := by decide +kernel
theorem dL_good_46 : decode cL_good 46 = .ok (.if_icmp .ne 7, 3) := by decide +kernel
theorem dL_good_49 : decode cL_good 49 = .ok (.iconst 1, 1) := by decide +kernel
theorem dL_good_50 : decode cL_good 50 = .ok (.goto 4, 3) := by decide +kernel
theorem dL_good_53 : decode cL_good 53 = .ok (.iconst 0, 1) := by decide +kernel
theorem dL_good_54 : decode cL_good 54 = .ok (.ireturn, 1) := by decide +kernel
theorem dL_good_55 : decode cL_good 55 = .ok (.iconst 0, 1) := by decide +kernel
theorem dL_good_56 : decode cL_good 56 = .ok (.istore 6, 2) := by decide +kernel
theorem dL_good_58 : decode cL_good 58 = .ok (.iconst 0, 1) := by decide +kernel
theorem dL_good_59 : decode cL_good 59 = .ok (.istore 7, 2) := by decide +kernel
theorem dL_good_61 : decode cL_good 61 = .ok (.iconst 0, 1) := by decide +kernel
theorem dL_good_62 : decode cL_good 62 = .ok (.istore 8, 2) := by decide +kernel
theorem dL_good_64 : decode cL_good 64 = .ok (.iload 8, 2) := by decide +kernel
theorem dL_good_66 : decode cL_good 66 = .ok (.aload 4, 2) := by decide +kernel
theorem dL_good_68 : decode cL_good 68 = .ok (.iconst 0, 1) := by decide +kernel
theorem dL_good_69 : decode cL_good 69 = .ok (.iaload, 1) := by decide +kernel
theorem dL_good_70 : decode cL_good 70 = .ok (.if_icmp .ge 71, 3) := by decide +kernel
theorem dL_good_73 : decode cL_good 73 = .ok (.aload_n 0, 1) := by decide +kernel
theorem dL_good_74 : decode cL_good 74 = .ok (.iload_n 1, 1) := by decide +kernel
theorem dL_good_75 : decode cL_good 75 = .ok (.iload 8, 2) := by decide +kernel
theorem dL_good_77 : decode cL_good 77 = .ok (.invokevirtual 8, 3) := by decide +kernel
theorem dL_good_80 : decode cL_good 80 = .ok (.istore 9, 2) := by decide +kernel
theorem dL_good_82 : decode cL_good 82 = .ok (.iload 9, 2) := by decide +kernel
theorem dL_good_84 : decode cL_good 84 = .ok (.ifCond .lt 26, 3) := by decide +kernel
theorem dL_good_87 : decode cL_good 87 = .ok (.aload_n 0, 1) := by decide +kernel
theorem dL_good_88 : decode cL_good 88 = .ok (.iload 9, 2) := by decide +kernel
theorem dL_good_90 : decode cL_good 90 = .ok (.iload 8, 2) := by decide +kernel
theorem dL_good_92 : decode cL_good 92 = .ok (.iload_n 1, 1) := by decide +kernel
theorem dL_good_93 : decode cL_good 93 = .ok (.invokevirtual 24, 3) := by decide +kernel
theorem dL_good_96 : decode cL_good 96 = .ok (.ifCond .eq 14, 3) := by decide +kernel
theorem dL_good_99 : decode cL_good 99 = .ok (.iload 7, 2) := by decide +kernel
theorem dL_good_101 : decode cL_good 101 = .ok (.iload 9, 2) := by decide +kernel
theorem dL_good_103 : decode cL_good 103 = .ok (.ishr, 1) := by decide +kernel
theorem dL_good_104 : decode cL_good 104 = .ok (.iconst 1, 1) := by decide +kernel
theorem dL_good_105 : decode cL_good 105 = .ok (.iand, 1) := by decide +kernel
theorem dL_good_106 : decode cL_good 106 = .ok (.iconst 1, 1) := by decide +kernel
theorem dL_good_107 : decode cL_good 107 = .ok (.if_icmp .ne 5, 3) := by decide +kernel
theorem dL_good_110 : decode cL_good 110 = .ok (.iconst 0, 1) := by decide +kernel
theorem dL_good_111 : decode cL_good 111 = .ok (.ireturn, 1) := by decide +kernel
theorem dL_good_112 : decode cL_good 112 = .ok (.iload 7, 2) := by decide +kernel
theorem dL_good_114 : decode cL_good 114 = .ok (.iconst 1, 1) := by decide +kernel
theorem dL_good_115 : decode cL_good 115 = .ok (.iload 9, 2) := by decide +kernel
theorem dL_good_117 : decode cL_good 117 = .ok (.ishl, 1) := by decide +kernel
theorem dL_good_118 : decode cL_good 118 = .ok (.ior, 1) := by decide +kernel
theorem dL_good_119 : decode cL_good 119 = .ok (.istore 7, 2) := by decide +kernel
theorem dL_good_121 : decode cL_good 121 = .ok (.iload 6, 2) := by decide +kernel
theorem dL_good_123 : decode cL_good 123 = .ok (.iload 8, 2) := by decide +kernel
theorem dL_good_125 : decode cL_good 125 = .ok (.iload 9, 2) := by decide +kernel
theorem dL_good_127 : decode cL_good 127 = .ok (.aload_n 2, 1) := by decide +kernel
theorem dL_good_128 : decode cL_good 128 = .ok (.aload_n 3, 1) := by decide +kernel
theorem dL_good_129 : decode cL_good 129 = .ok (.invokestatic 28, 3) := by decide +kernel
theorem dL_good_132 : decode cL_good 132 = .ok (.iadd, 1) := by decide +kernel
theorem dL_good_133 : decode cL_good 133 = .ok (.istore 6, 2) := by decide +kernel
theorem dL_good_135 : decode cL_good 135 = .ok (.iinc 8 1, 3) := by decide +kernel
theorem dL_good_138 : decode cL_good 138 = .ok (.goto (-74), 3) := by decide +kernel
theorem dL_good_141 : decode cL_good 141 = .ok (.iconst 0, 1) := by decide +kernel
theorem dL_good_142 : decode cL_good 142 = .ok (.istore 8, 2) := by decide +kernel
theorem dL_good_144 : decode cL_good 144 = .ok (.iload 8, 2) := by decide +kernel
theorem dL_good_146 : decode cL_good 146 = .ok (.aload 4, 2) := by decide +kernel
theorem dL_good_148 : decode cL_good 148 = .ok (.iconst 0, 1) := by decide +kernel
theorem dL_good_149 : decode cL_good 149 = .ok (.iaload, 1) := by decide +kernel
theorem dL_good_150 : decode cL_good 150 = .ok (.if_icmp .ge 79, 3) := by decide +kernel
theorem dL_good_153 : decode cL_good 153 = .ok (.iload 8, 2) := by decide +kernel
theorem dL_good_155 : decode cL_good 155 = .ok (.aload_n 0, 1) := by decide +kernel
theorem dL_good_156 : decode cL_good 156 = .ok (.iload_n 1, 1) := by decide +kernel
theorem dL_good_157 : decode cL_good 157 = .ok (.iload 8, 2) := by decide +kernel
theorem dL_good_159 : decode cL_good 159 = .ok (.invokevirtual 8, 3) := by decide +kernel
theorem dL_good_162 : decode cL_good 162 = .ok (.aload_n 2, 1) := by decide +kernel
theorem dL_good_163 : decode cL_good 163 = .ok (.aload_n 3, 1) := by decide +kernel
theorem dL_good_164 : decode cL_good 164 = .ok (.invokestatic 28, 3) := by decide +kernel
theorem dL_good_167 : decode cL_good 167 = .ok (.istore 9, 2) := by decide +kernel
theorem dL_good_169 : decode cL_good 169 = .ok (.iconst 0, 1) := by decide +kernel
theorem dL_good_170 : decode cL_good 170 = .ok (.istore 10, 2) := by decide +kernel
theorem dL_good_172 : decode cL_good 172 = .ok (.iload 10, 2) := by decide +kernel
theorem dL_good_174 : decode cL_good 174 = .ok (.iload 9, 2) := by decide +kernel
theorem dL_good_176 : decode cL_good 176 = .ok (.if_icmp .ge 47, 3) := by decide +kernel
theorem dL_good_179 : decode cL_good 179 = .ok (.aload_n 0, 1) := by decide +kernel
theorem dL_good_180 : decode cL_good 180 = .ok (.aload_n 2, 1) := by decide +kernel
theorem dL_good_181 : decode cL_good 181 = .ok (.iconst 4, 1) := by decide +kernel
theorem dL_good_182 : decode cL_good 182 = .ok (.iload 8, 2) := by decide +kernel
theorem dL_good_184 : decode cL_good 184 = .ok (.imul, 1) := by decide +kernel
theorem dL_good_185 : decode cL_good 185 = .ok (.iload 10, 2) := by decide +kernel
theorem dL_good_187 : decode cL_good 187 = .ok (.iadd, 1) := by decide +kernel
theorem dL_good_188 : decode cL_good 188 = .ok (.iaload, 1) := by decide +kernel
theorem dL_good_189 : decode cL_good 189 = .ok (.iload 8, 2) := by decide +kernel
theorem dL_good_191 : decode cL_good 191 = .ok (.iload_n 1, 1) := by decide +kernel
theorem dL_good_192 : decode cL_good 192 = .ok (.invokevirtual 24, 3) := by decide +kernel
theorem dL_good_195 : decode cL_good 195 = .ok (.ifCond .eq 22, 3) := by decide +kernel
theorem dL_good_198 : decode cL_good 198 = .ok (.iload 7, 2) := by decide +kernel
theorem dL_good_200 : decode cL_good 200 = .ok (.aload_n 2, 1) := by decide +kernel
theorem dL_good_201 : decode cL_good 201 = .ok (.iconst 4, 1) := by decide +kernel
theorem dL_good_202 : decode cL_good 202 = .ok (.iload 8, 2) := by decide +kernel
theorem dL_good_204 : decode cL_good 204 = .ok (.imul, 1) := by decide +kernel
theorem dL_good_205 : decode cL_good 205 = .ok (.iload 10, 2) := by decide +kernel
theorem dL_good_207 : decode cL_good 207 = .ok (.iadd, 1) := by decide +kernel
theorem dL_good_208 : decode cL_good 208 = .ok (.iaload, 1) := by decide +kernel
theorem dL_good_209 : decode cL_good 209 = .ok (.ishr, 1) := by decide +kernel
theorem dL_good_210 : decode cL_good 210 = .ok (.iconst 1, 1) := by decide +kernel
theorem dL_good_211 : decode cL_good 211 = .ok (.iand, 1) := by decide +kernel
theorem dL_good_212 : decode cL_good 212 = .ok (.ifCond .ne 5, 3) := by decide +kernel
theorem dL_good_215 : decode cL_good 215 = .ok (.iconst 0, 1) := by decide +kernel
theorem dL_good_216 : decode cL_good 216 = .ok (.ireturn, 1) := by decide +kernel
theorem dL_good_217 : decode cL_good 217 = .ok (.iinc 10 1, 3) := by decide +kernel
theorem dL_good_220 : decode cL_good 220 = .ok (.goto (-48), 3) := by decide +kernel
theorem dL_good_223 : decode cL_good 223 = .ok (.iinc 8 1, 3) := by decide +kernel
theorem dL_good_226 : decode cL_good 226 = .ok (.goto (-82), 3) := by decide +kernel
theorem dL_good_229 : decode cL_good 229 = .ok (.iload 6, 2) := by decide +kernel
theorem dL_good_231 : decode cL_good 231 = .ok (.iload 5, 2) := by decide +kernel
theorem dL_good_233 : decode cL_good 233 = .ok (.if_icmp .ne 47, 3) := by decide +kernel
theorem dL_good_236 : decode cL_good 236 = .ok (.aload_n 0, 1) := by decide +kernel
theorem dL_good_237 : decode cL_good 237 = .ok (.iload_n 1, 1) := by decide +kernel
theorem dL_good_238 : decode cL_good 238 = .ok (.invokevirtual 21, 3) := by decide +kernel
theorem dL_good_241 : decode cL_good 241 = .ok (.ifCond .lt 39, 3) := by decide +kernel
theorem dL_good_244 : decode cL_good 244 = .ok (.aload_n 0, 1) := by decide +kernel
theorem dL_good_245 : decode cL_good 245 = .ok (.iload_n 1, 1) := by decide +kernel
theorem dL_good_246 : decode cL_good 246 = .ok (.invokevirtual 21, 3) := by decide +kernel
theorem dL_good_249 : decode cL_good 249 = .ok (.aload 4, 2) := by decide +kernel
theorem dL_good_251 : decode cL_good 251 = .ok (.iconst 0, 1) := by decide +kernel
theorem dL_good_252 : decode cL_good 252 = .ok (.iaload, 1) := by decide +kernel
theorem dL_good_253 : decode cL_good 253 = .ok (.if_icmp .gt 27, 3) := by decide +kernel
theorem dL_good_256 : decode cL_good 256 = .ok (.aload 4, 2) := by decide +kernel
theorem dL_good_258 : decode cL_good 258 = .ok (.iconst 0, 1) := by decide +kernel
theorem dL_good_259 : decode cL_good 259 = .ok (.iaload, 1) := by decide +kernel
theorem dL_good_260 : decode cL_good 260 = .ok (.bipush 8, 2) := by decide +kernel
theorem dL_good_262 : decode cL_good 262 = .ok (.if_icmp .eq 14, 3) := by decide +kernel
theorem dL_good_265 : decode cL_good 265 = .ok (.aload_n 0, 1) := by decide +kernel
theorem dL_good_266 : decode cL_good 266 = .ok (.iload_n 1, 1) := by decide +kernel
theorem dL_good_267 : decode cL_good 267 = .ok (.bipush 7, 2) := by decide +kernel
theorem dL_good_269 : decode cL_good 269 = .ok (.invokevirtual 8, 3) := by decide +kernel
theorem dL_good_272 : decode cL_good 272 = .ok (.iconst (-1), 1) := by decide +kernel
theorem dL_good_273 : decode cL_good 273 = .ok (.if_icmp .ne 7, 3) := by decide +kernel
theorem dL_good_276 : decode cL_good 276 = .ok (.iconst 1, 1) := by decide +kernel
theorem dL_good_277 : decode cL_good 277 = .ok (.goto 4, 3) := by decide +kernel
theorem dL_good_280 : decode cL_good 280 = .ok (.iconst 0, 1) := by decide +kernel
theorem dL_good_281 : decode cL_good 281 = .ok (.ireturn, 1) := by decide +kernel
theorem dL_chained_0 : decode cL_chained 0 = .ok (.aload_n 0, 1) := by decide +kernel
theorem dL_chained_1 : decode cL_chained 1 = .ok (.iload_n 2, 1) := by decide +kernel
theorem dL_chained_2 : decode cL_chained 2 = .ok (.iload_n 1, 1) := by decide +kernel
theorem dL_chained_3 : decode cL_chained 3 = .ok (.invokevirtual 34, 3) := by decide +kernel
theorem dL_chained_6 : decode cL_chained 6 = .ok (.istore 4, 2) := by decide +kernel
theorem dL_chained_8 : decode cL_chained 8 = .ok (.aload_n 0, 1) := by decide +kernel
theorem dL_chained_9 : decode cL_chained 9 = .ok (.iload_n 1, 1) := by decide +kernel
theorem dL_chained_10 : decode cL_chained 10 = .ok (.invokevirtual 14, 3) := by decide +kernel
theorem dL_chained_13 : decode cL_chained 13 = .ok (.ifCond .lt 7, 3) := by decide +kernel
theorem dL_chained_16 : decode cL_chained 16 = .ok (.iconst 1, 1) := by decide +kernel
theorem dL_chained_17 : decode cL_chained 17 = .ok (.goto 4, 3) := by decide +kernel
theorem dL_chained_20 : decode cL_chained 20 = .ok (.iconst 0, 1) := by decide +kernel
theorem dL_chained_21 : decode cL_chained 21 = .ok (.istore 5, 2) := by decide +kernel
theorem dL_chained_23 : decode cL_chained 23 = .ok (.iload 5, 2) := by decide +kernel
theorem dL_chained_25 : decode cL_chained 25 = .ok (.ifCond .ne 15, 3) := by decide +kernel
theorem dL_chained_28 : decode cL_chained 28 = .ok (.iload 4, 2) := by decide +kernel
theorem dL_chained_30 : decode cL_chained 30 = .ok (.iconst (-1), 1) := by decide +kernel
theorem dL_chained_31 : decode cL_chained 31 = .ok (.if_icmp .ne 7, 3) := by decide +kernel
theorem dL_chained_34 : decode cL_chained 34 = .ok (.iconst 1, 1) := by decide +kernel
theorem dL_chained_35 : decode cL_chained 35 = .ok (.goto 4, 3) := by decide +kernel
theorem dL_chained_38 : decode cL_chained 38 = .ok (.iconst 0, 1) := by decide +kernel
theorem dL_chained_39 : decode cL_chained 39 = .ok (.ireturn, 1) := by decide +kernel
theorem dL_chained_40 : decode cL_chained 40 = .ok (.aload_n 0, 1) := by decide +kernel
theorem dL_chained_41 : decode cL_chained 41 = .ok (.iload_n 1, 1) := by decide +kernel
theorem dL_chained_42 : decode cL_chained 42 = .ok (.iload_n 2, 1) := by decide +kernel
theorem dL_chained_43 : decode cL_chained 43 = .ok (.aload_n 3, 1) := by decide +kernel
theorem dL_chained_44 : decode cL_chained 44 = .ok (.invokestatic 37, 3) := by decide +kernel
theorem dL_chained_47 : decode cL_chained 47 = .ok (.ifCond .ne 14, 3) := by decide +kernel
theorem dL_chained_50 : decode cL_chained 50 = .ok (.iload 4, 2) := by decide +kernel
theorem dL_chained_52 : decode cL_chained 52 = .ok (.ifCond .ne 7, 3) := by decide +kernel
theorem dL_chained_55 : decode cL_chained 55 = .ok (.iconst 1, 1) := by decide +kernel
theorem dL_chained_56 : decode cL_chained 56 = .ok (.goto 4, 3) := by decide +kernel
theorem dL_chained_59 : decode cL_chained 59 = .ok (.iconst 0, 1) := by decide +kernel
theorem dL_chained_60 : decode cL_chained 60 = .ok (.ireturn, 1) := by decide +kernel
theorem dL_chained_61 : decode cL_chained 61 = .ok (.iload 4, 2) := by decide +kernel
theorem dL_chained_63 : decode cL_chained 63 = .ok (.iconst (-1), 1) := by decide +kernel
theorem dL_chained_64 : decode cL_chained 64 = .ok (.if_icmp .eq 17, 3) := by decide +kernel
theorem dL_chained_67 : decode cL_chained 67 = .ok (.iload 4, 2) := by decide +kernel
theorem dL_chained_69 : decode cL_chained 69 = .ok (.iconst 1, 1) := by decide +kernel
theorem dL_chained_70 : decode cL_chained 70 = .ok (.if_icmp .lt 15, 3) := by decide +kernel
theorem dL_chained_73 : decode cL_chained 73 = .ok (.iload 4, 2) := by decide +kernel
theorem dL_chained_75 : decode cL_chained 75 = .ok (.aload_n 3, 1) := by decide +kernel
theorem dL_chained_76 : decode cL_chained 76 = .ok (.iconst 0, 1) := by decide +kernel
theorem dL_chained_77 : decode cL_chained 77 = .ok (.iaload, 1) := by decide +kernel
theorem dL_chained_78 : decode cL_chained 78 = .ok (.if_icmp .gt 7, 3) := by decide +kernel
theorem dL_chained_81 : decode cL_chained 81 = .ok (.iconst 1, 1) := by decide +kernel
theorem dL_chained_82 : decode cL_chained 82 = .ok (.goto 4, 3) := by decide +kernel
theorem dL_chained_85 : decode cL_chained 85 = .ok (.iconst 0, 1) := by decide +kernel
theorem dL_chained_86 : decode cL_chained 86 = .ok (.ireturn, 1) := by decide +kernel
theorem dL_cold_0 : decode cL_cold 0 = .ok (.aload_n 0, 1) := by decide +kernel
theorem dL_cold_1 : decode cL_cold 1 = .ok (.iload_n 2, 1) := by decide +kernel
theorem dL_cold_2 : decode cL_cold 2 = .ok (.iload_n 1, 1) := by decide +kernel
theorem dL_cold_3 : decode cL_cold 3 = .ok (.invokevirtual 34, 3) := by decide +kernel
theorem dL_cold_6 : decode cL_cold 6 = .ok (.istore 5, 2) := by decide +kernel
theorem dL_cold_8 : decode cL_cold 8 = .ok (.aload_n 0, 1) := by decide +kernel
theorem dL_cold_9 : decode cL_cold 9 = .ok (.iload_n 1, 1) := by decide +kernel
theorem dL_cold_10 : decode cL_cold 10 = .ok (.invokevirtual 14, 3) := by decide +kernel
theorem dL_cold_13 : decode cL_cold 13 = .ok (.istore 6, 2) := by decide +kernel
theorem dL_cold_15 : decode cL_cold 15 = .ok (.iconst 0, 1) := by decide +kernel
theorem dL_cold_16 : decode cL_cold 16 = .ok (.istore 7, 2) := by decide +kernel
theorem dL_cold_18 : decode cL_cold 18 = .ok (.iload 7, 2) := by decide +kernel
theorem dL_cold_20 : decode cL_cold 20 = .ok (.bipush 8, 2) := by decide +kernel
theorem dL_cold_22 : decode cL_cold 22 = .ok (.if_icmp .ge 21, 3) := by decide +kernel
theorem dL_cold_25 : decode cL_cold 25 = .ok (.aload 4, 2) := by decide +kernel
theorem dL_cold_27 : decode cL_cold 27 = .ok (.iload 7, 2) := by decide +kernel
theorem dL_cold_29 : decode cL_cold 29 = .ok (.aload_n 0, 1) := by decide +kernel
theorem dL_cold_30 : decode cL_cold 30 = .ok (.iload_n 1, 1) := by decide +kernel
theorem dL_cold_31 : decode cL_cold 31 = .ok (.iload 7, 2) := by decide +kernel
theorem dL_cold_33 : decode cL_cold 33 = .ok (.invokevirtual 8, 3) := by decide +kernel
theorem dL_cold_36 : decode cL_cold 36 = .ok (.iastore, 1) := by decide +kernel
theorem dL_cold_37 : decode cL_cold 37 = .ok (.iinc 7 1, 3) := by decide +kernel
theorem dL_cold_40 : decode cL_cold 40 = .ok (.goto (-22), 3) := by decide +kernel
theorem dL_cold_43 : decode cL_cold 43 = .ok (.aload_n 0, 1) := by decide +kernel
theorem dL_cold_44 : decode cL_cold 44 = .ok (.iload_n 2, 1) := by decide +kernel
theorem dL_cold_45 : decode cL_cold 45 = .ok (.iload_n 1, 1) := by decide +kernel
theorem dL_cold_46 : decode cL_cold 46 = .ok (.invokevirtual 41, 3) := by decide +kernel
theorem dL_cold_49 : decode cL_cold 49 = .ok (.istore 7, 2) := by decide +kernel
theorem dL_cold_51 : decode cL_cold 51 = .ok (.aload_n 0, 1) := by decide +kernel
theorem dL_cold_52 : decode cL_cold 52 = .ok (.iload_n 2, 1) := by decide +kernel
theorem dL_cold_53 : decode cL_cold 53 = .ok (.iload_n 1, 1) := by decide +kernel
theorem dL_cold_54 : decode cL_cold 54 = .ok (.iload_n 1, 1) := by decide +kernel
theorem dL_cold_55 : decode cL_cold 55 = .ok (.invokevirtual 45, 3) := by decide +kernel
theorem dL_cold_58 : decode cL_cold 58 = .ok (.iload 7, 2) := by decide +kernel
theorem dL_cold_60 : decode cL_cold 60 = .ok (.ifCond .eq 7, 3) := by decide +kernel
theorem dL_cold_63 : decode cL_cold 63 = .ok (.iconst 0, 1) := by decide +kernel
theorem dL_cold_64 : decode cL_cold 64 = .ok (.goto 4, 3) := by decide +kernel
theorem dL_cold_67 : decode cL_cold 67 = .ok (.iconst 1, 1) := by decide +kernel
theorem dL_cold_68 : decode cL_cold 68 = .ok (.if_icmp .ne 12, 3) := by decide +kernel
theorem dL_cold_71 : decode cL_cold 71 = .ok (.aload_n 0, 1) := by decide +kernel
theorem dL_cold_72 : decode cL_cold 72 = .ok (.iload_n 2, 1) := by decide +kernel
theorem dL_cold_73 : decode cL_cold 73 = .ok (.iload_n 1, 1) := by decide +kernel
theorem dL_cold_74 : decode cL_cold 74 = .ok (.invokevirtual 41, 3) := by decide +kernel
theorem dL_cold_77 : decode cL_cold 77 = .ok (.ifCond .ne 5, 3) := by decide +kernel
theorem dL_cold_80 : decode cL_cold 80 = .ok (.iconst 0, 1) := by decide +kernel
theorem dL_cold_81 : decode cL_cold 81 = .ok (.ireturn, 1) := by decide +kernel
theorem dL_cold_82 : decode cL_cold 82 = .ok (.iload 5, 2) := by decide +kernel
theorem dL_cold_84 : decode cL_cold 84 = .ok (.iconst (-1), 1) := by decide +kernel
theorem dL_cold_85 : decode cL_cold 85 = .ok (.if_icmp .ne 23, 3) := by decide +kernel
theorem dL_cold_88 : decode cL_cold 88 = .ok (.iload 6, 2) := by decide +kernel
theorem dL_cold_90 : decode cL_cold 90 = .ok (.ifCond .lt 12, 3) := by decide +kernel
theorem dL_cold_93 : decode cL_cold 93 = .ok (.aload_n 0, 1) := by decide +kernel
theorem dL_cold_94 : decode cL_cold 94 = .ok (.iload_n 1, 1) := by decide +kernel
theorem dL_cold_95 : decode cL_cold 95 = .ok (.invokevirtual 14, 3) := by decide +kernel
theorem dL_cold_98 : decode cL_cold 98 = .ok (.iconst (-1), 1) := by decide +kernel
theorem dL_cold_99 : decode cL_cold 99 = .ok (.if_icmp .ne 7, 3) := by decide +kernel
theorem dL_cold_102 : decode cL_cold 102 = .ok (.iconst 1, 1) := by decide +kernel
theorem dL_cold_103 : decode cL_cold 103 = .ok (.goto 4, 3) := by decide +kernel
theorem dL_cold_106 : decode cL_cold 106 = .ok (.iconst 0, 1) := by decide +kernel
theorem dL_cold_107 : decode cL_cold 107 = .ok (.ireturn, 1) := by decide +kernel
theorem dL_cold_108 : decode cL_cold 108 = .ok (.iconst 0, 1) := by decide +kernel
theorem dL_cold_109 : decode cL_cold 109 = .ok (.istore 8, 2) := by decide +kernel
theorem dL_cold_111 : decode cL_cold 111 = .ok (.iconst 0, 1) := by decide +kernel
theorem dL_cold_112 : decode cL_cold 112 = .ok (.istore 9, 2) := by decide +kernel
theorem dL_cold_114 : decode cL_cold 114 = .ok (.iload 9, 2) := by decide +kernel
theorem dL_cold_116 : decode cL_cold 116 = .ok (.aload_n 3, 1) := by decide +kernel
theorem dL_cold_117 : decode cL_cold 117 = .ok (.iconst 0, 1) := by decide +kernel
theorem dL_cold_118 : decode cL_cold 118 = .ok (.iaload, 1) := by decide +kernel
theorem dL_cold_119 : decode cL_cold 119 = .ok (.if_icmp .ge 34, 3) := by decide +kernel
theorem dL_cold_122 : decode cL_cold 122 = .ok (.iload 8, 2) := by decide +kernel
theorem dL_cold_124 : decode cL_cold 124 = .ok (.aload_n 0, 1) := by decide +kernel
theorem dL_cold_125 : decode cL_cold 125 = .ok (.iload_n 1, 1) := by decide +kernel
theorem dL_cold_126 : decode cL_cold 126 = .ok (.iload 9, 2) := by decide +kernel
theorem dL_cold_128 : decode cL_cold 128 = .ok (.invokevirtual 8, 3) := by decide +kernel
theorem dL_cold_131 : decode cL_cold 131 = .ok (.aload 4, 2) := by decide +kernel
theorem dL_cold_133 : decode cL_cold 133 = .ok (.iload 9, 2) := by decide +kernel
theorem dL_cold_135 : decode cL_cold 135 = .ok (.iaload, 1) := by decide +kernel
theorem dL_cold_136 : decode cL_cold 136 = .ok (.if_icmp .ne 7, 3) := by decide +kernel
theorem dL_cold_139 : decode cL_cold 139 = .ok (.iconst 0, 1) := by decide +kernel
theorem dL_cold_140 : decode cL_cold 140 = .ok (.goto 4, 3) := by decide +kernel
theorem dL_cold_143 : decode cL_cold 143 = .ok (.iconst 1, 1) := by decide +kernel
theorem dL_cold_144 : decode cL_cold 144 = .ok (.iadd, 1) := by decide +kernel
theorem dL_cold_145 : decode cL_cold 145 = .ok (.istore 8, 2) := by decide +kernel
theorem dL_cold_147 : decode cL_cold 147 = .ok (.iinc 9 1, 3) := by decide +kernel
theorem dL_cold_150 : decode cL_cold 150 = .ok (.goto (-36), 3) := by decide +kernel
theorem dL_cold_153 : decode cL_cold 153 = .ok (.iload 8, 2) := by decide +kernel
theorem dL_cold_155 : decode cL_cold 155 = .ok (.iload 5, 2) := by decide +kernel
theorem dL_cold_157 : decode cL_cold 157 = .ok (.if_icmp .ne 27, 3) := by decide +kernel
theorem dL_cold_160 : decode cL_cold 160 = .ok (.aload_n 0, 1) := by decide +kernel
theorem dL_cold_161 : decode cL_cold 161 = .ok (.iload_n 1, 1) := by decide +kernel
theorem dL_cold_162 : decode cL_cold 162 = .ok (.invokevirtual 14, 3) := by decide +kernel
theorem dL_cold_165 : decode cL_cold 165 = .ok (.iload 6, 2) := by decide +kernel
theorem dL_cold_167 : decode cL_cold 167 = .ok (.if_icmp .lt 17, 3) := by decide +kernel
theorem dL_cold_170 : decode cL_cold 170 = .ok (.aload_n 0, 1) := by decide +kernel
theorem dL_cold_171 : decode cL_cold 171 = .ok (.iload_n 1, 1) := by decide +kernel
theorem dL_cold_172 : decode cL_cold 172 = .ok (.iload_n 2, 1) := by decide +kernel
theorem dL_cold_173 : decode cL_cold 173 = .ok (.aload_n 3, 1) := by decide +kernel
theorem dL_cold_174 : decode cL_cold 174 = .ok (.invokestatic 37, 3) := by decide +kernel
theorem dL_cold_177 : decode cL_cold 177 = .ok (.ifCond .ne 7, 3) := by decide +kernel
theorem dL_cold_180 : decode cL_cold 180 = .ok (.iconst 1, 1) := by decide +kernel
theorem dL_cold_181 : decode cL_cold 181 = .ok (.goto 4, 3) := by decide +kernel
theorem dL_cold_184 : decode cL_cold 184 = .ok (.iconst 0, 1) := by decide +kernel
theorem dL_cold_185 : decode cL_cold 185 = .ok (.ireturn, 1) := by decide +kernel
theorem dL_act_0 : decode cL_act 0 = .ok (.iload_n 1, 1) := by decide +kernel
theorem dL_act_1 : decode cL_act 1 = .ok (.bipush 12, 2) := by decide +kernel
theorem dL_act_3 : decode cL_act 3 = .ok (.invokestatic 49, 3) := by decide +kernel
theorem dL_act_6 : decode cL_act 6 = .ok (.istore 8, 2) := by decide +kernel
theorem dL_act_8 : decode cL_act 8 = .ok (.iload_n 2, 1) := by decide +kernel
theorem dL_act_9 : decode cL_act 9 = .ok (.bipush 12, 2) := by decide +kernel
theorem dL_act_11 : decode cL_act 11 = .ok (.invokestatic 49, 3) := by decide +kernel
theorem dL_act_14 : decode cL_act 14 = .ok (.istore 9, 2) := by decide +kernel
theorem dL_act_16 : decode cL_act 16 = .ok (.iload_n 2, 1) := by decide +kernel
theorem dL_act_17 : decode cL_act 17 = .ok (.iconst 5, 1) := by decide +kernel
theorem dL_act_18 : decode cL_act 18 = .ok (.ishr, 1) := by decide +kernel
theorem dL_act_19 : decode cL_act 19 = .ok (.aload 6, 2) := by decide +kernel
theorem dL_act_21 : decode cL_act 21 = .ok (.iconst 0, 1) := by decide +kernel
theorem dL_act_22 : decode cL_act 22 = .ok (.iaload, 1) := by decide +kernel
theorem dL_act_23 : decode cL_act 23 = .ok (.invokestatic 49, 3) := by decide +kernel
theorem dL_act_26 : decode cL_act 26 = .ok (.istore 10, 2) := by decide +kernel
theorem dL_act_28 : decode cL_act 28 = .ok (.iload 8, 2) := by decide +kernel
theorem dL_act_30 : decode cL_act 30 = .ok (.iconst 3, 1) := by decide +kernel
theorem dL_act_31 : decode cL_act 31 = .ok (.if_icmp .ge 74, 3) := by decide +kernel
theorem dL_act_34 : decode cL_act 34 = .ok (.iload 10, 2) := by decide +kernel
theorem dL_act_36 : decode cL_act 36 = .ok (.iload 9, 2) := by decide +kernel
theorem dL_act_38 : decode cL_act 38 = .ok (.aload_n 3, 1) := by decide +kernel
theorem dL_act_39 : decode cL_act 39 = .ok (.aload 4, 2) := by decide +kernel
theorem dL_act_41 : decode cL_act 41 = .ok (.invokestatic 28, 3) := by decide +kernel
theorem dL_act_44 : decode cL_act 44 = .ok (.ifCond .ge 12, 3) := by decide +kernel
theorem dL_act_47 : decode cL_act 47 = .ok (.aload 4, 2) := by decide +kernel
theorem dL_act_49 : decode cL_act 49 = .ok (.iload 10, 2) := by decide +kernel
theorem dL_act_51 : decode cL_act 51 = .ok (.iaload, 1) := by decide +kernel
theorem dL_act_52 : decode cL_act 52 = .ok (.iconst 4, 1) := by decide +kernel
theorem dL_act_53 : decode cL_act 53 = .ok (.if_icmp .ne 5, 3) := by decide +kernel
theorem dL_act_56 : decode cL_act 56 = .ok (.iconst 1, 1) := by decide +kernel
theorem dL_act_57 : decode cL_act 57 = .ok (.ireturn, 1) := by decide +kernel
theorem dL_act_58 : decode cL_act 58 = .ok (.aload_n 3, 1) := by decide +kernel
theorem dL_act_59 : decode cL_act 59 = .ok (.iconst 4, 1) := by decide +kernel
theorem dL_act_60 : decode cL_act 60 = .ok (.iload 10, 2) := by decide +kernel
theorem dL_act_62 : decode cL_act 62 = .ok (.imul, 1) := by decide +kernel
theorem dL_act_63 : decode cL_act 63 = .ok (.aload 4, 2) := by decide +kernel
theorem dL_act_65 : decode cL_act 65 = .ok (.iload 10, 2) := by decide +kernel
theorem dL_act_67 : decode cL_act 67 = .ok (.iaload, 1) := by decide +kernel
theorem dL_act_68 : decode cL_act 68 = .ok (.iadd, 1) := by decide +kernel
theorem dL_act_69 : decode cL_act 69 = .ok (.iload 9, 2) := by decide +kernel
theorem dL_act_71 : decode cL_act 71 = .ok (.iastore, 1) := by decide +kernel
theorem dL_act_72 : decode cL_act 72 = .ok (.aload 4, 2) := by decide +kernel
theorem dL_act_74 : decode cL_act 74 = .ok (.iload 10, 2) := by decide +kernel
theorem dL_act_76 : decode cL_act 76 = .ok (.dup2, 1) := by decide +kernel
theorem dL_act_77 : decode cL_act 77 = .ok (.iaload, 1) := by decide +kernel
theorem dL_act_78 : decode cL_act 78 = .ok (.iconst 1, 1) := by decide +kernel
theorem dL_act_79 : decode cL_act 79 = .ok (.iadd, 1) := by decide +kernel
theorem dL_act_80 : decode cL_act 80 = .ok (.iastore, 1) := by decide +kernel
theorem dL_act_81 : decode cL_act 81 = .ok (.aload_n 0, 1) := by decide +kernel
theorem dL_act_82 : decode cL_act 82 = .ok (.iload 10, 2) := by decide +kernel
theorem dL_act_84 : decode cL_act 84 = .ok (.iload 9, 2) := by decide +kernel
theorem dL_act_86 : decode cL_act 86 = .ok (.invokevirtual 52, 3) := by decide +kernel
theorem dL_act_89 : decode cL_act 89 = .ok (.aload 4, 2) := by decide +kernel
theorem dL_act_91 : decode cL_act 91 = .ok (.iload 10, 2) := by decide +kernel
theorem dL_act_93 : decode cL_act 93 = .ok (.iaload, 1) := by decide +kernel
theorem dL_act_94 : decode cL_act 94 = .ok (.iconst 1, 1) := by decide +kernel
theorem dL_act_95 : decode cL_act 95 = .ok (.isub, 1) := by decide +kernel
theorem dL_act_96 : decode cL_act 96 = .ok (.if_icmp .ne 7, 3) := by decide +kernel
theorem dL_act_99 : decode cL_act 99 = .ok (.iconst 1, 1) := by decide +kernel
theorem dL_act_100 : decode cL_act 100 = .ok (.goto 4, 3) := by decide +kernel
theorem dL_act_103 : decode cL_act 103 = .ok (.iconst 0, 1) := by decide +kernel
theorem dL_act_104 : decode cL_act 104 = .ok (.ireturn, 1) := by decide +kernel
theorem dL_act_105 : decode cL_act 105 = .ok (.iload 8, 2) := by decide +kernel
theorem dL_act_107 : decode cL_act 107 = .ok (.iconst 3, 1) := by decide +kernel
theorem dL_act_108 : decode cL_act 108 = .ok (.if_icmp .ne 90, 3) := by decide +kernel
theorem dL_act_111 : decode cL_act 111 = .ok (.iload 10, 2) := by decide +kernel
theorem dL_act_113 : decode cL_act 113 = .ok (.iload 9, 2) := by decide +kernel
theorem dL_act_115 : decode cL_act 115 = .ok (.aload_n 3, 1) := by decide +kernel
theorem dL_act_116 : decode cL_act 116 = .ok (.aload 4, 2) := by decide +kernel
theorem dL_act_118 : decode cL_act 118 = .ok (.invokestatic 28, 3) := by decide +kernel
theorem dL_act_121 : decode cL_act 121 = .ok (.istore 11, 2) := by decide +kernel
theorem dL_act_123 : decode cL_act 123 = .ok (.iload 11, 2) := by decide +kernel
theorem dL_act_125 : decode cL_act 125 = .ok (.ifCond .ge 5, 3) := by decide +kernel
theorem dL_act_128 : decode cL_act 128 = .ok (.iconst 1, 1) := by decide +kernel
theorem dL_act_129 : decode cL_act 129 = .ok (.ireturn, 1) := by decide +kernel
theorem dL_act_130 : decode cL_act 130 = .ok (.aload 4, 2) := by decide +kernel
theorem dL_act_132 : decode cL_act 132 = .ok (.iload 10, 2) := by decide +kernel
theorem dL_act_134 : decode cL_act 134 = .ok (.dup2, 1) := by decide +kernel
theorem dL_act_135 : decode cL_act 135 = .ok (.iaload, 1) := by decide +kernel
theorem dL_act_136 : decode cL_act 136 = .ok (.iconst 1, 1) := by decide +kernel
theorem dL_act_137 : decode cL_act 137 = .ok (.isub, 1) := by decide +kernel
theorem dL_act_138 : decode cL_act 138 = .ok (.iastore, 1) := by decide +kernel
theorem dL_act_139 : decode cL_act 139 = .ok (.iload 11, 2) := by decide +kernel
theorem dL_act_141 : decode cL_act 141 = .ok (.istore 12, 2) := by decide +kernel
theorem dL_act_143 : decode cL_act 143 = .ok (.iload 12, 2) := by decide +kernel
theorem dL_act_145 : decode cL_act 145 = .ok (.aload 4, 2) := by decide +kernel
theorem dL_act_147 : decode cL_act 147 = .ok (.iload 10, 2) := by decide +kernel
theorem dL_act_149 : decode cL_act 149 = .ok (.iaload, 1) := by decide +kernel
theorem dL_act_150 : decode cL_act 150 = .ok (.if_icmp .ge 29, 3) := by decide +kernel
theorem dL_act_153 : decode cL_act 153 = .ok (.aload_n 3, 1) := by decide +kernel
theorem dL_act_154 : decode cL_act 154 = .ok (.iconst 4, 1) := by decide +kernel
theorem dL_act_155 : decode cL_act 155 = .ok (.iload 10, 2) := by decide +kernel
theorem dL_act_157 : decode cL_act 157 = .ok (.imul, 1) := by decide +kernel
theorem dL_act_158 : decode cL_act 158 = .ok (.iload 12, 2) := by decide +kernel
theorem dL_act_160 : decode cL_act 160 = .ok (.iadd, 1) := by decide +kernel
theorem dL_act_161 : decode cL_act 161 = .ok (.aload_n 3, 1) := by decide +kernel
theorem dL_act_162 : decode cL_act 162 = .ok (.iconst 4, 1) := by decide +kernel
theorem dL_act_163 : decode cL_act 163 = .ok (.iload 10, 2) := by decide +kernel
theorem dL_act_165 : decode cL_act 165 = .ok (.imul, 1) := by decide +kernel
theorem dL_act_166 : decode cL_act 166 = .ok (.iload 12, 2) := by decide +kernel
theorem dL_act_168 : decode cL_act 168 = .ok (.iadd, 1) := by decide +kernel
theorem dL_act_169 : decode cL_act 169 = .ok (.iconst 1, 1) := by decide +kernel
theorem dL_act_170 : decode cL_act 170 = .ok (.iadd, 1) := by decide +kernel
theorem dL_act_171 : decode cL_act 171 = .ok (.iaload, 1) := by decide +kernel
theorem dL_act_172 : decode cL_act 172 = .ok (.iastore, 1) := by decide +kernel
theorem dL_act_173 : decode cL_act 173 = .ok (.iinc 12 1, 3) := by decide +kernel
theorem dL_act_176 : decode cL_act 176 = .ok (.goto (-33), 3) := by decide +kernel
theorem dL_act_179 : decode cL_act 179 = .ok (.aload_n 0, 1) := by decide +kernel
theorem dL_act_180 : decode cL_act 180 = .ok (.iload 10, 2) := by decide +kernel
theorem dL_act_182 : decode cL_act 182 = .ok (.iload 9, 2) := by decide +kernel
theorem dL_act_184 : decode cL_act 184 = .ok (.invokevirtual 55, 3) := by decide +kernel
theorem dL_act_187 : decode cL_act 187 = .ok (.iload 11, 2) := by decide +kernel
theorem dL_act_189 : decode cL_act 189 = .ok (.if_icmp .ne 7, 3) := by decide +kernel
theorem dL_act_192 : decode cL_act 192 = .ok (.iconst 1, 1) := by decide +kernel
theorem dL_act_193 : decode cL_act 193 = .ok (.goto 4, 3) := by decide +kernel
theorem dL_act_196 : decode cL_act 196 = .ok (.iconst 0, 1) := by decide +kernel
theorem dL_act_197 : decode cL_act 197 = .ok (.ireturn, 1) := by decide +kernel
theorem dL_act_198 : decode cL_act 198 = .ok (.iload 8, 2) := by decide +kernel
theorem dL_act_200 : decode cL_act 200 = .ok (.bipush 6, 2) := by decide +kernel
theorem dL_act_202 : decode cL_act 202 = .ok (.if_icmp .ge 52, 3) := by decide +kernel
theorem dL_act_205 : decode cL_act 205 = .ok (.aload 5, 2) := by decide +kernel
theorem dL_act_207 : decode cL_act 207 = .ok (.iload 9, 2) := by decide +kernel
theorem dL_act_209 : decode cL_act 209 = .ok (.iaload, 1) := by decide +kernel
theorem dL_act_210 : decode cL_act 210 = .ok (.iconst 4, 1) := by decide +kernel
theorem dL_act_211 : decode cL_act 211 = .ok (.if_icmp .lt 5, 3) := by decide +kernel
theorem dL_act_214 : decode cL_act 214 = .ok (.iconst 1, 1) := by decide +kernel
theorem dL_act_215 : decode cL_act 215 = .ok (.ireturn, 1) := by decide +kernel
theorem dL_act_216 : decode cL_act 216 = .ok (.aload 5, 2) := by decide +kernel
theorem dL_act_218 : decode cL_act 218 = .ok (.iload 9, 2) := by decide +kernel
theorem dL_act_220 : decode cL_act 220 = .ok (.aload_n 0, 1) := by decide +kernel
theorem dL_act_221 : decode cL_act 221 = .ok (.iload 9, 2) := by decide +kernel
theorem dL_act_223 : decode cL_act 223 = .ok (.iload 10, 2) := by decide +kernel
theorem dL_act_225 : decode cL_act 225 = .ok (.iconst 1, 1) := by decide +kernel
theorem dL_act_226 : decode cL_act 226 = .ok (.invokevirtual 58, 3) := by decide +kernel
theorem dL_act_229 : decode cL_act 229 = .ok (.iastore, 1) := by decide +kernel
theorem dL_act_230 : decode cL_act 230 = .ok (.aload 5, 2) := by decide +kernel
theorem dL_act_232 : decode cL_act 232 = .ok (.iload 9, 2) := by decide +kernel
theorem dL_act_234 : decode cL_act 234 = .ok (.iaload, 1) := by decide +kernel
theorem dL_act_235 : decode cL_act 235 = .ok (.iconst 1, 1) := by decide +kernel
theorem dL_act_236 : decode cL_act 236 = .ok (.if_icmp .lt 16, 3) := by decide +kernel
theorem dL_act_239 : decode cL_act 239 = .ok (.aload 5, 2) := by decide +kernel
theorem dL_act_241 : decode cL_act 241 = .ok (.iload 9, 2) := by decide +kernel
theorem dL_act_243 : decode cL_act 243 = .ok (.iaload, 1) := by decide +kernel
theorem dL_act_244 : decode cL_act 244 = .ok (.iconst 4, 1) := by decide +kernel
theorem dL_act_245 : decode cL_act 245 = .ok (.if_icmp .gt 7, 3) := by decide +kernel
theorem dL_act_248 : decode cL_act 248 = .ok (.iconst 1, 1) := by decide +kernel
theorem dL_act_249 : decode cL_act 249 = .ok (.goto 4, 3) := by decide +kernel
theorem dL_act_252 : decode cL_act 252 = .ok (.iconst 0, 1) := by decide +kernel
theorem dL_act_253 : decode cL_act 253 = .ok (.ireturn, 1) := by decide +kernel
theorem dL_act_254 : decode cL_act 254 = .ok (.iload 8, 2) := by decide +kernel
theorem dL_act_256 : decode cL_act 256 = .ok (.bipush 8, 2) := by decide +kernel
theorem dL_act_258 : decode cL_act 258 = .ok (.if_icmp .ge 72, 3) := by decide +kernel
theorem dL_act_261 : decode cL_act 261 = .ok (.aload 6, 2) := by decide +kernel
theorem dL_act_263 : decode cL_act 263 = .ok (.iconst 1, 1) := by decide +kernel
theorem dL_act_264 : decode cL_act 264 = .ok (.iaload, 1) := by decide +kernel
theorem dL_act_265 : decode cL_act 265 = .ok (.bipush 40, 2) := by decide +kernel
theorem dL_act_267 : decode cL_act 267 = .ok (.if_icmp .ne 5, 3) := by decide +kernel
theorem dL_act_270 : decode cL_act 270 = .ok (.iconst 1, 1) := by decide +kernel
theorem dL_act_271 : decode cL_act 271 = .ok (.ireturn, 1) := by decide +kernel
theorem dL_act_272 : decode cL_act 272 = .ok (.iconst 4, 1) := by decide +kernel
theorem dL_act_273 : decode cL_act 273 = .ok (.iload_n 2, 1) := by decide +kernel
theorem dL_act_274 : decode cL_act 274 = .ok (.bipush 10, 2) := by decide +kernel
theorem dL_act_276 : decode cL_act 276 = .ok (.ishr, 1) := by decide +kernel
theorem dL_act_277 : decode cL_act 277 = .ok (.iconst 3, 1) := by decide +kernel
theorem dL_act_278 : decode cL_act 278 = .ok (.invokestatic 49, 3) := by decide +kernel
theorem dL_act_281 : decode cL_act 281 = .ok (.iadd, 1) := by decide +kernel
theorem dL_act_282 : decode cL_act 282 = .ok (.istore 11, 2) := by decide +kernel
theorem dL_act_284 : decode cL_act 284 = .ok (.aload 6, 2) := by decide +kernel
theorem dL_act_286 : decode cL_act 286 = .ok (.iconst 1, 1) := by decide +kernel
theorem dL_act_287 : decode cL_act 287 = .ok (.dup2, 1) := by decide +kernel
theorem dL_act_288 : decode cL_act 288 = .ok (.iaload, 1) := by decide +kernel
theorem dL_act_289 : decode cL_act 289 = .ok (.iconst 1, 1) := by decide +kernel
theorem dL_act_290 : decode cL_act 290 = .ok (.iadd, 1) := by decide +kernel
theorem dL_act_291 : decode cL_act 291 = .ok (.iastore, 1) := by decide +kernel
theorem dL_act_292 : decode cL_act 292 = .ok (.aload_n 0, 1) := by decide +kernel
theorem dL_act_293 : decode cL_act 293 = .ok (.iload 10, 2) := by decide +kernel
theorem dL_act_295 : decode cL_act 295 = .ok (.iload 11, 2) := by decide +kernel
theorem dL_act_297 : decode cL_act 297 = .ok (.invokevirtual 62, 3) := by decide +kernel
theorem dL_act_300 : decode cL_act 300 = .ok (.aload 6, 2) := by decide +kernel
theorem dL_act_302 : decode cL_act 302 = .ok (.iconst 1, 1) := by decide +kernel
theorem dL_act_303 : decode cL_act 303 = .ok (.iaload, 1) := by decide +kernel
theorem dL_act_304 : decode cL_act 304 = .ok (.iconst 1, 1) := by decide +kernel
theorem dL_act_305 : decode cL_act 305 = .ok (.isub, 1) := by decide +kernel
theorem dL_act_306 : decode cL_act 306 = .ok (.if_icmp .ne 22, 3) := by decide +kernel
theorem dL_act_309 : decode cL_act 309 = .ok (.aload_n 0, 1) := by decide +kernel
theorem dL_act_310 : decode cL_act 310 = .ok (.aload 6, 2) := by decide +kernel
theorem dL_act_312 : decode cL_act 312 = .ok (.iconst 1, 1) := by decide +kernel
theorem dL_act_313 : decode cL_act 313 = .ok (.iaload, 1) := by decide +kernel
theorem dL_act_314 : decode cL_act 314 = .ok (.iconst 1, 1) := by decide +kernel
theorem dL_act_315 : decode cL_act 315 = .ok (.isub, 1) := by decide +kernel
theorem dL_act_316 : decode cL_act 316 = .ok (.invokevirtual 65, 3) := by decide +kernel
theorem dL_act_319 : decode cL_act 319 = .ok (.iload 11, 2) := by decide +kernel
theorem dL_act_321 : decode cL_act 321 = .ok (.if_icmp .ne 7, 3) := by decide +kernel
theorem dL_act_324 : decode cL_act 324 = .ok (.iconst 1, 1) := by decide +kernel
theorem dL_act_325 : decode cL_act 325 = .ok (.goto 4, 3) := by decide +kernel
theorem dL_act_328 : decode cL_act 328 = .ok (.iconst 0, 1) := by decide +kernel
theorem dL_act_329 : decode cL_act 329 = .ok (.ireturn, 1) := by decide +kernel
theorem dL_act_330 : decode cL_act 330 = .ok (.iload 8, 2) := by decide +kernel
theorem dL_act_332 : decode cL_act 332 = .ok (.bipush 8, 2) := by decide +kernel
theorem dL_act_334 : decode cL_act 334 = .ok (.if_icmp .ne 30, 3) := by decide +kernel
theorem dL_act_337 : decode cL_act 337 = .ok (.aload_n 0, 1) := by decide +kernel
theorem dL_act_338 : decode cL_act 338 = .ok (.iload 9, 2) := by decide +kernel
theorem dL_act_340 : decode cL_act 340 = .ok (.iconst 4, 1) := by decide +kernel
theorem dL_act_341 : decode cL_act 341 = .ok (.iload_n 2, 1) := by decide +kernel
theorem dL_act_342 : decode cL_act 342 = .ok (.bipush 10, 2) := by decide +kernel
theorem dL_act_344 : decode cL_act 344 = .ok (.ishr, 1) := by decide +kernel
theorem dL_act_345 : decode cL_act 345 = .ok (.iconst 3, 1) := by decide +kernel
theorem dL_act_346 : decode cL_act 346 = .ok (.invokestatic 49, 3) := by decide +kernel
theorem dL_act_349 : decode cL_act 349 = .ok (.iadd, 1) := by decide +kernel
theorem dL_act_350 : decode cL_act 350 = .ok (.invokevirtual 68, 3) := by decide +kernel
theorem dL_act_353 : decode cL_act 353 = .ok (.bipush 9, 2) := by decide +kernel
theorem dL_act_355 : decode cL_act 355 = .ok (.if_icmp .gt 7, 3) := by decide +kernel
theorem dL_act_358 : decode cL_act 358 = .ok (.iconst 1, 1) := by decide +kernel
theorem dL_act_359 : decode cL_act 359 = .ok (.goto 4, 3) := by decide +kernel
theorem dL_act_362 : decode cL_act 362 = .ok (.iconst 0, 1) := by decide +kernel
theorem dL_act_363 : decode cL_act 363 = .ok (.ireturn, 1) := by decide +kernel
theorem dL_act_364 : decode cL_act 364 = .ok (.iload 8, 2) := by decide +kernel
theorem dL_act_366 : decode cL_act 366 = .ok (.bipush 9, 2) := by decide +kernel
theorem dL_act_368 : decode cL_act 368 = .ok (.if_icmp .ne 22, 3) := by decide +kernel
theorem dL_act_371 : decode cL_act 371 = .ok (.aload_n 0, 1) := by decide +kernel
theorem dL_act_372 : decode cL_act 372 = .ok (.iload_n 2, 1) := by decide +kernel
theorem dL_act_373 : decode cL_act 373 = .ok (.bipush 10, 2) := by decide +kernel
theorem dL_act_375 : decode cL_act 375 = .ok (.ishr, 1) := by decide +kernel
theorem dL_act_376 : decode cL_act 376 = .ok (.iconst 3, 1) := by decide +kernel
theorem dL_act_377 : decode cL_act 377 = .ok (.invokestatic 49, 3) := by decide +kernel
theorem dL_act_380 : decode cL_act 380 = .ok (.iload 9, 2) := by decide +kernel
theorem dL_act_382 : decode cL_act 382 = .ok (.aload 6, 2) := by decide +kernel
theorem dL_act_384 : decode cL_act 384 = .ok (.aload 7, 2) := by decide +kernel
theorem dL_act_386 : decode cL_act 386 = .ok (.invokestatic 71, 3) := by decide +kernel
theorem dL_act_389 : decode cL_act 389 = .ok (.ireturn, 1) := by decide +kernel
theorem dL_act_390 : decode cL_act 390 = .ok (.aload_n 0, 1) := by decide +kernel
theorem dL_act_391 : decode cL_act 391 = .ok (.iload_n 2, 1) := by decide +kernel
theorem dL_act_392 : decode cL_act 392 = .ok (.bipush 10, 2) := by decide +kernel
theorem dL_act_394 : decode cL_act 394 = .ok (.ishr, 1) := by decide +kernel
theorem dL_act_395 : decode cL_act 395 = .ok (.iconst 3, 1) := by decide +kernel
theorem dL_act_396 : decode cL_act 396 = .ok (.invokestatic 49, 3) := by decide +kernel
theorem dL_act_399 : decode cL_act 399 = .ok (.aload_n 3, 1) := by decide +kernel
theorem dL_act_400 : decode cL_act 400 = .ok (.aload 4, 2) := by decide +kernel
theorem dL_act_402 : decode cL_act 402 = .ok (.aload 6, 2) := by decide +kernel
theorem dL_act_404 : decode cL_act 404 = .ok (.invokestatic 74, 3) := by decide +kernel
theorem dL_act_407 : decode cL_act 407 = .ok (.ifCond .eq 26, 3) := by decide +kernel
theorem dL_act_410 : decode cL_act 410 = .ok (.aload_n 0, 1) := by decide +kernel
theorem dL_act_411 : decode cL_act 411 = .ok (.iload_n 2, 1) := by decide +kernel
theorem dL_act_412 : decode cL_act 412 = .ok (.bipush 10, 2) := by decide +kernel
theorem dL_act_414 : decode cL_act 414 = .ok (.ishr, 1) := by decide +kernel
theorem dL_act_415 : decode cL_act 415 = .ok (.iconst 3, 1) := by decide +kernel
theorem dL_act_416 : decode cL_act 416 = .ok (.invokestatic 49, 3) := by decide +kernel
theorem dL_act_419 : decode cL_act 419 = .ok (.iload 9, 2) := by decide +kernel
theorem dL_act_421 : decode cL_act 421 = .ok (.aload 6, 2) := by decide +kernel
theorem dL_act_423 : decode cL_act 423 = .ok (.invokestatic 78, 3) := by decide +kernel
theorem dL_act_426 : decode cL_act 426 = .ok (.ifCond .eq 7, 3) := by decide +kernel
theorem dL_act_429 : decode cL_act 429 = .ok (.iconst 1, 1) := by decide +kernel
theorem dL_act_430 : decode cL_act 430 = .ok (.goto 4, 3) := by decide +kernel
theorem dL_act_433 : decode cL_act 433 = .ok (.iconst 0, 1) := by decide +kernel
theorem dL_act_434 : decode cL_act 434 = .ok (.ireturn, 1) := by decide +kernel
theorem dL_law_0 : decode cL_law 0 = .ok (.new 9, 3) := by decide +kernel
theorem dL_law_3 : decode cL_law 3 = .ok (.dup, 1) := by decide +kernel
theorem dL_law_4 : decode cL_law 4 = .ok (.invokespecial 81, 3) := by decide +kernel
theorem dL_law_7 : decode cL_law 7 = .ok (.astore_n 1, 1) := by decide +kernel
theorem dL_law_8 : decode cL_law 8 = .ok (.bipush 32, 2) := by decide +kernel
theorem dL_law_10 : decode cL_law 10 = .ok (.newarray .int, 2) := by decide +kernel
theorem dL_law_12 : decode cL_law 12 = .ok (.astore_n 2, 1) := by decide +kernel
theorem dL_law_13 : decode cL_law 13 = .ok (.bipush 8, 2) := by decide +kernel
theorem dL_law_15 : decode cL_law 15 = .ok (.newarray .int, 2) := by decide +kernel
theorem dL_law_17 : decode cL_law 17 = .ok (.astore_n 3, 1) := by decide +kernel
theorem dL_law_18 : decode cL_law 18 = .ok (.bipush 12, 2) := by decide +kernel
theorem dL_law_20 : decode cL_law 20 = .ok (.newarray .int, 2) := by decide +kernel
theorem dL_law_22 : decode cL_law 22 = .ok (.astore 4, 2) := by decide +kernel
theorem dL_law_24 : decode cL_law 24 = .ok (.iconst 2, 1) := by decide +kernel
theorem dL_law_25 : decode cL_law 25 = .ok (.newarray .int, 2) := by decide +kernel
theorem dL_law_27 : decode cL_law 27 = .ok (.astore 5, 2) := by decide +kernel
theorem dL_law_29 : decode cL_law 29 = .ok (.bipush 8, 2) := by decide +kernel
theorem dL_law_31 : decode cL_law 31 = .ok (.newarray .int, 2) := by decide +kernel
theorem dL_law_33 : decode cL_law 33 = .ok (.astore 6, 2) := by decide +kernel
theorem dL_law_35 : decode cL_law 35 = .ok (.aload 5, 2) := by decide +kernel
theorem dL_law_37 : decode cL_law 37 = .ok (.iconst 0, 1) := by decide +kernel
theorem dL_law_38 : decode cL_law 38 = .ok (.iconst 2, 1) := by decide +kernel
theorem dL_law_39 : decode cL_law 39 = .ok (.aload_n 0, 1) := by decide +kernel
theorem dL_law_40 : decode cL_law 40 = .ok (.iconst 0, 1) := by decide +kernel
theorem dL_law_41 : decode cL_law 41 = .ok (.invokestatic 82, 3) := by decide +kernel
theorem dL_law_44 : decode cL_law 44 = .ok (.ldc 86, 2) := by decide +kernel
theorem dL_law_46 : decode cL_law 46 = .ok (.iand, 1) := by decide +kernel
theorem dL_law_47 : decode cL_law 47 = .ok (.iconst 4, 1) := by decide +kernel
theorem dL_law_48 : decode cL_law 48 = .ok (.invokestatic 49, 3) := by decide +kernel
theorem dL_law_51 : decode cL_law 51 = .ok (.iadd, 1) := by decide +kernel
theorem dL_law_52 : decode cL_law 52 = .ok (.iastore, 1) := by decide +kernel
theorem dL_law_53 : decode cL_law 53 = .ok (.aload_n 1, 1) := by decide +kernel
theorem dL_law_54 : decode cL_law 54 = .ok (.aload 5, 2) := by decide +kernel
theorem dL_law_56 : decode cL_law 56 = .ok (.iconst 0, 1) := by decide +kernel
theorem dL_law_57 : decode cL_law 57 = .ok (.iaload, 1) := by decide +kernel
theorem dL_law_58 : decode cL_law 58 = .ok (.invokevirtual 87, 3) := by decide +kernel
theorem dL_law_61 : decode cL_law 61 = .ok (.iconst 1, 1) := by decide +kernel
theorem dL_law_62 : decode cL_law 62 = .ok (.if_icmp .eq 5, 3) := by decide +kernel
theorem dL_law_65 : decode cL_law 65 = .ok (.iconst 0, 1) := by decide +kernel
theorem dL_law_66 : decode cL_law 66 = .ok (.ireturn, 1) := by decide +kernel
theorem dL_law_67 : decode cL_law 67 = .ok (.iconst 0, 1) := by decide +kernel
theorem dL_law_68 : decode cL_law 68 = .ok (.istore 7, 2) := by decide +kernel
theorem dL_law_70 : decode cL_law 70 = .ok (.iload 7, 2) := by decide +kernel
theorem dL_law_72 : decode cL_law 72 = .ok (.aload 5, 2) := by decide +kernel
theorem dL_law_74 : decode cL_law 74 = .ok (.iconst 0, 1) := by decide +kernel
theorem dL_law_75 : decode cL_law 75 = .ok (.iaload, 1) := by decide +kernel
theorem dL_law_76 : decode cL_law 76 = .ok (.if_icmp .ge 129, 3) := by decide +kernel
theorem dL_law_79 : decode cL_law 79 = .ok (.iconst 0, 1) := by decide +kernel
theorem dL_law_80 : decode cL_law 80 = .ok (.istore 8, 2) := by decide +kernel
theorem dL_law_82 : decode cL_law 82 = .ok (.iload 8, 2) := by decide +kernel
theorem dL_law_84 : decode cL_law 84 = .ok (.iconst 2, 1) := by decide +kernel
theorem dL_law_85 : decode cL_law 85 = .ok (.if_icmp .ge 92, 3) := by decide +kernel
theorem dL_law_88 : decode cL_law 88 = .ok (.iconst 2, 1) := by decide +kernel
theorem dL_law_89 : decode cL_law 89 = .ok (.iload 7, 2) := by decide +kernel
theorem dL_law_91 : decode cL_law 91 = .ok (.imul, 1) := by decide +kernel
theorem dL_law_92 : decode cL_law 92 = .ok (.iconst 3, 1) := by decide +kernel
theorem dL_law_93 : decode cL_law 93 = .ok (.iload 8, 2) := by decide +kernel
theorem dL_law_95 : decode cL_law 95 = .ok (.imul, 1) := by decide +kernel
theorem dL_law_96 : decode cL_law 96 = .ok (.iadd, 1) := by decide +kernel
theorem dL_law_97 : decode cL_law 97 = .ok (.bipush 12, 2) := by decide +kernel
theorem dL_law_99 : decode cL_law 99 = .ok (.irem, 1) := by decide +kernel
theorem dL_law_100 : decode cL_law 100 = .ok (.istore 9, 2) := by decide +kernel
theorem dL_law_102 : decode cL_law 102 = .ok (.iload 7, 2) := by decide +kernel
theorem dL_law_104 : decode cL_law 104 = .ok (.iload 9, 2) := by decide +kernel
theorem dL_law_106 : decode cL_law 106 = .ok (.aload_n 2, 1) := by decide +kernel
theorem dL_law_107 : decode cL_law 107 = .ok (.aload_n 3, 1) := by decide +kernel
theorem dL_law_108 : decode cL_law 108 = .ok (.invokestatic 28, 3) := by decide +kernel
theorem dL_law_111 : decode cL_law 111 = .ok (.ifCond .lt 6, 3) := by decide +kernel
theorem dL_law_114 : decode cL_law 114 = .ok (.goto 57, 3) := by decide +kernel
theorem dL_law_117 : decode cL_law 117 = .ok (.aload_n 2, 1) := by decide +kernel
theorem dL_law_118 : decode cL_law 118 = .ok (.iconst 4, 1) := by decide +kernel
theorem dL_law_119 : decode cL_law 119 = .ok (.iload 7, 2) := by decide +kernel
theorem dL_law_121 : decode cL_law 121 = .ok (.imul, 1) := by decide +kernel
theorem dL_law_122 : decode cL_law 122 = .ok (.aload_n 3, 1) := by decide +kernel
theorem dL_law_123 : decode cL_law 123 = .ok (.iload 7, 2) := by decide +kernel
theorem dL_law_125 : decode cL_law 125 = .ok (.iaload, 1) := by decide +kernel
theorem dL_law_126 : decode cL_law 126 = .ok (.iadd, 1) := by decide +kernel
theorem dL_law_127 : decode cL_law 127 = .ok (.iload 9, 2) := by decide +kernel
theorem dL_law_129 : decode cL_law 129 = .ok (.iastore, 1) := by decide +kernel
theorem dL_law_130 : decode cL_law 130 = .ok (.aload_n 3, 1) := by decide +kernel
theorem dL_law_131 : decode cL_law 131 = .ok (.iload 7, 2) := by decide +kernel
theorem dL_law_133 : decode cL_law 133 = .ok (.dup2, 1) := by decide +kernel
theorem dL_law_134 : decode cL_law 134 = .ok (.iaload, 1) := by decide +kernel
theorem dL_law_135 : decode cL_law 135 = .ok (.iconst 1, 1) := by decide +kernel
theorem dL_law_136 : decode cL_law 136 = .ok (.iadd, 1) := by decide +kernel
theorem dL_law_137 : decode cL_law 137 = .ok (.iastore, 1) := by decide +kernel
theorem dL_law_138 : decode cL_law 138 = .ok (.aload_n 1, 1) := by decide +kernel
theorem dL_law_139 : decode cL_law 139 = .ok (.iload 7, 2) := by decide +kernel
theorem dL_law_141 : decode cL_law 141 = .ok (.iload 9, 2) := by decide +kernel
theorem dL_law_143 : decode cL_law 143 = .ok (.invokevirtual 52, 3) := by decide +kernel
theorem dL_law_146 : decode cL_law 146 = .ok (.aload_n 3, 1) := by decide +kernel
theorem dL_law_147 : decode cL_law 147 = .ok (.iload 7, 2) := by decide +kernel
theorem dL_law_149 : decode cL_law 149 = .ok (.iaload, 1) := by decide +kernel
theorem dL_law_150 : decode cL_law 150 = .ok (.iconst 1, 1) := by decide +kernel
theorem dL_law_151 : decode cL_law 151 = .ok (.isub, 1) := by decide +kernel
theorem dL_law_152 : decode cL_law 152 = .ok (.if_icmp .eq 5, 3) := by decide +kernel
theorem dL_law_155 : decode cL_law 155 = .ok (.iconst 0, 1) := by decide +kernel
theorem dL_law_156 : decode cL_law 156 = .ok (.ireturn, 1) := by decide +kernel
theorem dL_law_157 : decode cL_law 157 = .ok (.aload 4, 2) := by decide +kernel
theorem dL_law_159 : decode cL_law 159 = .ok (.iload 9, 2) := by decide +kernel
theorem dL_law_161 : decode cL_law 161 = .ok (.aload_n 1, 1) := by decide +kernel
theorem dL_law_162 : decode cL_law 162 = .ok (.iload 9, 2) := by decide +kernel
theorem dL_law_164 : decode cL_law 164 = .ok (.iload 7, 2) := by decide +kernel
theorem dL_law_166 : decode cL_law 166 = .ok (.iconst 1, 1) := by decide +kernel
theorem dL_law_167 : decode cL_law 167 = .ok (.invokevirtual 58, 3) := by decide +kernel
theorem dL_law_170 : decode cL_law 170 = .ok (.iastore, 1) := by decide +kernel
theorem dL_law_171 : decode cL_law 171 = .ok (.iinc 8 1, 3) := by decide +kernel
theorem dL_law_174 : decode cL_law 174 = .ok (.goto (-92), 3) := by decide +kernel
theorem dL_law_177 : decode cL_law 177 = .ok (.aload 5, 2) := by decide +kernel
theorem dL_law_179 : decode cL_law 179 = .ok (.iconst 1, 1) := by decide +kernel
theorem dL_law_180 : decode cL_law 180 = .ok (.dup2, 1) := by decide +kernel
theorem dL_law_181 : decode cL_law 181 = .ok (.iaload, 1) := by decide +kernel
theorem dL_law_182 : decode cL_law 182 = .ok (.iconst 1, 1) := by decide +kernel
theorem dL_law_183 : decode cL_law 183 = .ok (.iadd, 1) := by decide +kernel
theorem dL_law_184 : decode cL_law 184 = .ok (.iastore, 1) := by decide +kernel
theorem dL_law_185 : decode cL_law 185 = .ok (.aload_n 1, 1) := by decide +kernel
theorem dL_law_186 : decode cL_law 186 = .ok (.iload 7, 2) := by decide +kernel
theorem dL_law_188 : decode cL_law 188 = .ok (.iconst 5, 1) := by decide +kernel
theorem dL_law_189 : decode cL_law 189 = .ok (.invokevirtual 62, 3) := by decide +kernel
theorem dL_law_192 : decode cL_law 192 = .ok (.iload 7, 2) := by decide +kernel
theorem dL_law_194 : decode cL_law 194 = .ok (.if_icmp .eq 5, 3) := by decide +kernel
theorem dL_law_197 : decode cL_law 197 = .ok (.iconst 0, 1) := by decide +kernel
theorem dL_law_198 : decode cL_law 198 = .ok (.ireturn, 1) := by decide +kernel
theorem dL_law_199 : decode cL_law 199 = .ok (.iinc 7 1, 3) := by decide +kernel
theorem dL_law_202 : decode cL_law 202 = .ok (.goto (-132), 3) := by decide +kernel
theorem dL_law_205 : decode cL_law 205 = .ok (.iconst 0, 1) := by decide +kernel
theorem dL_law_206 : decode cL_law 206 = .ok (.istore 7, 2) := by decide +kernel
theorem dL_law_208 : decode cL_law 208 = .ok (.iload 7, 2) := by decide +kernel
theorem dL_law_210 : decode cL_law 210 = .ok (.bipush 60, 2) := by decide +kernel
theorem dL_law_212 : decode cL_law 212 = .ok (.if_icmp .ge 60, 3) := by decide +kernel
theorem dL_law_215 : decode cL_law 215 = .ok (.aload_n 0, 1) := by decide +kernel
theorem dL_law_216 : decode cL_law 216 = .ok (.iconst 2, 1) := by decide +kernel
theorem dL_law_217 : decode cL_law 217 = .ok (.iload 7, 2) := by decide +kernel
theorem dL_law_219 : decode cL_law 219 = .ok (.imul, 1) := by decide +kernel
theorem dL_law_220 : decode cL_law 220 = .ok (.iconst 1, 1) := by decide +kernel
theorem dL_law_221 : decode cL_law 221 = .ok (.iadd, 1) := by decide +kernel
theorem dL_law_222 : decode cL_law 222 = .ok (.invokestatic 82, 3) := by decide +kernel
theorem dL_law_225 : decode cL_law 225 = .ok (.ldc 86, 2) := by decide +kernel
theorem dL_law_227 : decode cL_law 227 = .ok (.iand, 1) := by decide +kernel
theorem dL_law_228 : decode cL_law 228 = .ok (.istore 8, 2) := by decide +kernel
theorem dL_law_230 : decode cL_law 230 = .ok (.aload_n 0, 1) := by decide +kernel
theorem dL_law_231 : decode cL_law 231 = .ok (.iconst 2, 1) := by decide +kernel
theorem dL_law_232 : decode cL_law 232 = .ok (.iload 7, 2) := by decide +kernel
theorem dL_law_234 : decode cL_law 234 = .ok (.imul, 1) := by decide +kernel
theorem dL_law_235 : decode cL_law 235 = .ok (.iconst 2, 1) := by decide +kernel
theorem dL_law_236 : decode cL_law 236 = .ok (.iadd, 1) := by decide +kernel
theorem dL_law_237 : decode cL_law 237 = .ok (.invokestatic 82, 3) := by decide +kernel
theorem dL_law_240 : decode cL_law 240 = .ok (.ldc 86, 2) := by decide +kernel
theorem dL_law_242 : decode cL_law 242 = .ok (.iand, 1) := by decide +kernel
theorem dL_law_243 : decode cL_law 243 = .ok (.istore 9, 2) := by decide +kernel
theorem dL_law_245 : decode cL_law 245 = .ok (.aload_n 1, 1) := by decide +kernel
theorem dL_law_246 : decode cL_law 246 = .ok (.iload 8, 2) := by decide +kernel
theorem dL_law_248 : decode cL_law 248 = .ok (.iload 9, 2) := by decide +kernel
theorem dL_law_250 : decode cL_law 250 = .ok (.aload_n 2, 1) := by decide +kernel
theorem dL_law_251 : decode cL_law 251 = .ok (.aload_n 3, 1) := by decide +kernel
theorem dL_law_252 : decode cL_law 252 = .ok (.aload 4, 2) := by decide +kernel
theorem dL_law_254 : decode cL_law 254 = .ok (.aload 5, 2) := by decide +kernel
theorem dL_law_256 : decode cL_law 256 = .ok (.aload 6, 2) := by decide +kernel
theorem dL_law_258 : decode cL_law 258 = .ok (.invokestatic 90, 3) := by decide +kernel
theorem dL_law_261 : decode cL_law 261 = .ok (.ifCond .ne 5, 3) := by decide +kernel
theorem dL_law_264 : decode cL_law 264 = .ok (.iconst 0, 1) := by decide +kernel
theorem dL_law_265 : decode cL_law 265 = .ok (.ireturn, 1) := by decide +kernel
theorem dL_law_266 : decode cL_law 266 = .ok (.iinc 7 1, 3) := by decide +kernel
theorem dL_law_269 : decode cL_law 269 = .ok (.goto (-61), 3) := by decide +kernel
theorem dL_law_272 : decode cL_law 272 = .ok (.aload_n 1, 1) := by decide +kernel
theorem dL_law_273 : decode cL_law 273 = .ok (.iconst 0, 1) := by decide +kernel
theorem dL_law_274 : decode cL_law 274 = .ok (.aload_n 2, 1) := by decide +kernel
theorem dL_law_275 : decode cL_law 275 = .ok (.aload_n 3, 1) := by decide +kernel
theorem dL_law_276 : decode cL_law 276 = .ok (.aload 5, 2) := by decide +kernel
theorem dL_law_278 : decode cL_law 278 = .ok (.invokestatic 74, 3) := by decide +kernel
theorem dL_law_281 : decode cL_law 281 = .ok (.ifCond .eq 19, 3) := by decide +kernel
theorem dL_law_284 : decode cL_law 284 = .ok (.aload_n 1, 1) := by decide +kernel
theorem dL_law_285 : decode cL_law 285 = .ok (.iconst 1, 1) := by decide +kernel
theorem dL_law_286 : decode cL_law 286 = .ok (.aload_n 2, 1) := by decide +kernel
theorem dL_law_287 : decode cL_law 287 = .ok (.aload_n 3, 1) := by decide +kernel
theorem dL_law_288 : decode cL_law 288 = .ok (.aload 5, 2) := by decide +kernel
theorem dL_law_290 : decode cL_law 290 = .ok (.invokestatic 74, 3) := by decide +kernel
theorem dL_law_293 : decode cL_law 293 = .ok (.ifCond .eq 7, 3) := by decide +kernel
theorem dL_law_296 : decode cL_law 296 = .ok (.iconst 1, 1) := by decide +kernel
theorem dL_law_297 : decode cL_law 297 = .ok (.goto 4, 3) := by decide +kernel
theorem dL_law_300 : decode cL_law 300 = .ok (.iconst 0, 1) := by decide +kernel
theorem dL_law_301 : decode cL_law 301 = .ok (.ireturn, 1) := by decide +kernel
