theorem dX0_init_0 : decode cX0_init 0 = .ok (.aload_n 0, 1) := by decide +kernel
theorem dX0_init_1 : decode cX0_init 1 = .ok (.iconst 5, 1) := by decide +kernel
theorem dX0_init_2 : decode cX0_init 2 = .ok (.invokespecial 3, 3) := by decide +kernel
theorem dX0_init_5 : decode cX0_init 5 = .ok (.aload_n 0, 1) := by decide +kernel
theorem dX0_init_6 : decode cX0_init 6 = .ok (.iload_n 1, 1) := by decide +kernel
theorem dX0_init_7 : decode cX0_init 7 = .ok (.putfield 9, 3) := by decide +kernel
theorem dX0_init_10 : decode cX0_init 10 = .ok (.return_, 1) := by decide +kernel
theorem dX1_init_0 : decode cX1_init 0 = .ok (.aload_n 0, 1) := by decide +kernel
theorem dX1_init_1 : decode cX1_init 1 = .ok (.iconst 1, 1) := by decide +kernel
theorem dX1_init_2 : decode cX1_init 2 = .ok (.iload_n 1, 1) := by decide +kernel
theorem dX1_init_3 : decode cX1_init 3 = .ok (.invokespecial 3, 3) := by decide +kernel
theorem dX1_init_6 : decode cX1_init 6 = .ok (.aload_n 0, 1) := by decide +kernel
theorem dX1_init_7 : decode cX1_init 7 = .ok (.iconst 0, 1) := by decide +kernel
theorem dX1_init_8 : decode cX1_init 8 = .ok (.putfield 9, 3) := by decide +kernel
theorem dX1_init_11 : decode cX1_init 11 = .ok (.return_, 1) := by decide +kernel
theorem dX2_init_0 : decode cX2_init 0 = .ok (.aload_n 0, 1) := by decide +kernel
theorem dX2_init_1 : decode cX2_init 1 = .ok (.invokespecial 1, 3) := by decide +kernel
theorem dX2_init_4 : decode cX2_init 4 = .ok (.aload_n 0, 1) := by decide +kernel
theorem dX2_init_5 : decode cX2_init 5 = .ok (.iload_n 1, 1) := by decide +kernel
theorem dX2_init_6 : decode cX2_init 6 = .ok (.putfield 7, 3) := by decide +kernel
theorem dX2_init_9 : decode cX2_init 9 = .ok (.aload_n 0, 1) := by decide +kernel
theorem dX2_init_10 : decode cX2_init 10 = .ok (.iload_n 2, 1) := by decide +kernel
theorem dX2_init_11 : decode cX2_init 11 = .ok (.putfield 13, 3) := by decide +kernel
theorem dX2_init_14 : decode cX2_init 14 = .ok (.aload_n 0, 1) := by decide +kernel
theorem dX2_init_15 : decode cX2_init 15 = .ok (.iload_n 1, 1) := by decide +kernel
theorem dX2_init_16 : decode cX2_init 16 = .ok (.iload_n 2, 1) := by decide +kernel
theorem dX2_init_17 : decode cX2_init 17 = .ok (.imul, 1) := by decide +kernel
theorem dX2_init_18 : decode cX2_init 18 = .ok (.newarray .int, 2) := by decide +kernel
theorem dX2_init_20 : decode cX2_init 20 = .ok (.putfield 16, 3) := by decide +kernel
theorem dX2_init_23 : decode cX2_init 23 = .ok (.return_, 1) := by decide +kernel
theorem dX2_exchange_0 : decode cX2_exchange 0 = .ok (.iload_n 1, 1) := by decide +kernel
theorem dX2_exchange_1 : decode cX2_exchange 1 = .ok (.aload_n 0, 1) := by decide +kernel
theorem dX2_exchange_2 : decode cX2_exchange 2 = .ok (.getfield 13, 3) := by decide +kernel
theorem dX2_exchange_5 : decode cX2_exchange 5 = .ok (.imul, 1) := by decide +kernel
theorem dX2_exchange_6 : decode cX2_exchange 6 = .ok (.iload_n 2, 1) := by decide +kernel
theorem dX2_exchange_7 : decode cX2_exchange 7 = .ok (.iadd, 1) := by decide +kernel
theorem dX2_exchange_8 : decode cX2_exchange 8 = .ok (.istore 4, 2) := by decide +kernel
theorem dX2_exchange_10 : decode cX2_exchange 10 = .ok (.aload_n 0, 1) := by decide +kernel
theorem dX2_exchange_11 : decode cX2_exchange 11 = .ok (.getfield 16, 3) := by decide +kernel
theorem dX2_exchange_14 : decode cX2_exchange 14 = .ok (.iload 4, 2) := by decide +kernel
theorem dX2_exchange_16 : decode cX2_exchange 16 = .ok (.iaload, 1) := by decide +kernel
theorem dX2_exchange_17 : decode cX2_exchange 17 = .ok (.istore 5, 2) := by decide +kernel
theorem dX2_exchange_19 : decode cX2_exchange 19 = .ok (.aload_n 0, 1) := by decide +kernel
theorem dX2_exchange_20 : decode cX2_exchange 20 = .ok (.getfield 16, 3) := by decide +kernel
theorem dX2_exchange_23 : decode cX2_exchange 23 = .ok (.iload 4, 2) := by decide +kernel
theorem dX2_exchange_25 : decode cX2_exchange 25 = .ok (.iload_n 3, 1) := by decide +kernel
theorem dX2_exchange_26 : decode cX2_exchange 26 = .ok (.iastore, 1) := by decide +kernel
theorem dX2_exchange_27 : decode cX2_exchange 27 = .ok (.iload 5, 2) := by decide +kernel
theorem dX2_exchange_29 : decode cX2_exchange 29 = .ok (.ireturn, 1) := by decide +kernel
theorem dX3_init_0 : decode cX3_init 0 = .ok (.aload_n 0, 1) := by decide +kernel
theorem dX3_init_1 : decode cX3_init 1 = .ok (.iconst 4, 1) := by decide +kernel
theorem dX3_init_2 : decode cX3_init 2 = .ok (.iload_n 1, 1) := by decide +kernel
theorem dX3_init_3 : decode cX3_init 3 = .ok (.invokespecial 3, 3) := by decide +kernel
theorem dX3_init_6 : decode cX3_init 6 = .ok (.return_, 1) := by decide +kernel
theorem dX3_canCareFor_0 : decode cX3_canCareFor 0 = .ok (.aload_n 1, 1) := by decide +kernel
theorem dX3_canCareFor_1 : decode cX3_canCareFor 1 = .ok (.ifnull 7, 3) := by decide +kernel
theorem dX3_canCareFor_4 : decode cX3_canCareFor 4 = .ok (.iconst 1, 1) := by decide +kernel
theorem dX3_canCareFor_5 : decode cX3_canCareFor 5 = .ok (.goto 4, 3) := by decide +kernel
theorem dX3_canCareFor_8 : decode cX3_canCareFor 8 = .ok (.iconst 0, 1) := by decide +kernel
theorem dX3_canCareFor_9 : decode cX3_canCareFor 9 = .ok (.ireturn, 1) := by decide +kernel
theorem dX3_careFor_0 : decode cX3_careFor 0 = .ok (.iconst 0, 1) := by decide +kernel
theorem dX3_careFor_1 : decode cX3_careFor 1 = .ok (.istore_n 3, 1) := by decide +kernel
theorem dX3_careFor_2 : decode cX3_careFor 2 = .ok (.iconst 0, 1) := by decide +kernel
theorem dX3_careFor_3 : decode cX3_careFor 3 = .ok (.istore 4, 2) := by decide +kernel
theorem dX3_careFor_5 : decode cX3_careFor 5 = .ok (.iload 4, 2) := by decide +kernel
theorem dX3_careFor_7 : decode cX3_careFor 7 = .ok (.aload_n 1, 1) := by decide +kernel
theorem dX3_careFor_8 : decode cX3_careFor 8 = .ok (.arraylength, 1) := by decide +kernel
theorem dX3_careFor_9 : decode cX3_careFor 9 = .ok (.if_icmp .ge 34, 3) := by decide +kernel
theorem dX3_careFor_12 : decode cX3_careFor 12 = .ok (.aload_n 1, 1) := by decide +kernel
theorem dX3_careFor_13 : decode cX3_careFor 13 = .ok (.iload 4, 2) := by decide +kernel
theorem dX3_careFor_15 : decode cX3_careFor 15 = .ok (.aaload, 1) := by decide +kernel
theorem dX3_careFor_16 : decode cX3_careFor 16 = .ok (.astore 5, 2) := by decide +kernel
theorem dX3_careFor_18 : decode cX3_careFor 18 = .ok (.aload 5, 2) := by decide +kernel
theorem dX3_careFor_20 : decode cX3_careFor 20 = .ok (.ifnull 17, 3) := by decide +kernel
theorem dX3_careFor_23 : decode cX3_careFor 23 = .ok (.aload 5, 2) := by decide +kernel
theorem dX3_careFor_25 : decode cX3_careFor 25 = .ok (.dup, 1) := by decide +kernel
theorem dX3_careFor_26 : decode cX3_careFor 26 = .ok (.getfield 9, 3) := by decide +kernel
theorem dX3_careFor_29 : decode cX3_careFor 29 = .ok (.iload_n 2, 1) := by decide +kernel
theorem dX3_careFor_30 : decode cX3_careFor 30 = .ok (.iadd, 1) := by decide +kernel
theorem dX3_careFor_31 : decode cX3_careFor 31 = .ok (.putfield 9, 3) := by decide +kernel
theorem dX3_careFor_34 : decode cX3_careFor 34 = .ok (.iinc 3 1, 3) := by decide +kernel
theorem dX3_careFor_37 : decode cX3_careFor 37 = .ok (.iinc 4 1, 3) := by decide +kernel
theorem dX3_careFor_40 : decode cX3_careFor 40 = .ok (.goto (-35), 3) := by decide +kernel
theorem dX3_careFor_43 : decode cX3_careFor 43 = .ok (.iload_n 3, 1) := by decide +kernel
theorem dX3_careFor_44 : decode cX3_careFor 44 = .ok (.aload_n 0, 1) := by decide +kernel
theorem dX3_careFor_45 : decode cX3_careFor 45 = .ok (.getfield 15, 3) := by decide +kernel
theorem dX3_careFor_48 : decode cX3_careFor 48 = .ok (.iadd, 1) := by decide +kernel
theorem dX3_careFor_49 : decode cX3_careFor 49 = .ok (.ireturn, 1) := by decide +kernel
theorem dX4_init_0 : decode cX4_init 0 = .ok (.aload_n 0, 1) := by decide +kernel
theorem dX4_init_1 : decode cX4_init 1 = .ok (.iload_n 1, 1) := by decide +kernel
theorem dX4_init_2 : decode cX4_init 2 = .ok (.invokespecial 1, 3) := by decide +kernel
theorem dX4_init_5 : decode cX4_init 5 = .ok (.aload_n 0, 1) := by decide +kernel
theorem dX4_init_6 : decode cX4_init 6 = .ok (.iload_n 2, 1) := by decide +kernel
theorem dX4_init_7 : decode cX4_init 7 = .ok (.putfield 7, 3) := by decide +kernel
theorem dX4_init_10 : decode cX4_init 10 = .ok (.return_, 1) := by decide +kernel
theorem dX5_init_0 : decode cX5_init 0 = .ok (.aload_n 0, 1) := by decide +kernel
theorem dX5_init_1 : decode cX5_init 1 = .ok (.iload_n 1, 1) := by decide +kernel
theorem dX5_init_2 : decode cX5_init 2 = .ok (.ifCond .eq 8, 3) := by decide +kernel
theorem dX5_init_5 : decode cX5_init 5 = .ok (.bipush 7, 2) := by decide +kernel
theorem dX5_init_7 : decode cX5_init 7 = .ok (.goto 5, 3) := by decide +kernel
theorem dX5_init_10 : decode cX5_init 10 = .ok (.bipush 6, 2) := by decide +kernel
theorem dX5_init_12 : decode cX5_init 12 = .ok (.invokespecial 3, 3) := by decide +kernel
theorem dX5_init_15 : decode cX5_init 15 = .ok (.aload_n 0, 1) := by decide +kernel
theorem dX5_init_16 : decode cX5_init 16 = .ok (.aload_n 2, 1) := by decide +kernel
theorem dX5_init_17 : decode cX5_init 17 = .ok (.putfield 9, 3) := by decide +kernel
theorem dX5_init_20 : decode cX5_init 20 = .ok (.return_, 1) := by decide +kernel
theorem dX5_canHold_0 : decode cX5_canHold 0 = .ok (.aload_n 0, 1) := by decide +kernel
theorem dX5_canHold_1 : decode cX5_canHold 1 = .ok (.getfield 15, 3) := by decide +kernel
theorem dX5_canHold_4 : decode cX5_canHold 4 = .ok (.bipush 6, 2) := by decide +kernel
theorem dX5_canHold_6 : decode cX5_canHold 6 = .ok (.if_icmp .eq 14, 3) := by decide +kernel
theorem dX5_canHold_9 : decode cX5_canHold 9 = .ok (.aload_n 1, 1) := by decide +kernel
theorem dX5_canHold_10 : decode cX5_canHold 10 = .ok (.ifnull 10, 3) := by decide +kernel
theorem dX5_canHold_13 : decode cX5_canHold 13 = .ok (.aload_n 1, 1) := by decide +kernel
theorem dX5_canHold_14 : decode cX5_canHold 14 = .ok (.instanceof 19, 3) := by decide +kernel
theorem dX5_canHold_17 : decode cX5_canHold 17 = .ok (.ifCond .eq 7, 3) := by decide +kernel
theorem dX5_canHold_20 : decode cX5_canHold 20 = .ok (.iconst 1, 1) := by decide +kernel
theorem dX5_canHold_21 : decode cX5_canHold 21 = .ok (.goto 4, 3) := by decide +kernel
theorem dX5_canHold_24 : decode cX5_canHold 24 = .ok (.iconst 0, 1) := by decide +kernel
theorem dX5_canHold_25 : decode cX5_canHold 25 = .ok (.ireturn, 1) := by decide +kernel
theorem dX5_changePart_0 : decode cX5_changePart 0 = .ok (.iload_n 1, 1) := by decide +kernel
theorem dX5_changePart_1 : decode cX5_changePart 1 = .ok (.lookupswitch 75 #[(0, 27), (1, 51)], 27) := by decide +kernel
theorem dX5_changePart_28 : decode cX5_changePart 28 = .ok (.aload_n 0, 1) := by decide +kernel
theorem dX5_changePart_29 : decode cX5_changePart 29 = .ok (.aload_n 2, 1) := by decide +kernel
theorem dX5_changePart_30 : decode cX5_changePart 30 = .ok (.instanceof 21, 3) := by decide +kernel
theorem dX5_changePart_33 : decode cX5_changePart 33 = .ok (.ifCond .eq 12, 3) := by decide +kernel
theorem dX5_changePart_36 : decode cX5_changePart 36 = .ok (.aload_n 2, 1) := by decide +kernel
theorem dX5_changePart_37 : decode cX5_changePart 37 = .ok (.checkcast 21, 3) := by decide +kernel
theorem dX5_changePart_40 : decode cX5_changePart 40 = .ok (.astore_n 3, 1) := by decide +kernel
theorem dX5_changePart_41 : decode cX5_changePart 41 = .ok (.aload_n 3, 1) := by decide +kernel
theorem dX5_changePart_42 : decode cX5_changePart 42 = .ok (.goto 4, 3) := by decide +kernel
theorem dX5_changePart_45 : decode cX5_changePart 45 = .ok (.aconst_null, 1) := by decide +kernel
theorem dX5_changePart_46 : decode cX5_changePart 46 = .ok (.putfield 23, 3) := by decide +kernel
theorem dX5_changePart_49 : decode cX5_changePart 49 = .ok (.goto 48, 3) := by decide +kernel
theorem dX5_changePart_52 : decode cX5_changePart 52 = .ok (.aload_n 0, 1) := by decide +kernel
theorem dX5_changePart_53 : decode cX5_changePart 53 = .ok (.aload_n 2, 1) := by decide +kernel
theorem dX5_changePart_54 : decode cX5_changePart 54 = .ok (.instanceof 27, 3) := by decide +kernel
theorem dX5_changePart_57 : decode cX5_changePart 57 = .ok (.ifCond .eq 12, 3) := by decide +kernel
theorem dX5_changePart_60 : decode cX5_changePart 60 = .ok (.aload_n 2, 1) := by decide +kernel
theorem dX5_changePart_61 : decode cX5_changePart 61 = .ok (.checkcast 27, 3) := by decide +kernel
theorem dX5_changePart_64 : decode cX5_changePart 64 = .ok (.astore_n 3, 1) := by decide +kernel
theorem dX5_changePart_65 : decode cX5_changePart 65 = .ok (.aload_n 3, 1) := by decide +kernel
theorem dX5_changePart_66 : decode cX5_changePart 66 = .ok (.goto 4, 3) := by decide +kernel
theorem dX5_changePart_69 : decode cX5_changePart 69 = .ok (.aconst_null, 1) := by decide +kernel
theorem dX5_changePart_70 : decode cX5_changePart 70 = .ok (.putfield 29, 3) := by decide +kernel
theorem dX5_changePart_73 : decode cX5_changePart 73 = .ok (.goto 24, 3) := by decide +kernel
theorem dX5_changePart_76 : decode cX5_changePart 76 = .ok (.aload_n 0, 1) := by decide +kernel
theorem dX5_changePart_77 : decode cX5_changePart 77 = .ok (.aload_n 2, 1) := by decide +kernel
theorem dX5_changePart_78 : decode cX5_changePart 78 = .ok (.instanceof 33, 3) := by decide +kernel
theorem dX5_changePart_81 : decode cX5_changePart 81 = .ok (.ifCond .eq 12, 3) := by decide +kernel
theorem dX5_changePart_84 : decode cX5_changePart 84 = .ok (.aload_n 2, 1) := by decide +kernel
theorem dX5_changePart_85 : decode cX5_changePart 85 = .ok (.checkcast 33, 3) := by decide +kernel
theorem dX5_changePart_88 : decode cX5_changePart 88 = .ok (.astore_n 3, 1) := by decide +kernel
theorem dX5_changePart_89 : decode cX5_changePart 89 = .ok (.aload_n 3, 1) := by decide +kernel
theorem dX5_changePart_90 : decode cX5_changePart 90 = .ok (.goto 4, 3) := by decide +kernel
theorem dX5_changePart_93 : decode cX5_changePart 93 = .ok (.aconst_null, 1) := by decide +kernel
theorem dX5_changePart_94 : decode cX5_changePart 94 = .ok (.putfield 35, 3) := by decide +kernel
theorem dX5_changePart_97 : decode cX5_changePart 97 = .ok (.return_, 1) := by decide +kernel
theorem dX6_init_0 : decode cX6_init 0 = .ok (.aload_n 0, 1) := by decide +kernel
theorem dX6_init_1 : decode cX6_init 1 = .ok (.iload_n 1, 1) := by decide +kernel
theorem dX6_init_2 : decode cX6_init 2 = .ok (.invokespecial 1, 3) := by decide +kernel
theorem dX6_init_5 : decode cX6_init 5 = .ok (.aload_n 0, 1) := by decide +kernel
theorem dX6_init_6 : decode cX6_init 6 = .ok (.iload_n 2, 1) := by decide +kernel
theorem dX6_init_7 : decode cX6_init 7 = .ok (.putfield 7, 3) := by decide +kernel
theorem dX6_init_10 : decode cX6_init 10 = .ok (.return_, 1) := by decide +kernel
theorem dX7_init_0 : decode cX7_init 0 = .ok (.aload_n 0, 1) := by decide +kernel
theorem dX7_init_1 : decode cX7_init 1 = .ok (.iconst 2, 1) := by decide +kernel
theorem dX7_init_2 : decode cX7_init 2 = .ok (.invokespecial 3, 3) := by decide +kernel
theorem dX7_init_5 : decode cX7_init 5 = .ok (.aload_n 0, 1) := by decide +kernel
theorem dX7_init_6 : decode cX7_init 6 = .ok (.iload_n 1, 1) := by decide +kernel
theorem dX7_init_7 : decode cX7_init 7 = .ok (.putfield 9, 3) := by decide +kernel
theorem dX7_init_10 : decode cX7_init 10 = .ok (.aload_n 0, 1) := by decide +kernel
theorem dX7_init_11 : decode cX7_init 11 = .ok (.iconst 0, 1) := by decide +kernel
theorem dX7_init_12 : decode cX7_init 12 = .ok (.putfield 15, 3) := by decide +kernel
theorem dX7_init_15 : decode cX7_init 15 = .ok (.return_, 1) := by decide +kernel
theorem dX8_init_0 : decode cX8_init 0 = .ok (.aload_n 0, 1) := by decide +kernel
theorem dX8_init_1 : decode cX8_init 1 = .ok (.iconst 3, 1) := by decide +kernel
theorem dX8_init_2 : decode cX8_init 2 = .ok (.iload_n 1, 1) := by decide +kernel
theorem dX8_init_3 : decode cX8_init 3 = .ok (.invokespecial 3, 3) := by decide +kernel
theorem dX8_init_6 : decode cX8_init 6 = .ok (.return_, 1) := by decide +kernel
theorem dX8_canCareFor_0 : decode cX8_canCareFor 0 = .ok (.iconst 1, 1) := by decide +kernel
theorem dX8_canCareFor_1 : decode cX8_canCareFor 1 = .ok (.ireturn, 1) := by decide +kernel
theorem dX8_careFor_0 : decode cX8_careFor 0 = .ok (.aload_n 0, 1) := by decide +kernel
theorem dX8_careFor_1 : decode cX8_careFor 1 = .ok (.dup, 1) := by decide +kernel
theorem dX8_careFor_2 : decode cX8_careFor 2 = .ok (.getfield 9, 3) := by decide +kernel
theorem dX8_careFor_5 : decode cX8_careFor 5 = .ok (.iload_n 2, 1) := by decide +kernel
theorem dX8_careFor_6 : decode cX8_careFor 6 = .ok (.iadd, 1) := by decide +kernel
theorem dX8_careFor_7 : decode cX8_careFor 7 = .ok (.putfield 9, 3) := by decide +kernel
theorem dX8_careFor_10 : decode cX8_careFor 10 = .ok (.aload_n 0, 1) := by decide +kernel
theorem dX8_careFor_11 : decode cX8_careFor 11 = .ok (.getfield 9, 3) := by decide +kernel
theorem dX8_careFor_14 : decode cX8_careFor 14 = .ok (.ireturn, 1) := by decide +kernel
theorem dX9_init_0 : decode cX9_init 0 = .ok (.aload_n 0, 1) := by decide +kernel
theorem dX9_init_1 : decode cX9_init 1 = .ok (.invokespecial 1, 3) := by decide +kernel
theorem dX9_init_4 : decode cX9_init 4 = .ok (.aload_n 0, 1) := by decide +kernel
theorem dX9_init_5 : decode cX9_init 5 = .ok (.iload_n 1, 1) := by decide +kernel
theorem dX9_init_6 : decode cX9_init 6 = .ok (.putfield 7, 3) := by decide +kernel
theorem dX9_init_9 : decode cX9_init 9 = .ok (.return_, 1) := by decide +kernel
theorem dX10_init_0 : decode cX10_init 0 = .ok (.aload_n 0, 1) := by decide +kernel
theorem dX10_init_1 : decode cX10_init 1 = .ok (.invokespecial 3, 3) := by decide +kernel
theorem dX10_init_4 : decode cX10_init 4 = .ok (.aload_n 0, 1) := by decide +kernel
theorem dX10_init_5 : decode cX10_init 5 = .ok (.bipush 16, 2) := by decide +kernel
theorem dX10_init_7 : decode cX10_init 7 = .ok (.anewarray 9, 3) := by decide +kernel
theorem dX10_init_10 : decode cX10_init 10 = .ok (.putfield 11, 3) := by decide +kernel
theorem dX10_init_13 : decode cX10_init 13 = .ok (.aload_n 0, 1) := by decide +kernel
theorem dX10_init_14 : decode cX10_init 14 = .ok (.bipush 7, 2) := by decide +kernel
theorem dX10_init_16 : decode cX10_init 16 = .ok (.newarray .int, 2) := by decide +kernel
theorem dX10_init_18 : decode cX10_init 18 = .ok (.putfield 15, 3) := by decide +kernel
theorem dX10_init_21 : decode cX10_init 21 = .ok (.aload_n 0, 1) := by decide +kernel
theorem dX10_init_22 : decode cX10_init 22 = .ok (.iconst 0, 1) := by decide +kernel
theorem dX10_init_23 : decode cX10_init 23 = .ok (.putfield 19, 3) := by decide +kernel
theorem dX10_init_26 : decode cX10_init 26 = .ok (.return_, 1) := by decide +kernel
theorem dX10_set_0 : decode cX10_set 0 = .ok (.iload_n 1, 1) := by decide +kernel
theorem dX10_set_1 : decode cX10_set 1 = .ok (.invokestatic 23, 3) := by decide +kernel
theorem dX10_set_4 : decode cX10_set 4 = .ok (.ifCond .eq 12, 3) := by decide +kernel
theorem dX10_set_7 : decode cX10_set 7 = .ok (.iload_n 2, 1) := by decide +kernel
theorem dX10_set_8 : decode cX10_set 8 = .ok (.ifCond .lt 8, 3) := by decide +kernel
theorem dX10_set_11 : decode cX10_set 11 = .ok (.iload_n 2, 1) := by decide +kernel
theorem dX10_set_12 : decode cX10_set 12 = .ok (.iconst 5, 1) := by decide +kernel
theorem dX10_set_13 : decode cX10_set 13 = .ok (.if_icmp .le 5, 3) := by decide +kernel
theorem dX10_set_16 : decode cX10_set 16 = .ok (.iconst (-1), 1) := by decide +kernel
theorem dX10_set_17 : decode cX10_set 17 = .ok (.ireturn, 1) := by decide +kernel
theorem dX10_set_18 : decode cX10_set 18 = .ok (.aload_n 0, 1) := by decide +kernel
theorem dX10_set_19 : decode cX10_set 19 = .ok (.getfield 11, 3) := by decide +kernel
theorem dX10_set_22 : decode cX10_set 22 = .ok (.iload_n 1, 1) := by decide +kernel
theorem dX10_set_23 : decode cX10_set 23 = .ok (.iload_n 2, 1) := by decide +kernel
theorem dX10_set_24 : decode cX10_set 24 = .ok (.iload_n 3, 1) := by decide +kernel
theorem dX10_set_25 : decode cX10_set 25 = .ok (.invokestatic 27, 3) := by decide +kernel
theorem dX10_set_28 : decode cX10_set 28 = .ok (.aastore, 1) := by decide +kernel
theorem dX10_set_29 : decode cX10_set 29 = .ok (.iload_n 2, 1) := by decide +kernel
theorem dX10_set_30 : decode cX10_set 30 = .ok (.ireturn, 1) := by decide +kernel
theorem dX10_hive_0 : decode cX10_hive 0 = .ok (.iload_n 1, 1) := by decide +kernel
theorem dX10_hive_1 : decode cX10_hive 1 = .ok (.invokestatic 23, 3) := by decide +kernel
theorem dX10_hive_4 : decode cX10_hive 4 = .ok (.ifCond .eq 9, 3) := by decide +kernel
theorem dX10_hive_7 : decode cX10_hive 7 = .ok (.iload_n 3, 1) := by decide +kernel
theorem dX10_hive_8 : decode cX10_hive 8 = .ok (.bipush 30, 2) := by decide +kernel
theorem dX10_hive_10 : decode cX10_hive 10 = .ok (.if_icmp .le 5, 3) := by decide +kernel
theorem dX10_hive_13 : decode cX10_hive 13 = .ok (.iconst (-1), 1) := by decide +kernel
theorem dX10_hive_14 : decode cX10_hive 14 = .ok (.ireturn, 1) := by decide +kernel
theorem dX10_hive_15 : decode cX10_hive 15 = .ok (.iload_n 3, 1) := by decide +kernel
theorem dX10_hive_16 : decode cX10_hive 16 = .ok (.ifCond .ge 9, 3) := by decide +kernel
theorem dX10_hive_19 : decode cX10_hive 19 = .ok (.aload_n 0, 1) := by decide +kernel
theorem dX10_hive_20 : decode cX10_hive 20 = .ok (.iconst 2, 1) := by decide +kernel
theorem dX10_hive_21 : decode cX10_hive 21 = .ok (.invokevirtual 31, 3) := by decide +kernel
theorem dX10_hive_24 : decode cX10_hive 24 = .ok (.ireturn, 1) := by decide +kernel
theorem dX10_hive_25 : decode cX10_hive 25 = .ok (.aload_n 0, 1) := by decide +kernel
theorem dX10_hive_26 : decode cX10_hive 26 = .ok (.getfield 11, 3) := by decide +kernel
theorem dX10_hive_29 : decode cX10_hive 29 = .ok (.iload_n 1, 1) := by decide +kernel
theorem dX10_hive_30 : decode cX10_hive 30 = .ok (.new 35, 3) := by decide +kernel
theorem dX10_hive_33 : decode cX10_hive 33 = .ok (.dup, 1) := by decide +kernel
theorem dX10_hive_34 : decode cX10_hive 34 = .ok (.iload_n 2, 1) := by decide +kernel
theorem dX10_hive_35 : decode cX10_hive 35 = .ok (.iload_n 3, 1) := by decide +kernel
theorem dX10_hive_36 : decode cX10_hive 36 = .ok (.anewarray 37, 3) := by decide +kernel
theorem dX10_hive_39 : decode cX10_hive 39 = .ok (.invokespecial 39, 3) := by decide +kernel
theorem dX10_hive_42 : decode cX10_hive 42 = .ok (.aastore, 1) := by decide +kernel
theorem dX10_hive_43 : decode cX10_hive 43 = .ok (.iload_n 3, 1) := by decide +kernel
theorem dX10_hive_44 : decode cX10_hive 44 = .ok (.ireturn, 1) := by decide +kernel
theorem dX10_share_0 : decode cX10_share 0 = .ok (.iload_n 1, 1) := by decide +kernel
theorem dX10_share_1 : decode cX10_share 1 = .ok (.invokestatic 23, 3) := by decide +kernel
theorem dX10_share_4 : decode cX10_share 4 = .ok (.ifCond .eq 10, 3) := by decide +kernel
theorem dX10_share_7 : decode cX10_share 7 = .ok (.iload_n 2, 1) := by decide +kernel
theorem dX10_share_8 : decode cX10_share 8 = .ok (.invokestatic 23, 3) := by decide +kernel
theorem dX10_share_11 : decode cX10_share 11 = .ok (.ifCond .ne 5, 3) := by decide +kernel
theorem dX10_share_14 : decode cX10_share 14 = .ok (.iconst (-1), 1) := by decide +kernel
theorem dX10_share_15 : decode cX10_share 15 = .ok (.ireturn, 1) := by decide +kernel
theorem dX10_share_16 : decode cX10_share 16 = .ok (.aload_n 0, 1) := by decide +kernel
theorem dX10_share_17 : decode cX10_share 17 = .ok (.getfield 11, 3) := by decide +kernel
theorem dX10_share_20 : decode cX10_share 20 = .ok (.iload_n 2, 1) := by decide +kernel
theorem dX10_share_21 : decode cX10_share 21 = .ok (.aaload, 1) := by decide +kernel
theorem dX10_share_22 : decode cX10_share 22 = .ok (.astore_n 3, 1) := by decide +kernel
theorem dX10_share_23 : decode cX10_share 23 = .ok (.aload_n 0, 1) := by decide +kernel
theorem dX10_share_24 : decode cX10_share 24 = .ok (.getfield 11, 3) := by decide +kernel
theorem dX10_share_27 : decode cX10_share 27 = .ok (.iload_n 1, 1) := by decide +kernel
theorem dX10_share_28 : decode cX10_share 28 = .ok (.aload_n 3, 1) := by decide +kernel
theorem dX10_share_29 : decode cX10_share 29 = .ok (.aastore, 1) := by decide +kernel
theorem dX10_share_30 : decode cX10_share 30 = .ok (.aload_n 3, 1) := by decide +kernel
theorem dX10_share_31 : decode cX10_share 31 = .ok (.invokestatic 42, 3) := by decide +kernel
theorem dX10_share_34 : decode cX10_share 34 = .ok (.ireturn, 1) := by decide +kernel
theorem dX10_clear_0 : decode cX10_clear 0 = .ok (.iload_n 1, 1) := by decide +kernel
theorem dX10_clear_1 : decode cX10_clear 1 = .ok (.invokestatic 23, 3) := by decide +kernel
theorem dX10_clear_4 : decode cX10_clear 4 = .ok (.ifCond .ne 5, 3) := by decide +kernel
theorem dX10_clear_7 : decode cX10_clear 7 = .ok (.iconst (-1), 1) := by decide +kernel
theorem dX10_clear_8 : decode cX10_clear 8 = .ok (.ireturn, 1) := by decide +kernel
theorem dX10_clear_9 : decode cX10_clear 9 = .ok (.aload_n 0, 1) := by decide +kernel
theorem dX10_clear_10 : decode cX10_clear 10 = .ok (.getfield 11, 3) := by decide +kernel
theorem dX10_clear_13 : decode cX10_clear 13 = .ok (.iload_n 1, 1) := by decide +kernel
theorem dX10_clear_14 : decode cX10_clear 14 = .ok (.aaload, 1) := by decide +kernel
theorem dX10_clear_15 : decode cX10_clear 15 = .ok (.astore_n 2, 1) := by decide +kernel
theorem dX10_clear_16 : decode cX10_clear 16 = .ok (.aload_n 0, 1) := by decide +kernel
theorem dX10_clear_17 : decode cX10_clear 17 = .ok (.getfield 11, 3) := by decide +kernel
theorem dX10_clear_20 : decode cX10_clear 20 = .ok (.iload_n 1, 1) := by decide +kernel
theorem dX10_clear_21 : decode cX10_clear 21 = .ok (.aconst_null, 1) := by decide +kernel
theorem dX10_clear_22 : decode cX10_clear 22 = .ok (.aastore, 1) := by decide +kernel
theorem dX10_clear_23 : decode cX10_clear 23 = .ok (.aload_n 2, 1) := by decide +kernel
theorem dX10_clear_24 : decode cX10_clear 24 = .ok (.invokestatic 42, 3) := by decide +kernel
theorem dX10_clear_27 : decode cX10_clear 27 = .ok (.ireturn, 1) := by decide +kernel
theorem dX10_give_0 : decode cX10_give 0 = .ok (.iload_n 1, 1) := by decide +kernel
theorem dX10_give_1 : decode cX10_give 1 = .ok (.invokestatic 23, 3) := by decide +kernel
theorem dX10_give_4 : decode cX10_give 4 = .ok (.ifCond .eq 19, 3) := by decide +kernel
theorem dX10_give_7 : decode cX10_give 7 = .ok (.iload_n 3, 1) := by decide +kernel
theorem dX10_give_8 : decode cX10_give 8 = .ok (.invokestatic 23, 3) := by decide +kernel
theorem dX10_give_11 : decode cX10_give 11 = .ok (.ifCond .eq 12, 3) := by decide +kernel
theorem dX10_give_14 : decode cX10_give 14 = .ok (.iload_n 2, 1) := by decide +kernel
theorem dX10_give_15 : decode cX10_give 15 = .ok (.ifCond .lt 8, 3) := by decide +kernel
theorem dX10_give_18 : decode cX10_give 18 = .ok (.iload_n 2, 1) := by decide +kernel
theorem dX10_give_19 : decode cX10_give 19 = .ok (.iconst 2, 1) := by decide +kernel
theorem dX10_give_20 : decode cX10_give 20 = .ok (.if_icmp .le 5, 3) := by decide +kernel
theorem dX10_give_23 : decode cX10_give 23 = .ok (.iconst (-1), 1) := by decide +kernel
theorem dX10_give_24 : decode cX10_give 24 = .ok (.ireturn, 1) := by decide +kernel
theorem dX10_give_25 : decode cX10_give 25 = .ok (.aload_n 0, 1) := by decide +kernel
theorem dX10_give_26 : decode cX10_give 26 = .ok (.getfield 11, 3) := by decide +kernel
theorem dX10_give_29 : decode cX10_give 29 = .ok (.iload_n 3, 1) := by decide +kernel
theorem dX10_give_30 : decode cX10_give 30 = .ok (.aaload, 1) := by decide +kernel
theorem dX10_give_31 : decode cX10_give 31 = .ok (.astore 4, 2) := by decide +kernel
theorem dX10_give_33 : decode cX10_give 33 = .ok (.aload_n 0, 1) := by decide +kernel
theorem dX10_give_34 : decode cX10_give 34 = .ok (.getfield 11, 3) := by decide +kernel
theorem dX10_give_37 : decode cX10_give 37 = .ok (.iload_n 1, 1) := by decide +kernel
theorem dX10_give_38 : decode cX10_give 38 = .ok (.aaload, 1) := by decide +kernel
theorem dX10_give_39 : decode cX10_give 39 = .ok (.invokestatic 46, 3) := by decide +kernel
theorem dX10_give_42 : decode cX10_give 42 = .ok (.ifCond .ne 12, 3) := by decide +kernel
theorem dX10_give_45 : decode cX10_give 45 = .ok (.aload 4, 2) := by decide +kernel
theorem dX10_give_47 : decode cX10_give 47 = .ok (.iload_n 2, 1) := by decide +kernel
theorem dX10_give_48 : decode cX10_give 48 = .ok (.invokestatic 50, 3) := by decide +kernel
theorem dX10_give_51 : decode cX10_give 51 = .ok (.ifCond .eq 9, 3) := by decide +kernel
theorem dX10_give_54 : decode cX10_give 54 = .ok (.aload_n 0, 1) := by decide +kernel
theorem dX10_give_55 : decode cX10_give 55 = .ok (.iconst 5, 1) := by decide +kernel
theorem dX10_give_56 : decode cX10_give 56 = .ok (.invokevirtual 31, 3) := by decide +kernel
theorem dX10_give_59 : decode cX10_give 59 = .ok (.ireturn, 1) := by decide +kernel
theorem dX10_give_60 : decode cX10_give 60 = .ok (.aload_n 0, 1) := by decide +kernel
theorem dX10_give_61 : decode cX10_give 61 = .ok (.getfield 11, 3) := by decide +kernel
theorem dX10_give_64 : decode cX10_give 64 = .ok (.iload_n 1, 1) := by decide +kernel
theorem dX10_give_65 : decode cX10_give 65 = .ok (.aaload, 1) := by decide +kernel
theorem dX10_give_66 : decode cX10_give 66 = .ok (.invokestatic 54, 3) := by decide +kernel
theorem dX10_give_69 : decode cX10_give 69 = .ok (.astore 5, 2) := by decide +kernel
theorem dX10_give_71 : decode cX10_give 71 = .ok (.aload 5, 2) := by decide +kernel
theorem dX10_give_73 : decode cX10_give 73 = .ok (.ifnonnull 9, 3) := by decide +kernel
theorem dX10_give_76 : decode cX10_give 76 = .ok (.aload_n 0, 1) := by decide +kernel
theorem dX10_give_77 : decode cX10_give 77 = .ok (.iconst 1, 1) := by decide +kernel
theorem dX10_give_78 : decode cX10_give 78 = .ok (.invokevirtual 31, 3) := by decide +kernel
theorem dX10_give_81 : decode cX10_give 81 = .ok (.ireturn, 1) := by decide +kernel
theorem dX10_give_82 : decode cX10_give 82 = .ok (.aload 5, 2) := by decide +kernel
theorem dX10_give_84 : decode cX10_give 84 = .ok (.iload_n 2, 1) := by decide +kernel
theorem dX10_give_85 : decode cX10_give 85 = .ok (.aload 4, 2) := by decide +kernel
theorem dX10_give_87 : decode cX10_give 87 = .ok (.invokevirtual 58, 3) := by decide +kernel
theorem dX10_give_90 : decode cX10_give 90 = .ok (.aload 4, 2) := by decide +kernel
theorem dX10_give_92 : decode cX10_give 92 = .ok (.invokestatic 42, 3) := by decide +kernel
theorem dX10_give_95 : decode cX10_give 95 = .ok (.ireturn, 1) := by decide +kernel
theorem dX10_row_0 : decode cX10_row 0 = .ok (.iload_n 1, 1) := by decide +kernel
theorem dX10_row_1 : decode cX10_row 1 = .ok (.invokestatic 23, 3) := by decide +kernel
theorem dX10_row_4 : decode cX10_row 4 = .ok (.ifCond .eq 9, 3) := by decide +kernel
theorem dX10_row_7 : decode cX10_row 7 = .ok (.iload_n 2, 1) := by decide +kernel
theorem dX10_row_8 : decode cX10_row 8 = .ok (.bipush 30, 2) := by decide +kernel
theorem dX10_row_10 : decode cX10_row 10 = .ok (.if_icmp .le 5, 3) := by decide +kernel
theorem dX10_row_13 : decode cX10_row 13 = .ok (.iconst (-1), 1) := by decide +kernel
theorem dX10_row_14 : decode cX10_row 14 = .ok (.ireturn, 1) := by decide +kernel
theorem dX10_row_15 : decode cX10_row 15 = .ok (.aload_n 0, 1) := by decide +kernel
theorem dX10_row_16 : decode cX10_row 16 = .ok (.getfield 11, 3) := by decide +kernel
theorem dX10_row_19 : decode cX10_row 19 = .ok (.iload_n 1, 1) := by decide +kernel
theorem dX10_row_20 : decode cX10_row 20 = .ok (.aaload, 1) := by decide +kernel
theorem dX10_row_21 : decode cX10_row 21 = .ok (.invokestatic 46, 3) := by decide +kernel
theorem dX10_row_24 : decode cX10_row 24 = .ok (.ifCond .eq 9, 3) := by decide +kernel
theorem dX10_row_27 : decode cX10_row 27 = .ok (.aload_n 0, 1) := by decide +kernel
theorem dX10_row_28 : decode cX10_row 28 = .ok (.iconst 5, 1) := by decide +kernel
theorem dX10_row_29 : decode cX10_row 29 = .ok (.invokevirtual 31, 3) := by decide +kernel
theorem dX10_row_32 : decode cX10_row 32 = .ok (.ireturn, 1) := by decide +kernel
theorem dX10_row_33 : decode cX10_row 33 = .ok (.iload_n 2, 1) := by decide +kernel
theorem dX10_row_34 : decode cX10_row 34 = .ok (.ifCond .ge 9, 3) := by decide +kernel
theorem dX10_row_37 : decode cX10_row 37 = .ok (.aload_n 0, 1) := by decide +kernel
theorem dX10_row_38 : decode cX10_row 38 = .ok (.iconst 2, 1) := by decide +kernel
theorem dX10_row_39 : decode cX10_row 39 = .ok (.invokevirtual 31, 3) := by decide +kernel
theorem dX10_row_42 : decode cX10_row 42 = .ok (.ireturn, 1) := by decide +kernel
theorem dX10_row_43 : decode cX10_row 43 = .ok (.aload_n 0, 1) := by decide +kernel
theorem dX10_row_44 : decode cX10_row 44 = .ok (.getfield 11, 3) := by decide +kernel
theorem dX10_row_47 : decode cX10_row 47 = .ok (.iload_n 1, 1) := by decide +kernel
theorem dX10_row_48 : decode cX10_row 48 = .ok (.aaload, 1) := by decide +kernel
theorem dX10_row_49 : decode cX10_row 49 = .ok (.invokestatic 54, 3) := by decide +kernel
theorem dX10_row_52 : decode cX10_row 52 = .ok (.astore_n 3, 1) := by decide +kernel
theorem dX10_row_53 : decode cX10_row 53 = .ok (.aload_n 3, 1) := by decide +kernel
theorem dX10_row_54 : decode cX10_row 54 = .ok (.ifnonnull 9, 3) := by decide +kernel
theorem dX10_row_57 : decode cX10_row 57 = .ok (.aload_n 0, 1) := by decide +kernel
theorem dX10_row_58 : decode cX10_row 58 = .ok (.iconst 1, 1) := by decide +kernel
theorem dX10_row_59 : decode cX10_row 59 = .ok (.invokevirtual 31, 3) := by decide +kernel
theorem dX10_row_62 : decode cX10_row 62 = .ok (.ireturn, 1) := by decide +kernel
theorem dX10_row_63 : decode cX10_row 63 = .ok (.aload_n 3, 1) := by decide +kernel
theorem dX10_row_64 : decode cX10_row 64 = .ok (.iload_n 2, 1) := by decide +kernel
theorem dX10_row_65 : decode cX10_row 65 = .ok (.anewarray 37, 3) := by decide +kernel
theorem dX10_row_68 : decode cX10_row 68 = .ok (.putfield 62, 3) := by decide +kernel
theorem dX10_row_71 : decode cX10_row 71 = .ok (.iload_n 2, 1) := by decide +kernel
theorem dX10_row_72 : decode cX10_row 72 = .ok (.ireturn, 1) := by decide +kernel
theorem dX10_strip_0 : decode cX10_strip 0 = .ok (.iload_n 1, 1) := by decide +kernel
theorem dX10_strip_1 : decode cX10_strip 1 = .ok (.invokestatic 23, 3) := by decide +kernel
theorem dX10_strip_4 : decode cX10_strip 4 = .ok (.ifCond .ne 5, 3) := by decide +kernel
theorem dX10_strip_7 : decode cX10_strip 7 = .ok (.iconst (-1), 1) := by decide +kernel
theorem dX10_strip_8 : decode cX10_strip 8 = .ok (.ireturn, 1) := by decide +kernel
theorem dX10_strip_9 : decode cX10_strip 9 = .ok (.aload_n 0, 1) := by decide +kernel
theorem dX10_strip_10 : decode cX10_strip 10 = .ok (.getfield 11, 3) := by decide +kernel
theorem dX10_strip_13 : decode cX10_strip 13 = .ok (.iload_n 1, 1) := by decide +kernel
theorem dX10_strip_14 : decode cX10_strip 14 = .ok (.aaload, 1) := by decide +kernel
theorem dX10_strip_15 : decode cX10_strip 15 = .ok (.invokestatic 54, 3) := by decide +kernel
theorem dX10_strip_18 : decode cX10_strip 18 = .ok (.astore_n 2, 1) := by decide +kernel
theorem dX10_strip_19 : decode cX10_strip 19 = .ok (.aload_n 2, 1) := by decide +kernel
theorem dX10_strip_20 : decode cX10_strip 20 = .ok (.ifnull 10, 3) := by decide +kernel
theorem dX10_strip_23 : decode cX10_strip 23 = .ok (.aload_n 2, 1) := by decide +kernel
theorem dX10_strip_24 : decode cX10_strip 24 = .ok (.getfield 62, 3) := by decide +kernel
theorem dX10_strip_27 : decode cX10_strip 27 = .ok (.ifnonnull 17, 3) := by decide +kernel
theorem dX10_strip_30 : decode cX10_strip 30 = .ok (.aload_n 0, 1) := by decide +kernel
theorem dX10_strip_31 : decode cX10_strip 31 = .ok (.aload_n 0, 1) := by decide +kernel
theorem dX10_strip_32 : decode cX10_strip 32 = .ok (.getfield 11, 3) := by decide +kernel
theorem dX10_strip_35 : decode cX10_strip 35 = .ok (.iload_n 1, 1) := by decide +kernel
theorem dX10_strip_36 : decode cX10_strip 36 = .ok (.aaload, 1) := by decide +kernel
theorem dX10_strip_37 : decode cX10_strip 37 = .ok (.invokestatic 66, 3) := by decide +kernel
theorem dX10_strip_40 : decode cX10_strip 40 = .ok (.invokevirtual 31, 3) := by decide +kernel
theorem dX10_strip_43 : decode cX10_strip 43 = .ok (.ireturn, 1) := by decide +kernel
theorem dX10_strip_44 : decode cX10_strip 44 = .ok (.aload_n 2, 1) := by decide +kernel
theorem dX10_strip_45 : decode cX10_strip 45 = .ok (.getfield 62, 3) := by decide +kernel
theorem dX10_strip_48 : decode cX10_strip 48 = .ok (.arraylength, 1) := by decide +kernel
theorem dX10_strip_49 : decode cX10_strip 49 = .ok (.istore_n 3, 1) := by decide +kernel
theorem dX10_strip_50 : decode cX10_strip 50 = .ok (.aload_n 2, 1) := by decide +kernel
theorem dX10_strip_51 : decode cX10_strip 51 = .ok (.aconst_null, 1) := by decide +kernel
theorem dX10_strip_52 : decode cX10_strip 52 = .ok (.putfield 62, 3) := by decide +kernel
theorem dX10_strip_55 : decode cX10_strip 55 = .ok (.iload_n 3, 1) := by decide +kernel
theorem dX10_strip_56 : decode cX10_strip 56 = .ok (.ireturn, 1) := by decide +kernel
theorem dX10_comb_0 : decode cX10_comb 0 = .ok (.iload_n 1, 1) := by decide +kernel
theorem dX10_comb_1 : decode cX10_comb 1 = .ok (.invokestatic 23, 3) := by decide +kernel
theorem dX10_comb_4 : decode cX10_comb 4 = .ok (.ifCond .eq 15, 3) := by decide +kernel
theorem dX10_comb_7 : decode cX10_comb 7 = .ok (.iload_n 2, 1) := by decide +kernel
theorem dX10_comb_8 : decode cX10_comb 8 = .ok (.bipush 12, 2) := by decide +kernel
theorem dX10_comb_10 : decode cX10_comb 10 = .ok (.if_icmp .gt 9, 3) := by decide +kernel
theorem dX10_comb_13 : decode cX10_comb 13 = .ok (.iload_n 3, 1) := by decide +kernel
theorem dX10_comb_14 : decode cX10_comb 14 = .ok (.bipush 12, 2) := by decide +kernel
theorem dX10_comb_16 : decode cX10_comb 16 = .ok (.if_icmp .le 5, 3) := by decide +kernel
theorem dX10_comb_19 : decode cX10_comb 19 = .ok (.iconst (-1), 1) := by decide +kernel
theorem dX10_comb_20 : decode cX10_comb 20 = .ok (.ireturn, 1) := by decide +kernel
theorem dX10_comb_21 : decode cX10_comb 21 = .ok (.aload_n 0, 1) := by decide +kernel
theorem dX10_comb_22 : decode cX10_comb 22 = .ok (.getfield 11, 3) := by decide +kernel
theorem dX10_comb_25 : decode cX10_comb 25 = .ok (.iload_n 1, 1) := by decide +kernel
theorem dX10_comb_26 : decode cX10_comb 26 = .ok (.aaload, 1) := by decide +kernel
theorem dX10_comb_27 : decode cX10_comb 27 = .ok (.invokestatic 46, 3) := by decide +kernel
theorem dX10_comb_30 : decode cX10_comb 30 = .ok (.ifCond .eq 9, 3) := by decide +kernel
theorem dX10_comb_33 : decode cX10_comb 33 = .ok (.aload_n 0, 1) := by decide +kernel
theorem dX10_comb_34 : decode cX10_comb 34 = .ok (.iconst 5, 1) := by decide +kernel
theorem dX10_comb_35 : decode cX10_comb 35 = .ok (.invokevirtual 31, 3) := by decide +kernel
theorem dX10_comb_38 : decode cX10_comb 38 = .ok (.ireturn, 1) := by decide +kernel
theorem dX10_comb_39 : decode cX10_comb 39 = .ok (.iload_n 2, 1) := by decide +kernel
theorem dX10_comb_40 : decode cX10_comb 40 = .ok (.ifCond .lt 7, 3) := by decide +kernel
theorem dX10_comb_43 : decode cX10_comb 43 = .ok (.iload_n 3, 1) := by decide +kernel
theorem dX10_comb_44 : decode cX10_comb 44 = .ok (.ifCond .ge 9, 3) := by decide +kernel
theorem dX10_comb_47 : decode cX10_comb 47 = .ok (.aload_n 0, 1) := by decide +kernel
theorem dX10_comb_48 : decode cX10_comb 48 = .ok (.iconst 2, 1) := by decide +kernel
theorem dX10_comb_49 : decode cX10_comb 49 = .ok (.invokevirtual 31, 3) := by decide +kernel
theorem dX10_comb_52 : decode cX10_comb 52 = .ok (.ireturn, 1) := by decide +kernel
theorem dX10_comb_53 : decode cX10_comb 53 = .ok (.aload_n 0, 1) := by decide +kernel
theorem dX10_comb_54 : decode cX10_comb 54 = .ok (.getfield 11, 3) := by decide +kernel
theorem dX10_comb_57 : decode cX10_comb 57 = .ok (.iload_n 1, 1) := by decide +kernel
theorem dX10_comb_58 : decode cX10_comb 58 = .ok (.aaload, 1) := by decide +kernel
theorem dX10_comb_59 : decode cX10_comb 59 = .ok (.invokestatic 54, 3) := by decide +kernel
theorem dX10_comb_62 : decode cX10_comb 62 = .ok (.astore 4, 2) := by decide +kernel
theorem dX10_comb_64 : decode cX10_comb 64 = .ok (.aload 4, 2) := by decide +kernel
theorem dX10_comb_66 : decode cX10_comb 66 = .ok (.ifnonnull 9, 3) := by decide +kernel
theorem dX10_comb_69 : decode cX10_comb 69 = .ok (.aload_n 0, 1) := by decide +kernel
theorem dX10_comb_70 : decode cX10_comb 70 = .ok (.iconst 1, 1) := by decide +kernel
theorem dX10_comb_71 : decode cX10_comb 71 = .ok (.invokevirtual 31, 3) := by decide +kernel
theorem dX10_comb_74 : decode cX10_comb 74 = .ok (.ireturn, 1) := by decide +kernel
theorem dX10_comb_75 : decode cX10_comb 75 = .ok (.aload 4, 2) := by decide +kernel
theorem dX10_comb_77 : decode cX10_comb 77 = .ok (.new 69, 3) := by decide +kernel
theorem dX10_comb_80 : decode cX10_comb 80 = .ok (.dup, 1) := by decide +kernel
theorem dX10_comb_81 : decode cX10_comb 81 = .ok (.iload_n 2, 1) := by decide +kernel
theorem dX10_comb_82 : decode cX10_comb 82 = .ok (.iload_n 3, 1) := by decide +kernel
theorem dX10_comb_83 : decode cX10_comb 83 = .ok (.invokespecial 71, 3) := by decide +kernel
theorem dX10_comb_86 : decode cX10_comb 86 = .ok (.putfield 74, 3) := by decide +kernel
theorem dX10_comb_89 : decode cX10_comb 89 = .ok (.iload_n 2, 1) := by decide +kernel
theorem dX10_comb_90 : decode cX10_comb 90 = .ok (.ireturn, 1) := by decide +kernel
theorem dX10_put_0 : decode cX10_put 0 = .ok (.iload_n 1, 1) := by decide +kernel
theorem dX10_put_1 : decode cX10_put 1 = .ok (.invokestatic 23, 3) := by decide +kernel
theorem dX10_put_4 : decode cX10_put 4 = .ok (.ifCond .eq 10, 3) := by decide +kernel
theorem dX10_put_7 : decode cX10_put 7 = .ok (.iload_n 3, 1) := by decide +kernel
theorem dX10_put_8 : decode cX10_put 8 = .ok (.invokestatic 23, 3) := by decide +kernel
theorem dX10_put_11 : decode cX10_put 11 = .ok (.ifCond .ne 5, 3) := by decide +kernel
theorem dX10_put_14 : decode cX10_put 14 = .ok (.iconst (-1), 1) := by decide +kernel
theorem dX10_put_15 : decode cX10_put 15 = .ok (.ireturn, 1) := by decide +kernel
theorem dX10_put_16 : decode cX10_put 16 = .ok (.aload_n 0, 1) := by decide +kernel
theorem dX10_put_17 : decode cX10_put 17 = .ok (.getfield 11, 3) := by decide +kernel
theorem dX10_put_20 : decode cX10_put 20 = .ok (.iload_n 3, 1) := by decide +kernel
theorem dX10_put_21 : decode cX10_put 21 = .ok (.aaload, 1) := by decide +kernel
theorem dX10_put_22 : decode cX10_put 22 = .ok (.astore 4, 2) := by decide +kernel
theorem dX10_put_24 : decode cX10_put 24 = .ok (.aload 4, 2) := by decide +kernel
theorem dX10_put_26 : decode cX10_put 26 = .ok (.invokestatic 78, 3) := by decide +kernel
theorem dX10_put_29 : decode cX10_put 29 = .ok (.astore 5, 2) := by decide +kernel
theorem dX10_put_31 : decode cX10_put 31 = .ok (.aload_n 0, 1) := by decide +kernel
theorem dX10_put_32 : decode cX10_put 32 = .ok (.getfield 11, 3) := by decide +kernel
theorem dX10_put_35 : decode cX10_put 35 = .ok (.iload_n 1, 1) := by decide +kernel
theorem dX10_put_36 : decode cX10_put 36 = .ok (.aaload, 1) := by decide +kernel
theorem dX10_put_37 : decode cX10_put 37 = .ok (.invokestatic 46, 3) := by decide +kernel
theorem dX10_put_40 : decode cX10_put 40 = .ok (.ifCond .ne 13, 3) := by decide +kernel
theorem dX10_put_43 : decode cX10_put 43 = .ok (.aload 4, 2) := by decide +kernel
theorem dX10_put_45 : decode cX10_put 45 = .ok (.ifnull 14, 3) := by decide +kernel
theorem dX10_put_48 : decode cX10_put 48 = .ok (.aload 5, 2) := by decide +kernel
theorem dX10_put_50 : decode cX10_put 50 = .ok (.ifnonnull 9, 3) := by decide +kernel
theorem dX10_put_53 : decode cX10_put 53 = .ok (.aload_n 0, 1) := by decide +kernel
theorem dX10_put_54 : decode cX10_put 54 = .ok (.iconst 5, 1) := by decide +kernel
theorem dX10_put_55 : decode cX10_put 55 = .ok (.invokevirtual 31, 3) := by decide +kernel
theorem dX10_put_58 : decode cX10_put 58 = .ok (.ireturn, 1) := by decide +kernel
theorem dX10_put_59 : decode cX10_put 59 = .ok (.aload_n 0, 1) := by decide +kernel
theorem dX10_put_60 : decode cX10_put 60 = .ok (.getfield 11, 3) := by decide +kernel
theorem dX10_put_63 : decode cX10_put 63 = .ok (.iload_n 1, 1) := by decide +kernel
theorem dX10_put_64 : decode cX10_put 64 = .ok (.aaload, 1) := by decide +kernel
theorem dX10_put_65 : decode cX10_put 65 = .ok (.invokestatic 54, 3) := by decide +kernel
theorem dX10_put_68 : decode cX10_put 68 = .ok (.astore 6, 2) := by decide +kernel
theorem dX10_put_70 : decode cX10_put 70 = .ok (.aload 6, 2) := by decide +kernel
theorem dX10_put_72 : decode cX10_put 72 = .ok (.ifnull 11, 3) := by decide +kernel
theorem dX10_put_75 : decode cX10_put 75 = .ok (.aload 6, 2) := by decide +kernel
theorem dX10_put_77 : decode cX10_put 77 = .ok (.getfield 62, 3) := by decide +kernel
theorem dX10_put_80 : decode cX10_put 80 = .ok (.ifnonnull 9, 3) := by decide +kernel
theorem dX10_put_83 : decode cX10_put 83 = .ok (.aload_n 0, 1) := by decide +kernel
theorem dX10_put_84 : decode cX10_put 84 = .ok (.iconst 1, 1) := by decide +kernel
theorem dX10_put_85 : decode cX10_put 85 = .ok (.invokevirtual 31, 3) := by decide +kernel
theorem dX10_put_88 : decode cX10_put 88 = .ok (.ireturn, 1) := by decide +kernel
theorem dX10_put_89 : decode cX10_put 89 = .ok (.iload_n 2, 1) := by decide +kernel
theorem dX10_put_90 : decode cX10_put 90 = .ok (.aload 6, 2) := by decide +kernel
theorem dX10_put_92 : decode cX10_put 92 = .ok (.getfield 62, 3) := by decide +kernel
theorem dX10_put_95 : decode cX10_put 95 = .ok (.arraylength, 1) := by decide +kernel
theorem dX10_put_96 : decode cX10_put 96 = .ok (.invokestatic 82, 3) := by decide +kernel
theorem dX10_put_99 : decode cX10_put 99 = .ok (.ifCond .ne 9, 3) := by decide +kernel
theorem dX10_put_102 : decode cX10_put 102 = .ok (.aload_n 0, 1) := by decide +kernel
theorem dX10_put_103 : decode cX10_put 103 = .ok (.iconst 3, 1) := by decide +kernel
theorem dX10_put_104 : decode cX10_put 104 = .ok (.invokevirtual 31, 3) := by decide +kernel
theorem dX10_put_107 : decode cX10_put 107 = .ok (.ireturn, 1) := by decide +kernel
theorem dX10_put_108 : decode cX10_put 108 = .ok (.aload 6, 2) := by decide +kernel
theorem dX10_put_110 : decode cX10_put 110 = .ok (.aload 5, 2) := by decide +kernel
theorem dX10_put_112 : decode cX10_put 112 = .ok (.invokevirtual 86, 3) := by decide +kernel
theorem dX10_put_115 : decode cX10_put 115 = .ok (.ifCond .ne 9, 3) := by decide +kernel
theorem dX10_put_118 : decode cX10_put 118 = .ok (.aload_n 0, 1) := by decide +kernel
theorem dX10_put_119 : decode cX10_put 119 = .ok (.iconst 4, 1) := by decide +kernel
theorem dX10_put_120 : decode cX10_put 120 = .ok (.invokevirtual 31, 3) := by decide +kernel
theorem dX10_put_123 : decode cX10_put 123 = .ok (.ireturn, 1) := by decide +kernel
theorem dX10_put_124 : decode cX10_put 124 = .ok (.aload 6, 2) := by decide +kernel
theorem dX10_put_126 : decode cX10_put 126 = .ok (.getfield 62, 3) := by decide +kernel
theorem dX10_put_129 : decode cX10_put 129 = .ok (.iload_n 2, 1) := by decide +kernel
theorem dX10_put_130 : decode cX10_put 130 = .ok (.aload 5, 2) := by decide +kernel
theorem dX10_put_132 : decode cX10_put 132 = .ok (.aastore, 1) := by decide +kernel
theorem dX10_put_133 : decode cX10_put 133 = .ok (.aload 5, 2) := by decide +kernel
theorem dX10_put_135 : decode cX10_put 135 = .ok (.invokestatic 42, 3) := by decide +kernel
theorem dX10_put_138 : decode cX10_put 138 = .ok (.ireturn, 1) := by decide +kernel
theorem dX10_take_0 : decode cX10_take 0 = .ok (.iload_n 1, 1) := by decide +kernel
theorem dX10_take_1 : decode cX10_take 1 = .ok (.invokestatic 23, 3) := by decide +kernel
theorem dX10_take_4 : decode cX10_take 4 = .ok (.ifCond .eq 10, 3) := by decide +kernel
theorem dX10_take_7 : decode cX10_take 7 = .ok (.iload_n 3, 1) := by decide +kernel
theorem dX10_take_8 : decode cX10_take 8 = .ok (.invokestatic 23, 3) := by decide +kernel
theorem dX10_take_11 : decode cX10_take 11 = .ok (.ifCond .ne 5, 3) := by decide +kernel
theorem dX10_take_14 : decode cX10_take 14 = .ok (.iconst (-1), 1) := by decide +kernel
theorem dX10_take_15 : decode cX10_take 15 = .ok (.ireturn, 1) := by decide +kernel
theorem dX10_take_16 : decode cX10_take 16 = .ok (.aload_n 0, 1) := by decide +kernel
theorem dX10_take_17 : decode cX10_take 17 = .ok (.getfield 11, 3) := by decide +kernel
theorem dX10_take_20 : decode cX10_take 20 = .ok (.iload_n 1, 1) := by decide +kernel
theorem dX10_take_21 : decode cX10_take 21 = .ok (.aaload, 1) := by decide +kernel
theorem dX10_take_22 : decode cX10_take 22 = .ok (.invokestatic 54, 3) := by decide +kernel
theorem dX10_take_25 : decode cX10_take 25 = .ok (.invokestatic 90, 3) := by decide +kernel
theorem dX10_take_28 : decode cX10_take 28 = .ok (.astore 4, 2) := by decide +kernel
theorem dX10_take_30 : decode cX10_take 30 = .ok (.aload 4, 2) := by decide +kernel
theorem dX10_take_32 : decode cX10_take 32 = .ok (.ifnonnull 17, 3) := by decide +kernel
theorem dX10_take_35 : decode cX10_take 35 = .ok (.aload_n 0, 1) := by decide +kernel
theorem dX10_take_36 : decode cX10_take 36 = .ok (.aload_n 0, 1) := by decide +kernel
theorem dX10_take_37 : decode cX10_take 37 = .ok (.getfield 11, 3) := by decide +kernel
theorem dX10_take_40 : decode cX10_take 40 = .ok (.iload_n 1, 1) := by decide +kernel
theorem dX10_take_41 : decode cX10_take 41 = .ok (.aaload, 1) := by decide +kernel
theorem dX10_take_42 : decode cX10_take 42 = .ok (.invokestatic 66, 3) := by decide +kernel
theorem dX10_take_45 : decode cX10_take 45 = .ok (.invokevirtual 31, 3) := by decide +kernel
theorem dX10_take_48 : decode cX10_take 48 = .ok (.ireturn, 1) := by decide +kernel
theorem dX10_take_49 : decode cX10_take 49 = .ok (.iload_n 2, 1) := by decide +kernel
theorem dX10_take_50 : decode cX10_take 50 = .ok (.aload 4, 2) := by decide +kernel
theorem dX10_take_52 : decode cX10_take 52 = .ok (.arraylength, 1) := by decide +kernel
theorem dX10_take_53 : decode cX10_take 53 = .ok (.invokestatic 82, 3) := by decide +kernel
theorem dX10_take_56 : decode cX10_take 56 = .ok (.ifCond .ne 9, 3) := by decide +kernel
theorem dX10_take_59 : decode cX10_take 59 = .ok (.aload_n 0, 1) := by decide +kernel
theorem dX10_take_60 : decode cX10_take 60 = .ok (.iconst 3, 1) := by decide +kernel
theorem dX10_take_61 : decode cX10_take 61 = .ok (.invokevirtual 31, 3) := by decide +kernel
theorem dX10_take_64 : decode cX10_take 64 = .ok (.ireturn, 1) := by decide +kernel
theorem dX10_take_65 : decode cX10_take 65 = .ok (.aload 4, 2) := by decide +kernel
theorem dX10_take_67 : decode cX10_take 67 = .ok (.iload_n 2, 1) := by decide +kernel
theorem dX10_take_68 : decode cX10_take 68 = .ok (.aaload, 1) := by decide +kernel
theorem dX10_take_69 : decode cX10_take 69 = .ok (.astore 5, 2) := by decide +kernel
theorem dX10_take_71 : decode cX10_take 71 = .ok (.aload 4, 2) := by decide +kernel
theorem dX10_take_73 : decode cX10_take 73 = .ok (.iload_n 2, 1) := by decide +kernel
theorem dX10_take_74 : decode cX10_take 74 = .ok (.aconst_null, 1) := by decide +kernel
theorem dX10_take_75 : decode cX10_take 75 = .ok (.aastore, 1) := by decide +kernel
theorem dX10_take_76 : decode cX10_take 76 = .ok (.aload_n 0, 1) := by decide +kernel
theorem dX10_take_77 : decode cX10_take 77 = .ok (.getfield 11, 3) := by decide +kernel
theorem dX10_take_80 : decode cX10_take 80 = .ok (.iload_n 3, 1) := by decide +kernel
theorem dX10_take_81 : decode cX10_take 81 = .ok (.aload 5, 2) := by decide +kernel
theorem dX10_take_83 : decode cX10_take 83 = .ok (.aastore, 1) := by decide +kernel
theorem dX10_take_84 : decode cX10_take 84 = .ok (.aload 5, 2) := by decide +kernel
theorem dX10_take_86 : decode cX10_take 86 = .ok (.invokestatic 42, 3) := by decide +kernel
theorem dX10_take_89 : decode cX10_take 89 = .ok (.ireturn, 1) := by decide +kernel
theorem dX10_honey_0 : decode cX10_honey 0 = .ok (.iload_n 1, 1) := by decide +kernel
theorem dX10_honey_1 : decode cX10_honey 1 = .ok (.invokestatic 23, 3) := by decide +kernel
theorem dX10_honey_4 : decode cX10_honey 4 = .ok (.ifCond .ne 7, 3) := by decide +kernel
theorem dX10_honey_7 : decode cX10_honey 7 = .ok (.ldc2_w 94, 3) := by decide +kernel
theorem dX10_honey_10 : decode cX10_honey 10 = .ok (.lreturn, 1) := by decide +kernel
theorem dX10_honey_11 : decode cX10_honey 11 = .ok (.aload_n 0, 1) := by decide +kernel
theorem dX10_honey_12 : decode cX10_honey 12 = .ok (.getfield 11, 3) := by decide +kernel
theorem dX10_honey_15 : decode cX10_honey 15 = .ok (.iload_n 1, 1) := by decide +kernel
theorem dX10_honey_16 : decode cX10_honey 16 = .ok (.aaload, 1) := by decide +kernel
theorem dX10_honey_17 : decode cX10_honey 17 = .ok (.invokestatic 54, 3) := by decide +kernel
theorem dX10_honey_20 : decode cX10_honey 20 = .ok (.invokestatic 90, 3) := by decide +kernel
theorem dX10_honey_23 : decode cX10_honey 23 = .ok (.astore 4, 2) := by decide +kernel
theorem dX10_honey_25 : decode cX10_honey 25 = .ok (.aload 4, 2) := by decide +kernel
theorem dX10_honey_27 : decode cX10_honey 27 = .ok (.ifnonnull 17, 3) := by decide +kernel
theorem dX10_honey_30 : decode cX10_honey 30 = .ok (.aload_n 0, 1) := by decide +kernel
theorem dX10_honey_31 : decode cX10_honey 31 = .ok (.aload_n 0, 1) := by decide +kernel
theorem dX10_honey_32 : decode cX10_honey 32 = .ok (.getfield 11, 3) := by decide +kernel
theorem dX10_honey_35 : decode cX10_honey 35 = .ok (.iload_n 1, 1) := by decide +kernel
theorem dX10_honey_36 : decode cX10_honey 36 = .ok (.aaload, 1) := by decide +kernel
theorem dX10_honey_37 : decode cX10_honey 37 = .ok (.invokestatic 66, 3) := by decide +kernel
theorem dX10_honey_40 : decode cX10_honey 40 = .ok (.invokevirtual 96, 3) := by decide +kernel
theorem dX10_honey_43 : decode cX10_honey 43 = .ok (.lreturn, 1) := by decide +kernel
theorem dX10_honey_44 : decode cX10_honey 44 = .ok (.iload_n 2, 1) := by decide +kernel
theorem dX10_honey_45 : decode cX10_honey 45 = .ok (.aload 4, 2) := by decide +kernel
theorem dX10_honey_47 : decode cX10_honey 47 = .ok (.arraylength, 1) := by decide +kernel
theorem dX10_honey_48 : decode cX10_honey 48 = .ok (.invokestatic 82, 3) := by decide +kernel
theorem dX10_honey_51 : decode cX10_honey 51 = .ok (.ifCond .ne 9, 3) := by decide +kernel
theorem dX10_honey_54 : decode cX10_honey 54 = .ok (.aload_n 0, 1) := by decide +kernel
theorem dX10_honey_55 : decode cX10_honey 55 = .ok (.iconst 3, 1) := by decide +kernel
theorem dX10_honey_56 : decode cX10_honey 56 = .ok (.invokevirtual 96, 3) := by decide +kernel
theorem dX10_honey_59 : decode cX10_honey 59 = .ok (.lreturn, 1) := by decide +kernel
theorem dX10_honey_60 : decode cX10_honey 60 = .ok (.aload 4, 2) := by decide +kernel
theorem dX10_honey_62 : decode cX10_honey 62 = .ok (.iload_n 2, 1) := by decide +kernel
theorem dX10_honey_63 : decode cX10_honey 63 = .ok (.aaload, 1) := by decide +kernel
theorem dX10_honey_64 : decode cX10_honey 64 = .ok (.astore 5, 2) := by decide +kernel
theorem dX10_honey_66 : decode cX10_honey 66 = .ok (.aload 5, 2) := by decide +kernel
theorem dX10_honey_68 : decode cX10_honey 68 = .ok (.ifnonnull 9, 3) := by decide +kernel
theorem dX10_honey_71 : decode cX10_honey 71 = .ok (.aload_n 0, 1) := by decide +kernel
theorem dX10_honey_72 : decode cX10_honey 72 = .ok (.iconst 1, 1) := by decide +kernel
theorem dX10_honey_73 : decode cX10_honey 73 = .ok (.invokevirtual 96, 3) := by decide +kernel
theorem dX10_honey_76 : decode cX10_honey 76 = .ok (.lreturn, 1) := by decide +kernel
theorem dX10_honey_77 : decode cX10_honey 77 = .ok (.aload 5, 2) := by decide +kernel
theorem dX10_honey_79 : decode cX10_honey 79 = .ok (.dup, 1) := by decide +kernel
theorem dX10_honey_80 : decode cX10_honey 80 = .ok (.getfield 100, 3) := by decide +kernel
theorem dX10_honey_83 : decode cX10_honey 83 = .ok (.iload_n 3, 1) := by decide +kernel
theorem dX10_honey_84 : decode cX10_honey 84 = .ok (.iadd, 1) := by decide +kernel
theorem dX10_honey_85 : decode cX10_honey 85 = .ok (.putfield 100, 3) := by decide +kernel
theorem dX10_honey_88 : decode cX10_honey 88 = .ok (.aload 5, 2) := by decide +kernel
theorem dX10_honey_90 : decode cX10_honey 90 = .ok (.getfield 100, 3) := by decide +kernel
theorem dX10_honey_93 : decode cX10_honey 93 = .ok (.i2l, 1) := by decide +kernel
theorem dX10_honey_94 : decode cX10_honey 94 = .ok (.lreturn, 1) := by decide +kernel
theorem dX10_lay_0 : decode cX10_lay 0 = .ok (.iload_n 1, 1) := by decide +kernel
theorem dX10_lay_1 : decode cX10_lay 1 = .ok (.invokestatic 23, 3) := by decide +kernel
theorem dX10_lay_4 : decode cX10_lay 4 = .ok (.ifCond .ne 7, 3) := by decide +kernel
theorem dX10_lay_7 : decode cX10_lay 7 = .ok (.ldc2_w 94, 3) := by decide +kernel
theorem dX10_lay_10 : decode cX10_lay 10 = .ok (.lreturn, 1) := by decide +kernel
theorem dX10_lay_11 : decode cX10_lay 11 = .ok (.aload_n 0, 1) := by decide +kernel
theorem dX10_lay_12 : decode cX10_lay 12 = .ok (.getfield 11, 3) := by decide +kernel
theorem dX10_lay_15 : decode cX10_lay 15 = .ok (.iload_n 1, 1) := by decide +kernel
theorem dX10_lay_16 : decode cX10_lay 16 = .ok (.aaload, 1) := by decide +kernel
theorem dX10_lay_17 : decode cX10_lay 17 = .ok (.invokestatic 54, 3) := by decide +kernel
theorem dX10_lay_20 : decode cX10_lay 20 = .ok (.astore 4, 2) := by decide +kernel
theorem dX10_lay_22 : decode cX10_lay 22 = .ok (.aload 4, 2) := by decide +kernel
theorem dX10_lay_24 : decode cX10_lay 24 = .ok (.ifnull 11, 3) := by decide +kernel
theorem dX10_lay_27 : decode cX10_lay 27 = .ok (.aload 4, 2) := by decide +kernel
theorem dX10_lay_29 : decode cX10_lay 29 = .ok (.getfield 62, 3) := by decide +kernel
theorem dX10_lay_32 : decode cX10_lay 32 = .ok (.ifnonnull 17, 3) := by decide +kernel
theorem dX10_lay_35 : decode cX10_lay 35 = .ok (.aload_n 0, 1) := by decide +kernel
theorem dX10_lay_36 : decode cX10_lay 36 = .ok (.aload_n 0, 1) := by decide +kernel
theorem dX10_lay_37 : decode cX10_lay 37 = .ok (.getfield 11, 3) := by decide +kernel
theorem dX10_lay_40 : decode cX10_lay 40 = .ok (.iload_n 1, 1) := by decide +kernel
theorem dX10_lay_41 : decode cX10_lay 41 = .ok (.aaload, 1) := by decide +kernel
theorem dX10_lay_42 : decode cX10_lay 42 = .ok (.invokestatic 66, 3) := by decide +kernel
theorem dX10_lay_45 : decode cX10_lay 45 = .ok (.invokevirtual 96, 3) := by decide +kernel
theorem dX10_lay_48 : decode cX10_lay 48 = .ok (.lreturn, 1) := by decide +kernel
theorem dX10_lay_49 : decode cX10_lay 49 = .ok (.aload 4, 2) := by decide +kernel
theorem dX10_lay_51 : decode cX10_lay 51 = .ok (.getfield 62, 3) := by decide +kernel
theorem dX10_lay_54 : decode cX10_lay 54 = .ok (.astore 5, 2) := by decide +kernel
theorem dX10_lay_56 : decode cX10_lay 56 = .ok (.iload_n 2, 1) := by decide +kernel
theorem dX10_lay_57 : decode cX10_lay 57 = .ok (.aload 5, 2) := by decide +kernel
theorem dX10_lay_59 : decode cX10_lay 59 = .ok (.arraylength, 1) := by decide +kernel
theorem dX10_lay_60 : decode cX10_lay 60 = .ok (.invokestatic 82, 3) := by decide +kernel
theorem dX10_lay_63 : decode cX10_lay 63 = .ok (.ifCond .ne 9, 3) := by decide +kernel
theorem dX10_lay_66 : decode cX10_lay 66 = .ok (.aload_n 0, 1) := by decide +kernel
theorem dX10_lay_67 : decode cX10_lay 67 = .ok (.iconst 3, 1) := by decide +kernel
theorem dX10_lay_68 : decode cX10_lay 68 = .ok (.invokevirtual 96, 3) := by decide +kernel
theorem dX10_lay_71 : decode cX10_lay 71 = .ok (.lreturn, 1) := by decide +kernel
theorem dX10_lay_72 : decode cX10_lay 72 = .ok (.aload 5, 2) := by decide +kernel
theorem dX10_lay_74 : decode cX10_lay 74 = .ok (.iload_n 2, 1) := by decide +kernel
theorem dX10_lay_75 : decode cX10_lay 75 = .ok (.aaload, 1) := by decide +kernel
theorem dX10_lay_76 : decode cX10_lay 76 = .ok (.invokestatic 103, 3) := by decide +kernel
theorem dX10_lay_79 : decode cX10_lay 79 = .ok (.astore 6, 2) := by decide +kernel
theorem dX10_lay_81 : decode cX10_lay 81 = .ok (.aload 5, 2) := by decide +kernel
theorem dX10_lay_83 : decode cX10_lay 83 = .ok (.iload_n 2, 1) := by decide +kernel
theorem dX10_lay_84 : decode cX10_lay 84 = .ok (.aaload, 1) := by decide +kernel
theorem dX10_lay_85 : decode cX10_lay 85 = .ok (.ifnull 14, 3) := by decide +kernel
theorem dX10_lay_88 : decode cX10_lay 88 = .ok (.aload 6, 2) := by decide +kernel
theorem dX10_lay_90 : decode cX10_lay 90 = .ok (.ifnonnull 9, 3) := by decide +kernel
theorem dX10_lay_93 : decode cX10_lay 93 = .ok (.aload_n 0, 1) := by decide +kernel
theorem dX10_lay_94 : decode cX10_lay 94 = .ok (.iconst 5, 1) := by decide +kernel
theorem dX10_lay_95 : decode cX10_lay 95 = .ok (.invokevirtual 96, 3) := by decide +kernel
theorem dX10_lay_98 : decode cX10_lay 98 = .ok (.lreturn, 1) := by decide +kernel
theorem dX10_lay_99 : decode cX10_lay 99 = .ok (.aload 4, 2) := by decide +kernel
theorem dX10_lay_101 : decode cX10_lay 101 = .ok (.getfield 107, 3) := by decide +kernel
theorem dX10_lay_104 : decode cX10_lay 104 = .ok (.astore 7, 2) := by decide +kernel
theorem dX10_lay_106 : decode cX10_lay 106 = .ok (.aload 7, 2) := by decide +kernel
theorem dX10_lay_108 : decode cX10_lay 108 = .ok (.ifnull 8, 3) := by decide +kernel
theorem dX10_lay_111 : decode cX10_lay 111 = .ok (.aload 6, 2) := by decide +kernel
theorem dX10_lay_113 : decode cX10_lay 113 = .ok (.ifnonnull 9, 3) := by decide +kernel
theorem dX10_lay_116 : decode cX10_lay 116 = .ok (.aload_n 0, 1) := by decide +kernel
theorem dX10_lay_117 : decode cX10_lay 117 = .ok (.iconst 1, 1) := by decide +kernel
theorem dX10_lay_118 : decode cX10_lay 118 = .ok (.invokevirtual 96, 3) := by decide +kernel
theorem dX10_lay_121 : decode cX10_lay 121 = .ok (.lreturn, 1) := by decide +kernel
theorem dX10_lay_122 : decode cX10_lay 122 = .ok (.aload 6, 2) := by decide +kernel
theorem dX10_lay_124 : decode cX10_lay 124 = .ok (.dup, 1) := by decide +kernel
theorem dX10_lay_125 : decode cX10_lay 125 = .ok (.getfield 111, 3) := by decide +kernel
theorem dX10_lay_128 : decode cX10_lay 128 = .ok (.iload_n 3, 1) := by decide +kernel
theorem dX10_lay_129 : decode cX10_lay 129 = .ok (.aload 7, 2) := by decide +kernel
theorem dX10_lay_131 : decode cX10_lay 131 = .ok (.getfield 116, 3) := by decide +kernel
theorem dX10_lay_134 : decode cX10_lay 134 = .ok (.imul, 1) := by decide +kernel
theorem dX10_lay_135 : decode cX10_lay 135 = .ok (.iadd, 1) := by decide +kernel
theorem dX10_lay_136 : decode cX10_lay 136 = .ok (.putfield 111, 3) := by decide +kernel
theorem dX10_lay_139 : decode cX10_lay 139 = .ok (.aload 7, 2) := by decide +kernel
theorem dX10_lay_141 : decode cX10_lay 141 = .ok (.dup, 1) := by decide +kernel
theorem dX10_lay_142 : decode cX10_lay 142 = .ok (.getfield 121, 3) := by decide +kernel
theorem dX10_lay_145 : decode cX10_lay 145 = .ok (.iconst 1, 1) := by decide +kernel
theorem dX10_lay_146 : decode cX10_lay 146 = .ok (.iadd, 1) := by decide +kernel
theorem dX10_lay_147 : decode cX10_lay 147 = .ok (.putfield 121, 3) := by decide +kernel
theorem dX10_lay_150 : decode cX10_lay 150 = .ok (.aload 6, 2) := by decide +kernel
theorem dX10_lay_152 : decode cX10_lay 152 = .ok (.getfield 111, 3) := by decide +kernel
theorem dX10_lay_155 : decode cX10_lay 155 = .ok (.i2l, 1) := by decide +kernel
theorem dX10_lay_156 : decode cX10_lay 156 = .ok (.lreturn, 1) := by decide +kernel
theorem dX10_tend_0 : decode cX10_tend 0 = .ok (.iload_n 1, 1) := by decide +kernel
theorem dX10_tend_1 : decode cX10_tend 1 = .ok (.invokestatic 23, 3) := by decide +kernel
theorem dX10_tend_4 : decode cX10_tend 4 = .ok (.ifCond .ne 7, 3) := by decide +kernel
theorem dX10_tend_7 : decode cX10_tend 7 = .ok (.ldc2_w 94, 3) := by decide +kernel
theorem dX10_tend_10 : decode cX10_tend 10 = .ok (.lreturn, 1) := by decide +kernel
theorem dX10_tend_11 : decode cX10_tend 11 = .ok (.aload_n 0, 1) := by decide +kernel
theorem dX10_tend_12 : decode cX10_tend 12 = .ok (.getfield 11, 3) := by decide +kernel
theorem dX10_tend_15 : decode cX10_tend 15 = .ok (.iload_n 1, 1) := by decide +kernel
theorem dX10_tend_16 : decode cX10_tend 16 = .ok (.aaload, 1) := by decide +kernel
theorem dX10_tend_17 : decode cX10_tend 17 = .ok (.invokestatic 54, 3) := by decide +kernel
theorem dX10_tend_20 : decode cX10_tend 20 = .ok (.astore 4, 2) := by decide +kernel
theorem dX10_tend_22 : decode cX10_tend 22 = .ok (.aload 4, 2) := by decide +kernel
theorem dX10_tend_24 : decode cX10_tend 24 = .ok (.ifnull 11, 3) := by decide +kernel
theorem dX10_tend_27 : decode cX10_tend 27 = .ok (.aload 4, 2) := by decide +kernel
theorem dX10_tend_29 : decode cX10_tend 29 = .ok (.getfield 124, 3) := by decide +kernel
theorem dX10_tend_32 : decode cX10_tend 32 = .ok (.ifnonnull 17, 3) := by decide +kernel
theorem dX10_tend_35 : decode cX10_tend 35 = .ok (.aload_n 0, 1) := by decide +kernel
theorem dX10_tend_36 : decode cX10_tend 36 = .ok (.aload_n 0, 1) := by decide +kernel
theorem dX10_tend_37 : decode cX10_tend 37 = .ok (.getfield 11, 3) := by decide +kernel
theorem dX10_tend_40 : decode cX10_tend 40 = .ok (.iload_n 1, 1) := by decide +kernel
theorem dX10_tend_41 : decode cX10_tend 41 = .ok (.aaload, 1) := by decide +kernel
theorem dX10_tend_42 : decode cX10_tend 42 = .ok (.invokestatic 66, 3) := by decide +kernel
theorem dX10_tend_45 : decode cX10_tend 45 = .ok (.invokevirtual 96, 3) := by decide +kernel
theorem dX10_tend_48 : decode cX10_tend 48 = .ok (.lreturn, 1) := by decide +kernel
theorem dX10_tend_49 : decode cX10_tend 49 = .ok (.aload 4, 2) := by decide +kernel
theorem dX10_tend_51 : decode cX10_tend 51 = .ok (.getfield 124, 3) := by decide +kernel
theorem dX10_tend_54 : decode cX10_tend 54 = .ok (.astore 5, 2) := by decide +kernel
theorem dX10_tend_56 : decode cX10_tend 56 = .ok (.aload 5, 2) := by decide +kernel
theorem dX10_tend_58 : decode cX10_tend 58 = .ok (.aload 4, 2) := by decide +kernel
theorem dX10_tend_60 : decode cX10_tend 60 = .ok (.getfield 62, 3) := by decide +kernel
theorem dX10_tend_63 : decode cX10_tend 63 = .ok (.invokevirtual 128, 3) := by decide +kernel
theorem dX10_tend_66 : decode cX10_tend 66 = .ok (.ifCond .ne 9, 3) := by decide +kernel
theorem dX10_tend_69 : decode cX10_tend 69 = .ok (.aload_n 0, 1) := by decide +kernel
theorem dX10_tend_70 : decode cX10_tend 70 = .ok (.iconst 1, 1) := by decide +kernel
theorem dX10_tend_71 : decode cX10_tend 71 = .ok (.invokevirtual 96, 3) := by decide +kernel
theorem dX10_tend_74 : decode cX10_tend 74 = .ok (.lreturn, 1) := by decide +kernel
theorem dX10_tend_75 : decode cX10_tend 75 = .ok (.aload 5, 2) := by decide +kernel
theorem dX10_tend_77 : decode cX10_tend 77 = .ok (.aload 4, 2) := by decide +kernel
theorem dX10_tend_79 : decode cX10_tend 79 = .ok (.getfield 62, 3) := by decide +kernel
theorem dX10_tend_82 : decode cX10_tend 82 = .ok (.iload_n 2, 1) := by decide +kernel
theorem dX10_tend_83 : decode cX10_tend 83 = .ok (.invokevirtual 134, 3) := by decide +kernel
theorem dX10_tend_86 : decode cX10_tend 86 = .ok (.istore 6, 2) := by decide +kernel
theorem dX10_tend_88 : decode cX10_tend 88 = .ok (.iload_n 3, 1) := by decide +kernel
theorem dX10_tend_89 : decode cX10_tend 89 = .ok (.ifCond .eq 17, 3) := by decide +kernel
theorem dX10_tend_92 : decode cX10_tend 92 = .ok (.aload 5, 2) := by decide +kernel
theorem dX10_tend_94 : decode cX10_tend 94 = .ok (.aload 4, 2) := by decide +kernel
theorem dX10_tend_96 : decode cX10_tend 96 = .ok (.getfield 62, 3) := by decide +kernel
theorem dX10_tend_99 : decode cX10_tend 99 = .ok (.iload 6, 2) := by decide +kernel
theorem dX10_tend_101 : decode cX10_tend 101 = .ok (.invokevirtual 134, 3) := by decide +kernel
theorem dX10_tend_104 : decode cX10_tend 104 = .ok (.istore 6, 2) := by decide +kernel
theorem dX10_tend_106 : decode cX10_tend 106 = .ok (.iload 6, 2) := by decide +kernel
theorem dX10_tend_108 : decode cX10_tend 108 = .ok (.i2l, 1) := by decide +kernel
theorem dX10_tend_109 : decode cX10_tend 109 = .ok (.lreturn, 1) := by decide +kernel
theorem dX10_cell_0 : decode cX10_cell 0 = .ok (.iload_n 1, 1) := by decide +kernel
theorem dX10_cell_1 : decode cX10_cell 1 = .ok (.invokestatic 23, 3) := by decide +kernel
theorem dX10_cell_4 : decode cX10_cell 4 = .ok (.ifCond .ne 7, 3) := by decide +kernel
theorem dX10_cell_7 : decode cX10_cell 7 = .ok (.ldc2_w 94, 3) := by decide +kernel
theorem dX10_cell_10 : decode cX10_cell 10 = .ok (.lreturn, 1) := by decide +kernel
theorem dX10_cell_11 : decode cX10_cell 11 = .ok (.aload_n 0, 1) := by decide +kernel
theorem dX10_cell_12 : decode cX10_cell 12 = .ok (.getfield 11, 3) := by decide +kernel
theorem dX10_cell_15 : decode cX10_cell 15 = .ok (.iload_n 1, 1) := by decide +kernel
theorem dX10_cell_16 : decode cX10_cell 16 = .ok (.aaload, 1) := by decide +kernel
theorem dX10_cell_17 : decode cX10_cell 17 = .ok (.invokestatic 54, 3) := by decide +kernel
theorem dX10_cell_20 : decode cX10_cell 20 = .ok (.astore 5, 2) := by decide +kernel
theorem dX10_cell_22 : decode cX10_cell 22 = .ok (.aload 5, 2) := by decide +kernel
theorem dX10_cell_24 : decode cX10_cell 24 = .ok (.ifnull 11, 3) := by decide +kernel
theorem dX10_cell_27 : decode cX10_cell 27 = .ok (.aload 5, 2) := by decide +kernel
theorem dX10_cell_29 : decode cX10_cell 29 = .ok (.getfield 74, 3) := by decide +kernel
theorem dX10_cell_32 : decode cX10_cell 32 = .ok (.ifnonnull 17, 3) := by decide +kernel
theorem dX10_cell_35 : decode cX10_cell 35 = .ok (.aload_n 0, 1) := by decide +kernel
theorem dX10_cell_36 : decode cX10_cell 36 = .ok (.aload_n 0, 1) := by decide +kernel
theorem dX10_cell_37 : decode cX10_cell 37 = .ok (.getfield 11, 3) := by decide +kernel
theorem dX10_cell_40 : decode cX10_cell 40 = .ok (.iload_n 1, 1) := by decide +kernel
theorem dX10_cell_41 : decode cX10_cell 41 = .ok (.aaload, 1) := by decide +kernel
theorem dX10_cell_42 : decode cX10_cell 42 = .ok (.invokestatic 66, 3) := by decide +kernel
theorem dX10_cell_45 : decode cX10_cell 45 = .ok (.invokevirtual 96, 3) := by decide +kernel
theorem dX10_cell_48 : decode cX10_cell 48 = .ok (.lreturn, 1) := by decide +kernel
theorem dX10_cell_49 : decode cX10_cell 49 = .ok (.aload 5, 2) := by decide +kernel
theorem dX10_cell_51 : decode cX10_cell 51 = .ok (.getfield 74, 3) := by decide +kernel
theorem dX10_cell_54 : decode cX10_cell 54 = .ok (.astore 6, 2) := by decide +kernel
theorem dX10_cell_56 : decode cX10_cell 56 = .ok (.iload_n 2, 1) := by decide +kernel
theorem dX10_cell_57 : decode cX10_cell 57 = .ok (.aload 6, 2) := by decide +kernel
theorem dX10_cell_59 : decode cX10_cell 59 = .ok (.getfield 138, 3) := by decide +kernel
theorem dX10_cell_62 : decode cX10_cell 62 = .ok (.invokestatic 82, 3) := by decide +kernel
theorem dX10_cell_65 : decode cX10_cell 65 = .ok (.ifCond .eq 15, 3) := by decide +kernel
theorem dX10_cell_68 : decode cX10_cell 68 = .ok (.iload_n 3, 1) := by decide +kernel
theorem dX10_cell_69 : decode cX10_cell 69 = .ok (.aload 6, 2) := by decide +kernel
theorem dX10_cell_71 : decode cX10_cell 71 = .ok (.getfield 141, 3) := by decide +kernel
theorem dX10_cell_74 : decode cX10_cell 74 = .ok (.invokestatic 82, 3) := by decide +kernel
theorem dX10_cell_77 : decode cX10_cell 77 = .ok (.ifCond .ne 9, 3) := by decide +kernel
theorem dX10_cell_80 : decode cX10_cell 80 = .ok (.aload_n 0, 1) := by decide +kernel
theorem dX10_cell_81 : decode cX10_cell 81 = .ok (.iconst 3, 1) := by decide +kernel
theorem dX10_cell_82 : decode cX10_cell 82 = .ok (.invokevirtual 96, 3) := by decide +kernel
theorem dX10_cell_85 : decode cX10_cell 85 = .ok (.lreturn, 1) := by decide +kernel
theorem dX10_cell_86 : decode cX10_cell 86 = .ok (.aload 6, 2) := by decide +kernel
theorem dX10_cell_88 : decode cX10_cell 88 = .ok (.iload_n 2, 1) := by decide +kernel
theorem dX10_cell_89 : decode cX10_cell 89 = .ok (.iload_n 3, 1) := by decide +kernel
theorem dX10_cell_90 : decode cX10_cell 90 = .ok (.iload 4, 2) := by decide +kernel
theorem dX10_cell_92 : decode cX10_cell 92 = .ok (.invokevirtual 144, 3) := by decide +kernel
theorem dX10_cell_95 : decode cX10_cell 95 = .ok (.i2l, 1) := by decide +kernel
theorem dX10_cell_96 : decode cX10_cell 96 = .ok (.lreturn, 1) := by decide +kernel
theorem dX10_harvest_0 : decode cX10_harvest 0 = .ok (.iload_n 1, 1) := by decide +kernel
theorem dX10_harvest_1 : decode cX10_harvest 1 = .ok (.invokestatic 23, 3) := by decide +kernel
theorem dX10_harvest_4 : decode cX10_harvest 4 = .ok (.ifCond .eq 8, 3) := by decide +kernel
theorem dX10_harvest_7 : decode cX10_harvest 7 = .ok (.iload_n 2, 1) := by decide +kernel
theorem dX10_harvest_8 : decode cX10_harvest 8 = .ok (.iconst 1, 1) := by decide +kernel
theorem dX10_harvest_9 : decode cX10_harvest 9 = .ok (.if_icmp .ge 7, 3) := by decide +kernel
theorem dX10_harvest_12 : decode cX10_harvest 12 = .ok (.ldc2_w 94, 3) := by decide +kernel
theorem dX10_harvest_15 : decode cX10_harvest 15 = .ok (.lreturn, 1) := by decide +kernel
theorem dX10_harvest_16 : decode cX10_harvest 16 = .ok (.aload_n 0, 1) := by decide +kernel
theorem dX10_harvest_17 : decode cX10_harvest 17 = .ok (.getfield 11, 3) := by decide +kernel
theorem dX10_harvest_20 : decode cX10_harvest 20 = .ok (.iload_n 1, 1) := by decide +kernel
theorem dX10_harvest_21 : decode cX10_harvest 21 = .ok (.aaload, 1) := by decide +kernel
theorem dX10_harvest_22 : decode cX10_harvest 22 = .ok (.invokestatic 54, 3) := by decide +kernel
theorem dX10_harvest_25 : decode cX10_harvest 25 = .ok (.invokestatic 90, 3) := by decide +kernel
theorem dX10_harvest_28 : decode cX10_harvest 28 = .ok (.astore_n 3, 1) := by decide +kernel
theorem dX10_harvest_29 : decode cX10_harvest 29 = .ok (.aload_n 3, 1) := by decide +kernel
theorem dX10_harvest_30 : decode cX10_harvest 30 = .ok (.ifnonnull 17, 3) := by decide +kernel
theorem dX10_harvest_33 : decode cX10_harvest 33 = .ok (.aload_n 0, 1) := by decide +kernel
theorem dX10_harvest_34 : decode cX10_harvest 34 = .ok (.aload_n 0, 1) := by decide +kernel
theorem dX10_harvest_35 : decode cX10_harvest 35 = .ok (.getfield 11, 3) := by decide +kernel
theorem dX10_harvest_38 : decode cX10_harvest 38 = .ok (.iload_n 1, 1) := by decide +kernel
theorem dX10_harvest_39 : decode cX10_harvest 39 = .ok (.aaload, 1) := by decide +kernel
theorem dX10_harvest_40 : decode cX10_harvest 40 = .ok (.invokestatic 66, 3) := by decide +kernel
theorem dX10_harvest_43 : decode cX10_harvest 43 = .ok (.invokevirtual 96, 3) := by decide +kernel
theorem dX10_harvest_46 : decode cX10_harvest 46 = .ok (.lreturn, 1) := by decide +kernel
theorem dX10_harvest_47 : decode cX10_harvest 47 = .ok (.iconst 0, 1) := by decide +kernel
theorem dX10_harvest_48 : decode cX10_harvest 48 = .ok (.istore 4, 2) := by decide +kernel
theorem dX10_harvest_50 : decode cX10_harvest 50 = .ok (.iconst 0, 1) := by decide +kernel
theorem dX10_harvest_51 : decode cX10_harvest 51 = .ok (.istore 5, 2) := by decide +kernel
theorem dX10_harvest_53 : decode cX10_harvest 53 = .ok (.iload 5, 2) := by decide +kernel
theorem dX10_harvest_55 : decode cX10_harvest 55 = .ok (.aload_n 3, 1) := by decide +kernel
theorem dX10_harvest_56 : decode cX10_harvest 56 = .ok (.arraylength, 1) := by decide +kernel
theorem dX10_harvest_57 : decode cX10_harvest 57 = .ok (.if_icmp .ge 46, 3) := by decide +kernel
theorem dX10_harvest_60 : decode cX10_harvest 60 = .ok (.aload_n 3, 1) := by decide +kernel
theorem dX10_harvest_61 : decode cX10_harvest 61 = .ok (.iload 5, 2) := by decide +kernel
theorem dX10_harvest_63 : decode cX10_harvest 63 = .ok (.aaload, 1) := by decide +kernel
theorem dX10_harvest_64 : decode cX10_harvest 64 = .ok (.astore 6, 2) := by decide +kernel
theorem dX10_harvest_66 : decode cX10_harvest 66 = .ok (.aload 6, 2) := by decide +kernel
theorem dX10_harvest_68 : decode cX10_harvest 68 = .ok (.ifnull 29, 3) := by decide +kernel
theorem dX10_harvest_71 : decode cX10_harvest 71 = .ok (.aload 6, 2) := by decide +kernel
theorem dX10_harvest_73 : decode cX10_harvest 73 = .ok (.getfield 100, 3) := by decide +kernel
theorem dX10_harvest_76 : decode cX10_harvest 76 = .ok (.iload_n 2, 1) := by decide +kernel
theorem dX10_harvest_77 : decode cX10_harvest 77 = .ok (.if_icmp .lt 20, 3) := by decide +kernel
theorem dX10_harvest_80 : decode cX10_harvest 80 = .ok (.aload 6, 2) := by decide +kernel
theorem dX10_harvest_82 : decode cX10_harvest 82 = .ok (.dup, 1) := by decide +kernel
theorem dX10_harvest_83 : decode cX10_harvest 83 = .ok (.getfield 100, 3) := by decide +kernel
theorem dX10_harvest_86 : decode cX10_harvest 86 = .ok (.iload_n 2, 1) := by decide +kernel
theorem dX10_harvest_87 : decode cX10_harvest 87 = .ok (.isub, 1) := by decide +kernel
theorem dX10_harvest_88 : decode cX10_harvest 88 = .ok (.putfield 100, 3) := by decide +kernel
theorem dX10_harvest_91 : decode cX10_harvest 91 = .ok (.iload 4, 2) := by decide +kernel
theorem dX10_harvest_93 : decode cX10_harvest 93 = .ok (.iload_n 2, 1) := by decide +kernel
theorem dX10_harvest_94 : decode cX10_harvest 94 = .ok (.iadd, 1) := by decide +kernel
theorem dX10_harvest_95 : decode cX10_harvest 95 = .ok (.istore 4, 2) := by decide +kernel
theorem dX10_harvest_97 : decode cX10_harvest 97 = .ok (.iinc 5 1, 3) := by decide +kernel
theorem dX10_harvest_100 : decode cX10_harvest 100 = .ok (.goto (-47), 3) := by decide +kernel
theorem dX10_harvest_103 : decode cX10_harvest 103 = .ok (.iload 4, 2) := by decide +kernel
theorem dX10_harvest_105 : decode cX10_harvest 105 = .ok (.i2l, 1) := by decide +kernel
theorem dX10_harvest_106 : decode cX10_harvest 106 = .ok (.lreturn, 1) := by decide +kernel
theorem dX10_sound_0 : decode cX10_sound 0 = .ok (.iload_n 1, 1) := by decide +kernel
theorem dX10_sound_1 : decode cX10_sound 1 = .ok (.invokestatic 23, 3) := by decide +kernel
theorem dX10_sound_4 : decode cX10_sound 4 = .ok (.ifCond .ne 5, 3) := by decide +kernel
theorem dX10_sound_7 : decode cX10_sound 7 = .ok (.iconst (-1), 1) := by decide +kernel
theorem dX10_sound_8 : decode cX10_sound 8 = .ok (.ireturn, 1) := by decide +kernel
theorem dX10_sound_9 : decode cX10_sound 9 = .ok (.aload_n 0, 1) := by decide +kernel
theorem dX10_sound_10 : decode cX10_sound 10 = .ok (.getfield 11, 3) := by decide +kernel
theorem dX10_sound_13 : decode cX10_sound 13 = .ok (.iload_n 1, 1) := by decide +kernel
theorem dX10_sound_14 : decode cX10_sound 14 = .ok (.aaload, 1) := by decide +kernel
theorem dX10_sound_15 : decode cX10_sound 15 = .ok (.invokestatic 54, 3) := by decide +kernel
theorem dX10_sound_18 : decode cX10_sound 18 = .ok (.astore_n 2, 1) := by decide +kernel
theorem dX10_sound_19 : decode cX10_sound 19 = .ok (.aload_n 2, 1) := by decide +kernel
theorem dX10_sound_20 : decode cX10_sound 20 = .ok (.ifnull 10, 3) := by decide +kernel
theorem dX10_sound_23 : decode cX10_sound 23 = .ok (.aload_n 2, 1) := by decide +kernel
theorem dX10_sound_24 : decode cX10_sound 24 = .ok (.getfield 148, 3) := by decide +kernel
theorem dX10_sound_27 : decode cX10_sound 27 = .ok (.ifnonnull 17, 3) := by decide +kernel
theorem dX10_sound_30 : decode cX10_sound 30 = .ok (.aload_n 0, 1) := by decide +kernel
theorem dX10_sound_31 : decode cX10_sound 31 = .ok (.aload_n 0, 1) := by decide +kernel
theorem dX10_sound_32 : decode cX10_sound 32 = .ok (.getfield 11, 3) := by decide +kernel
theorem dX10_sound_35 : decode cX10_sound 35 = .ok (.iload_n 1, 1) := by decide +kernel
theorem dX10_sound_36 : decode cX10_sound 36 = .ok (.aaload, 1) := by decide +kernel
theorem dX10_sound_37 : decode cX10_sound 37 = .ok (.invokestatic 66, 3) := by decide +kernel
theorem dX10_sound_40 : decode cX10_sound 40 = .ok (.invokevirtual 31, 3) := by decide +kernel
theorem dX10_sound_43 : decode cX10_sound 43 = .ok (.ireturn, 1) := by decide +kernel
theorem dX10_sound_44 : decode cX10_sound 44 = .ok (.aload_n 0, 1) := by decide +kernel
theorem dX10_sound_45 : decode cX10_sound 45 = .ok (.aload_n 2, 1) := by decide +kernel
theorem dX10_sound_46 : decode cX10_sound 46 = .ok (.getfield 148, 3) := by decide +kernel
theorem dX10_sound_49 : decode cX10_sound 49 = .ok (.getfield 152, 3) := by decide +kernel
theorem dX10_sound_52 : decode cX10_sound 52 = .ok (.putfield 19, 3) := by decide +kernel
theorem dX10_sound_55 : decode cX10_sound 55 = .ok (.aload_n 0, 1) := by decide +kernel
theorem dX10_sound_56 : decode cX10_sound 56 = .ok (.bipush 6, 2) := by decide +kernel
theorem dX10_sound_58 : decode cX10_sound 58 = .ok (.invokevirtual 31, 3) := by decide +kernel
theorem dX10_sound_61 : decode cX10_sound 61 = .ok (.ireturn, 1) := by decide +kernel
theorem dX10_sort_0 : decode cX10_sort 0 = .ok (.iload_n 1, 1) := by decide +kernel
theorem dX10_sort_1 : decode cX10_sort 1 = .ok (.invokestatic 23, 3) := by decide +kernel
theorem dX10_sort_4 : decode cX10_sort 4 = .ok (.ifCond .ne 5, 3) := by decide +kernel
theorem dX10_sort_7 : decode cX10_sort 7 = .ok (.iconst (-1), 1) := by decide +kernel
theorem dX10_sort_8 : decode cX10_sort 8 = .ok (.ireturn, 1) := by decide +kernel
theorem dX10_sort_9 : decode cX10_sort 9 = .ok (.aload_n 0, 1) := by decide +kernel
theorem dX10_sort_10 : decode cX10_sort 10 = .ok (.getfield 11, 3) := by decide +kernel
theorem dX10_sort_13 : decode cX10_sort 13 = .ok (.iload_n 1, 1) := by decide +kernel
theorem dX10_sort_14 : decode cX10_sort 14 = .ok (.aaload, 1) := by decide +kernel
theorem dX10_sort_15 : decode cX10_sort 15 = .ok (.astore_n 2, 1) := by decide +kernel
theorem dX10_sort_16 : decode cX10_sort 16 = .ok (.aload_n 2, 1) := by decide +kernel
theorem dX10_sort_17 : decode cX10_sort 17 = .ok (.ifnonnull 8, 3) := by decide +kernel
theorem dX10_sort_20 : decode cX10_sort 20 = .ok (.bipush (-2), 2) := by decide +kernel
theorem dX10_sort_22 : decode cX10_sort 22 = .ok (.goto 7, 3) := by decide +kernel
theorem dX10_sort_25 : decode cX10_sort 25 = .ok (.aload_n 2, 1) := by decide +kernel
theorem dX10_sort_26 : decode cX10_sort 26 = .ok (.getfield 157, 3) := by decide +kernel
theorem dX10_sort_29 : decode cX10_sort 29 = .ok (.ireturn, 1) := by decide +kernel
theorem dX10_told_0 : decode cX10_told 0 = .ok (.iload_n 1, 1) := by decide +kernel
theorem dX10_told_1 : decode cX10_told 1 = .ok (.invokestatic 23, 3) := by decide +kernel
theorem dX10_told_4 : decode cX10_told 4 = .ok (.ifCond .eq 13, 3) := by decide +kernel
theorem dX10_told_7 : decode cX10_told 7 = .ok (.iload_n 2, 1) := by decide +kernel
theorem dX10_told_8 : decode cX10_told 8 = .ok (.ifCond .lt 9, 3) := by decide +kernel
theorem dX10_told_11 : decode cX10_told 11 = .ok (.iload_n 2, 1) := by decide +kernel
theorem dX10_told_12 : decode cX10_told 12 = .ok (.bipush 7, 2) := by decide +kernel
theorem dX10_told_14 : decode cX10_told 14 = .ok (.if_icmp .le 7, 3) := by decide +kernel
theorem dX10_told_17 : decode cX10_told 17 = .ok (.ldc2_w 94, 3) := by decide +kernel
theorem dX10_told_20 : decode cX10_told 20 = .ok (.lreturn, 1) := by decide +kernel
theorem dX10_told_21 : decode cX10_told 21 = .ok (.aload_n 0, 1) := by decide +kernel
theorem dX10_told_22 : decode cX10_told 22 = .ok (.getfield 11, 3) := by decide +kernel
theorem dX10_told_25 : decode cX10_told 25 = .ok (.iload_n 1, 1) := by decide +kernel
theorem dX10_told_26 : decode cX10_told 26 = .ok (.aaload, 1) := by decide +kernel
theorem dX10_told_27 : decode cX10_told 27 = .ok (.astore_n 3, 1) := by decide +kernel
theorem dX10_told_28 : decode cX10_told 28 = .ok (.aload_n 3, 1) := by decide +kernel
theorem dX10_told_29 : decode cX10_told 29 = .ok (.ifnonnull 9, 3) := by decide +kernel
theorem dX10_told_32 : decode cX10_told 32 = .ok (.aload_n 0, 1) := by decide +kernel
theorem dX10_told_33 : decode cX10_told 33 = .ok (.iconst 1, 1) := by decide +kernel
theorem dX10_told_34 : decode cX10_told 34 = .ok (.invokevirtual 96, 3) := by decide +kernel
theorem dX10_told_37 : decode cX10_told 37 = .ok (.lreturn, 1) := by decide +kernel
theorem dX10_told_38 : decode cX10_told 38 = .ok (.iload_n 2, 1) := by decide +kernel
theorem dX10_told_39 : decode cX10_told 39 = .ok (.tableswitch 205 0 5 #[37, 65, 93, 121, 149, 177], 37) := by decide +kernel
theorem dX10_told_76 : decode cX10_told 76 = .ok (.aload_n 3, 1) := by decide +kernel
theorem dX10_told_77 : decode cX10_told 77 = .ok (.instanceof 37, 3) := by decide +kernel
theorem dX10_told_80 : decode cX10_told 80 = .ok (.ifCond .eq 18, 3) := by decide +kernel
theorem dX10_told_83 : decode cX10_told 83 = .ok (.aload_n 3, 1) := by decide +kernel
theorem dX10_told_84 : decode cX10_told 84 = .ok (.checkcast 37, 3) := by decide +kernel
theorem dX10_told_87 : decode cX10_told 87 = .ok (.astore 4, 2) := by decide +kernel
theorem dX10_told_89 : decode cX10_told 89 = .ok (.aload 4, 2) := by decide +kernel
theorem dX10_told_91 : decode cX10_told 91 = .ok (.getfield 100, 3) := by decide +kernel
theorem dX10_told_94 : decode cX10_told 94 = .ok (.i2l, 1) := by decide +kernel
theorem dX10_told_95 : decode cX10_told 95 = .ok (.goto 8, 3) := by decide +kernel
theorem dX10_told_98 : decode cX10_told 98 = .ok (.aload_n 0, 1) := by decide +kernel
theorem dX10_told_99 : decode cX10_told 99 = .ok (.iconst 5, 1) := by decide +kernel
theorem dX10_told_100 : decode cX10_told 100 = .ok (.invokevirtual 96, 3) := by decide +kernel
theorem dX10_told_103 : decode cX10_told 103 = .ok (.lreturn, 1) := by decide +kernel
theorem dX10_told_104 : decode cX10_told 104 = .ok (.aload_n 3, 1) := by decide +kernel
theorem dX10_told_105 : decode cX10_told 105 = .ok (.instanceof 112, 3) := by decide +kernel
theorem dX10_told_108 : decode cX10_told 108 = .ok (.ifCond .eq 18, 3) := by decide +kernel
theorem dX10_told_111 : decode cX10_told 111 = .ok (.aload_n 3, 1) := by decide +kernel
theorem dX10_told_112 : decode cX10_told 112 = .ok (.checkcast 112, 3) := by decide +kernel
theorem dX10_told_115 : decode cX10_told 115 = .ok (.astore 4, 2) := by decide +kernel
theorem dX10_told_117 : decode cX10_told 117 = .ok (.aload 4, 2) := by decide +kernel
theorem dX10_told_119 : decode cX10_told 119 = .ok (.getfield 111, 3) := by decide +kernel
theorem dX10_told_122 : decode cX10_told 122 = .ok (.i2l, 1) := by decide +kernel
theorem dX10_told_123 : decode cX10_told 123 = .ok (.goto 8, 3) := by decide +kernel
theorem dX10_told_126 : decode cX10_told 126 = .ok (.aload_n 0, 1) := by decide +kernel
theorem dX10_told_127 : decode cX10_told 127 = .ok (.iconst 5, 1) := by decide +kernel
theorem dX10_told_128 : decode cX10_told 128 = .ok (.invokevirtual 96, 3) := by decide +kernel
theorem dX10_told_131 : decode cX10_told 131 = .ok (.lreturn, 1) := by decide +kernel
theorem dX10_told_132 : decode cX10_told 132 = .ok (.aload_n 3, 1) := by decide +kernel
theorem dX10_told_133 : decode cX10_told 133 = .ok (.instanceof 117, 3) := by decide +kernel
theorem dX10_told_136 : decode cX10_told 136 = .ok (.ifCond .eq 18, 3) := by decide +kernel
theorem dX10_told_139 : decode cX10_told 139 = .ok (.aload_n 3, 1) := by decide +kernel
theorem dX10_told_140 : decode cX10_told 140 = .ok (.checkcast 117, 3) := by decide +kernel
theorem dX10_told_143 : decode cX10_told 143 = .ok (.astore 4, 2) := by decide +kernel
theorem dX10_told_145 : decode cX10_told 145 = .ok (.aload 4, 2) := by decide +kernel
theorem dX10_told_147 : decode cX10_told 147 = .ok (.getfield 116, 3) := by decide +kernel
theorem dX10_told_150 : decode cX10_told 150 = .ok (.i2l, 1) := by decide +kernel
theorem dX10_told_151 : decode cX10_told 151 = .ok (.goto 8, 3) := by decide +kernel
theorem dX10_told_154 : decode cX10_told 154 = .ok (.aload_n 0, 1) := by decide +kernel
theorem dX10_told_155 : decode cX10_told 155 = .ok (.iconst 5, 1) := by decide +kernel
theorem dX10_told_156 : decode cX10_told 156 = .ok (.invokevirtual 96, 3) := by decide +kernel
theorem dX10_told_159 : decode cX10_told 159 = .ok (.lreturn, 1) := by decide +kernel
theorem dX10_told_160 : decode cX10_told 160 = .ok (.aload_n 3, 1) := by decide +kernel
theorem dX10_told_161 : decode cX10_told 161 = .ok (.instanceof 117, 3) := by decide +kernel
theorem dX10_told_164 : decode cX10_told 164 = .ok (.ifCond .eq 18, 3) := by decide +kernel
theorem dX10_told_167 : decode cX10_told 167 = .ok (.aload_n 3, 1) := by decide +kernel
theorem dX10_told_168 : decode cX10_told 168 = .ok (.checkcast 117, 3) := by decide +kernel
theorem dX10_told_171 : decode cX10_told 171 = .ok (.astore 4, 2) := by decide +kernel
theorem dX10_told_173 : decode cX10_told 173 = .ok (.aload 4, 2) := by decide +kernel
theorem dX10_told_175 : decode cX10_told 175 = .ok (.getfield 121, 3) := by decide +kernel
theorem dX10_told_178 : decode cX10_told 178 = .ok (.i2l, 1) := by decide +kernel
theorem dX10_told_179 : decode cX10_told 179 = .ok (.goto 8, 3) := by decide +kernel
theorem dX10_told_182 : decode cX10_told 182 = .ok (.aload_n 0, 1) := by decide +kernel
theorem dX10_told_183 : decode cX10_told 183 = .ok (.iconst 5, 1) := by decide +kernel
theorem dX10_told_184 : decode cX10_told 184 = .ok (.invokevirtual 96, 3) := by decide +kernel
theorem dX10_told_187 : decode cX10_told 187 = .ok (.lreturn, 1) := by decide +kernel
theorem dX10_told_188 : decode cX10_told 188 = .ok (.aload_n 3, 1) := by decide +kernel
theorem dX10_told_189 : decode cX10_told 189 = .ok (.instanceof 129, 3) := by decide +kernel
theorem dX10_told_192 : decode cX10_told 192 = .ok (.ifCond .eq 18, 3) := by decide +kernel
theorem dX10_told_195 : decode cX10_told 195 = .ok (.aload_n 3, 1) := by decide +kernel
theorem dX10_told_196 : decode cX10_told 196 = .ok (.checkcast 129, 3) := by decide +kernel
theorem dX10_told_199 : decode cX10_told 199 = .ok (.astore 4, 2) := by decide +kernel
theorem dX10_told_201 : decode cX10_told 201 = .ok (.aload 4, 2) := by decide +kernel
theorem dX10_told_203 : decode cX10_told 203 = .ok (.getfield 160, 3) := by decide +kernel
theorem dX10_told_206 : decode cX10_told 206 = .ok (.i2l, 1) := by decide +kernel
theorem dX10_told_207 : decode cX10_told 207 = .ok (.goto 8, 3) := by decide +kernel
theorem dX10_told_210 : decode cX10_told 210 = .ok (.aload_n 0, 1) := by decide +kernel
theorem dX10_told_211 : decode cX10_told 211 = .ok (.iconst 5, 1) := by decide +kernel
theorem dX10_told_212 : decode cX10_told 212 = .ok (.invokevirtual 96, 3) := by decide +kernel
theorem dX10_told_215 : decode cX10_told 215 = .ok (.lreturn, 1) := by decide +kernel
theorem dX10_told_216 : decode cX10_told 216 = .ok (.aload_n 3, 1) := by decide +kernel
theorem dX10_told_217 : decode cX10_told 217 = .ok (.instanceof 153, 3) := by decide +kernel
theorem dX10_told_220 : decode cX10_told 220 = .ok (.ifCond .eq 18, 3) := by decide +kernel
theorem dX10_told_223 : decode cX10_told 223 = .ok (.aload_n 3, 1) := by decide +kernel
theorem dX10_told_224 : decode cX10_told 224 = .ok (.checkcast 153, 3) := by decide +kernel
theorem dX10_told_227 : decode cX10_told 227 = .ok (.astore 4, 2) := by decide +kernel
theorem dX10_told_229 : decode cX10_told 229 = .ok (.aload 4, 2) := by decide +kernel
theorem dX10_told_231 : decode cX10_told 231 = .ok (.getfield 152, 3) := by decide +kernel
theorem dX10_told_234 : decode cX10_told 234 = .ok (.i2l, 1) := by decide +kernel
theorem dX10_told_235 : decode cX10_told 235 = .ok (.goto 8, 3) := by decide +kernel
theorem dX10_told_238 : decode cX10_told 238 = .ok (.aload_n 0, 1) := by decide +kernel
theorem dX10_told_239 : decode cX10_told 239 = .ok (.iconst 5, 1) := by decide +kernel
theorem dX10_told_240 : decode cX10_told 240 = .ok (.invokevirtual 96, 3) := by decide +kernel
theorem dX10_told_243 : decode cX10_told 243 = .ok (.lreturn, 1) := by decide +kernel
theorem dX10_told_244 : decode cX10_told 244 = .ok (.aload_n 3, 1) := by decide +kernel
theorem dX10_told_245 : decode cX10_told 245 = .ok (.instanceof 35, 3) := by decide +kernel
theorem dX10_told_248 : decode cX10_told 248 = .ok (.ifCond .eq 19, 3) := by decide +kernel
theorem dX10_told_251 : decode cX10_told 251 = .ok (.aload_n 3, 1) := by decide +kernel
theorem dX10_told_252 : decode cX10_told 252 = .ok (.checkcast 35, 3) := by decide +kernel
theorem dX10_told_255 : decode cX10_told 255 = .ok (.astore 4, 2) := by decide +kernel
theorem dX10_told_257 : decode cX10_told 257 = .ok (.aload_n 0, 1) := by decide +kernel
theorem dX10_told_258 : decode cX10_told 258 = .ok (.aload 4, 2) := by decide +kernel
theorem dX10_told_260 : decode cX10_told 260 = .ok (.iload_n 2, 1) := by decide +kernel
theorem dX10_told_261 : decode cX10_told 261 = .ok (.invokevirtual 163, 3) := by decide +kernel
theorem dX10_told_264 : decode cX10_told 264 = .ok (.goto 8, 3) := by decide +kernel
theorem dX10_told_267 : decode cX10_told 267 = .ok (.aload_n 0, 1) := by decide +kernel
theorem dX10_told_268 : decode cX10_told 268 = .ok (.iconst 5, 1) := by decide +kernel
theorem dX10_told_269 : decode cX10_told 269 = .ok (.invokevirtual 96, 3) := by decide +kernel
theorem dX10_told_272 : decode cX10_told 272 = .ok (.lreturn, 1) := by decide +kernel
theorem dX10_same_0 : decode cX10_same 0 = .ok (.iload_n 1, 1) := by decide +kernel
theorem dX10_same_1 : decode cX10_same 1 = .ok (.invokestatic 23, 3) := by decide +kernel
theorem dX10_same_4 : decode cX10_same 4 = .ok (.ifCond .eq 10, 3) := by decide +kernel
theorem dX10_same_7 : decode cX10_same 7 = .ok (.iload_n 2, 1) := by decide +kernel
theorem dX10_same_8 : decode cX10_same 8 = .ok (.invokestatic 23, 3) := by decide +kernel
theorem dX10_same_11 : decode cX10_same 11 = .ok (.ifCond .ne 5, 3) := by decide +kernel
theorem dX10_same_14 : decode cX10_same 14 = .ok (.iconst (-1), 1) := by decide +kernel
theorem dX10_same_15 : decode cX10_same 15 = .ok (.ireturn, 1) := by decide +kernel
theorem dX10_same_16 : decode cX10_same 16 = .ok (.aload_n 0, 1) := by decide +kernel
theorem dX10_same_17 : decode cX10_same 17 = .ok (.getfield 11, 3) := by decide +kernel
theorem dX10_same_20 : decode cX10_same 20 = .ok (.iload_n 1, 1) := by decide +kernel
theorem dX10_same_21 : decode cX10_same 21 = .ok (.aaload, 1) := by decide +kernel
theorem dX10_same_22 : decode cX10_same 22 = .ok (.aload_n 0, 1) := by decide +kernel
theorem dX10_same_23 : decode cX10_same 23 = .ok (.getfield 11, 3) := by decide +kernel
theorem dX10_same_26 : decode cX10_same 26 = .ok (.iload_n 2, 1) := by decide +kernel
theorem dX10_same_27 : decode cX10_same 27 = .ok (.aaload, 1) := by decide +kernel
theorem dX10_same_28 : decode cX10_same 28 = .ok (.if_acmp .ne 7, 3) := by decide +kernel
theorem dX10_same_31 : decode cX10_same 31 = .ok (.iconst 1, 1) := by decide +kernel
theorem dX10_same_32 : decode cX10_same 32 = .ok (.goto 4, 3) := by decide +kernel
theorem dX10_same_35 : decode cX10_same 35 = .ok (.iconst 0, 1) := by decide +kernel
theorem dX10_same_36 : decode cX10_same 36 = .ok (.ireturn, 1) := by decide +kernel
theorem dX10_count_0 : decode cX10_count 0 = .ok (.iload_n 1, 1) := by decide +kernel
theorem dX10_count_1 : decode cX10_count 1 = .ok (.ifCond .lt 9, 3) := by decide +kernel
theorem dX10_count_4 : decode cX10_count 4 = .ok (.iload_n 1, 1) := by decide +kernel
theorem dX10_count_5 : decode cX10_count 5 = .ok (.bipush 7, 2) := by decide +kernel
theorem dX10_count_7 : decode cX10_count 7 = .ok (.if_icmp .le 5, 3) := by decide +kernel
theorem dX10_count_10 : decode cX10_count 10 = .ok (.iconst (-1), 1) := by decide +kernel
theorem dX10_count_11 : decode cX10_count 11 = .ok (.ireturn, 1) := by decide +kernel
theorem dX10_count_12 : decode cX10_count 12 = .ok (.iload_n 1, 1) := by decide +kernel
theorem dX10_count_13 : decode cX10_count 13 = .ok (.bipush 7, 2) := by decide +kernel
theorem dX10_count_15 : decode cX10_count 15 = .ok (.if_icmp .ne 10, 3) := by decide +kernel
theorem dX10_count_18 : decode cX10_count 18 = .ok (.aload_n 0, 1) := by decide +kernel
theorem dX10_count_19 : decode cX10_count 19 = .ok (.getfield 19, 3) := by decide +kernel
theorem dX10_count_22 : decode cX10_count 22 = .ok (.goto 9, 3) := by decide +kernel
theorem dX10_count_25 : decode cX10_count 25 = .ok (.aload_n 0, 1) := by decide +kernel
theorem dX10_count_26 : decode cX10_count 26 = .ok (.getfield 15, 3) := by decide +kernel
theorem dX10_count_29 : decode cX10_count 29 = .ok (.iload_n 1, 1) := by decide +kernel
theorem dX10_count_30 : decode cX10_count 30 = .ok (.iaload, 1) := by decide +kernel
theorem dX10_count_31 : decode cX10_count 31 = .ok (.ireturn, 1) := by decide +kernel
theorem dX10_lengthTold_0 : decode cX10_lengthTold 0 = .ok (.iload_n 2, 1) := by decide +kernel
theorem dX10_lengthTold_1 : decode cX10_lengthTold 1 = .ok (.bipush 6, 2) := by decide +kernel
theorem dX10_lengthTold_3 : decode cX10_lengthTold 3 = .ok (.if_icmp .ne 25, 3) := by decide +kernel
theorem dX10_lengthTold_6 : decode cX10_lengthTold 6 = .ok (.aload_n 1, 1) := by decide +kernel
theorem dX10_lengthTold_7 : decode cX10_lengthTold 7 = .ok (.getfield 62, 3) := by decide +kernel
theorem dX10_lengthTold_10 : decode cX10_lengthTold 10 = .ok (.ifnonnull 11, 3) := by decide +kernel
theorem dX10_lengthTold_13 : decode cX10_lengthTold 13 = .ok (.aload_n 0, 1) := by decide +kernel
theorem dX10_lengthTold_14 : decode cX10_lengthTold 14 = .ok (.iconst 1, 1) := by decide +kernel
theorem dX10_lengthTold_15 : decode cX10_lengthTold 15 = .ok (.invokevirtual 96, 3) := by decide +kernel
theorem dX10_lengthTold_18 : decode cX10_lengthTold 18 = .ok (.goto 9, 3) := by decide +kernel
theorem dX10_lengthTold_21 : decode cX10_lengthTold 21 = .ok (.aload_n 1, 1) := by decide +kernel
theorem dX10_lengthTold_22 : decode cX10_lengthTold 22 = .ok (.getfield 62, 3) := by decide +kernel
theorem dX10_lengthTold_25 : decode cX10_lengthTold 25 = .ok (.arraylength, 1) := by decide +kernel
theorem dX10_lengthTold_26 : decode cX10_lengthTold 26 = .ok (.i2l, 1) := by decide +kernel
theorem dX10_lengthTold_27 : decode cX10_lengthTold 27 = .ok (.lreturn, 1) := by decide +kernel
theorem dX10_lengthTold_28 : decode cX10_lengthTold 28 = .ok (.aload_n 1, 1) := by decide +kernel
theorem dX10_lengthTold_29 : decode cX10_lengthTold 29 = .ok (.getfield 74, 3) := by decide +kernel
theorem dX10_lengthTold_32 : decode cX10_lengthTold 32 = .ok (.ifnonnull 11, 3) := by decide +kernel
theorem dX10_lengthTold_35 : decode cX10_lengthTold 35 = .ok (.aload_n 0, 1) := by decide +kernel
theorem dX10_lengthTold_36 : decode cX10_lengthTold 36 = .ok (.iconst 1, 1) := by decide +kernel
theorem dX10_lengthTold_37 : decode cX10_lengthTold 37 = .ok (.invokevirtual 96, 3) := by decide +kernel
theorem dX10_lengthTold_40 : decode cX10_lengthTold 40 = .ok (.goto 11, 3) := by decide +kernel
theorem dX10_lengthTold_43 : decode cX10_lengthTold 43 = .ok (.aload_n 1, 1) := by decide +kernel
theorem dX10_lengthTold_44 : decode cX10_lengthTold 44 = .ok (.getfield 74, 3) := by decide +kernel
theorem dX10_lengthTold_47 : decode cX10_lengthTold 47 = .ok (.getfield 138, 3) := by decide +kernel
theorem dX10_lengthTold_50 : decode cX10_lengthTold 50 = .ok (.i2l, 1) := by decide +kernel
theorem dX10_lengthTold_51 : decode cX10_lengthTold 51 = .ok (.lreturn, 1) := by decide +kernel
theorem dX10_refuse_0 : decode cX10_refuse 0 = .ok (.aload_n 0, 1) := by decide +kernel
theorem dX10_refuse_1 : decode cX10_refuse 1 = .ok (.getfield 15, 3) := by decide +kernel
theorem dX10_refuse_4 : decode cX10_refuse 4 = .ok (.iconst 0, 1) := by decide +kernel
theorem dX10_refuse_5 : decode cX10_refuse 5 = .ok (.dup2, 1) := by decide +kernel
theorem dX10_refuse_6 : decode cX10_refuse 6 = .ok (.iaload, 1) := by decide +kernel
theorem dX10_refuse_7 : decode cX10_refuse 7 = .ok (.iconst 1, 1) := by decide +kernel
theorem dX10_refuse_8 : decode cX10_refuse 8 = .ok (.iadd, 1) := by decide +kernel
theorem dX10_refuse_9 : decode cX10_refuse 9 = .ok (.iastore, 1) := by decide +kernel
theorem dX10_refuse_10 : decode cX10_refuse 10 = .ok (.aload_n 0, 1) := by decide +kernel
theorem dX10_refuse_11 : decode cX10_refuse 11 = .ok (.getfield 15, 3) := by decide +kernel
theorem dX10_refuse_14 : decode cX10_refuse 14 = .ok (.iload_n 1, 1) := by decide +kernel
theorem dX10_refuse_15 : decode cX10_refuse 15 = .ok (.dup2, 1) := by decide +kernel
theorem dX10_refuse_16 : decode cX10_refuse 16 = .ok (.iaload, 1) := by decide +kernel
theorem dX10_refuse_17 : decode cX10_refuse 17 = .ok (.iconst 1, 1) := by decide +kernel
theorem dX10_refuse_18 : decode cX10_refuse 18 = .ok (.iadd, 1) := by decide +kernel
theorem dX10_refuse_19 : decode cX10_refuse 19 = .ok (.iastore, 1) := by decide +kernel
theorem dX10_refuse_20 : decode cX10_refuse 20 = .ok (.bipush (-10), 2) := by decide +kernel
theorem dX10_refuse_22 : decode cX10_refuse 22 = .ok (.iload_n 1, 1) := by decide +kernel
theorem dX10_refuse_23 : decode cX10_refuse 23 = .ok (.isub, 1) := by decide +kernel
theorem dX10_refuse_24 : decode cX10_refuse 24 = .ok (.ireturn, 1) := by decide +kernel
theorem dX10_refuseLong_0 : decode cX10_refuseLong 0 = .ok (.aload_n 0, 1) := by decide +kernel
theorem dX10_refuseLong_1 : decode cX10_refuseLong 1 = .ok (.iload_n 1, 1) := by decide +kernel
theorem dX10_refuseLong_2 : decode cX10_refuseLong 2 = .ok (.invokevirtual 31, 3) := by decide +kernel
theorem dX10_refuseLong_5 : decode cX10_refuseLong 5 = .ok (.pop, 1) := by decide +kernel
theorem dX10_refuseLong_6 : decode cX10_refuseLong 6 = .ok (.ldc2_w 167, 3) := by decide +kernel
theorem dX10_refuseLong_9 : decode cX10_refuseLong 9 = .ok (.iload_n 1, 1) := by decide +kernel
theorem dX10_refuseLong_10 : decode cX10_refuseLong 10 = .ok (.i2l, 1) := by decide +kernel
theorem dX10_refuseLong_11 : decode cX10_refuseLong 11 = .ok (.lsub, 1) := by decide +kernel
theorem dX10_refuseLong_12 : decode cX10_refuseLong 12 = .ok (.lreturn, 1) := by decide +kernel
theorem dX10_isShelf_0 : decode cX10_isShelf 0 = .ok (.iload_n 0, 1) := by decide +kernel
theorem dX10_isShelf_1 : decode cX10_isShelf 1 = .ok (.bipush 16, 2) := by decide +kernel
theorem dX10_isShelf_3 : decode cX10_isShelf 3 = .ok (.invokestatic 82, 3) := by decide +kernel
theorem dX10_isShelf_6 : decode cX10_isShelf 6 = .ok (.ireturn, 1) := by decide +kernel
theorem dX10_isIndex_0 : decode cX10_isIndex 0 = .ok (.iload_n 0, 1) := by decide +kernel
theorem dX10_isIndex_1 : decode cX10_isIndex 1 = .ok (.ifCond .lt 12, 3) := by decide +kernel
theorem dX10_isIndex_4 : decode cX10_isIndex 4 = .ok (.iload_n 0, 1) := by decide +kernel
theorem dX10_isIndex_5 : decode cX10_isIndex 5 = .ok (.iload_n 1, 1) := by decide +kernel
theorem dX10_isIndex_6 : decode cX10_isIndex 6 = .ok (.if_icmp .ge 7, 3) := by decide +kernel
theorem dX10_isIndex_9 : decode cX10_isIndex 9 = .ok (.iconst 1, 1) := by decide +kernel
theorem dX10_isIndex_10 : decode cX10_isIndex 10 = .ok (.goto 4, 3) := by decide +kernel
theorem dX10_isIndex_13 : decode cX10_isIndex 13 = .ok (.iconst 0, 1) := by decide +kernel
theorem dX10_isIndex_14 : decode cX10_isIndex 14 = .ok (.ireturn, 1) := by decide +kernel
theorem dX10_oneIfThing_0 : decode cX10_oneIfThing 0 = .ok (.aload_n 0, 1) := by decide +kernel
theorem dX10_oneIfThing_1 : decode cX10_oneIfThing 1 = .ok (.ifnonnull 7, 3) := by decide +kernel
theorem dX10_oneIfThing_4 : decode cX10_oneIfThing 4 = .ok (.iconst 0, 1) := by decide +kernel
theorem dX10_oneIfThing_5 : decode cX10_oneIfThing 5 = .ok (.goto 4, 3) := by decide +kernel
theorem dX10_oneIfThing_8 : decode cX10_oneIfThing 8 = .ok (.iconst 1, 1) := by decide +kernel
theorem dX10_oneIfThing_9 : decode cX10_oneIfThing 9 = .ok (.ireturn, 1) := by decide +kernel
theorem dX10_newThing_0 : decode cX10_newThing 0 = .ok (.iload_n 0, 1) := by decide +kernel
theorem dX10_newThing_1 : decode cX10_newThing 1 = .ok (.tableswitch 81 0 4 #[35, 45, 54, 63, 72], 35) := by decide +kernel
theorem dX10_newThing_36 : decode cX10_newThing 36 = .ok (.new 37, 3) := by decide +kernel
theorem dX10_newThing_39 : decode cX10_newThing 39 = .ok (.dup, 1) := by decide +kernel
theorem dX10_newThing_40 : decode cX10_newThing 40 = .ok (.iconst 0, 1) := by decide +kernel
theorem dX10_newThing_41 : decode cX10_newThing 41 = .ok (.iload_n 1, 1) := by decide +kernel
theorem dX10_newThing_42 : decode cX10_newThing 42 = .ok (.invokespecial 169, 3) := by decide +kernel
theorem dX10_newThing_45 : decode cX10_newThing 45 = .ok (.areturn, 1) := by decide +kernel
theorem dX10_newThing_46 : decode cX10_newThing 46 = .ok (.new 112, 3) := by decide +kernel
theorem dX10_newThing_49 : decode cX10_newThing 49 = .ok (.dup, 1) := by decide +kernel
theorem dX10_newThing_50 : decode cX10_newThing 50 = .ok (.iload_n 1, 1) := by decide +kernel
theorem dX10_newThing_51 : decode cX10_newThing 51 = .ok (.invokespecial 170, 3) := by decide +kernel
theorem dX10_newThing_54 : decode cX10_newThing 54 = .ok (.areturn, 1) := by decide +kernel
theorem dX10_newThing_55 : decode cX10_newThing 55 = .ok (.new 117, 3) := by decide +kernel
theorem dX10_newThing_58 : decode cX10_newThing 58 = .ok (.dup, 1) := by decide +kernel
theorem dX10_newThing_59 : decode cX10_newThing 59 = .ok (.iload_n 1, 1) := by decide +kernel
theorem dX10_newThing_60 : decode cX10_newThing 60 = .ok (.invokespecial 173, 3) := by decide +kernel
theorem dX10_newThing_63 : decode cX10_newThing 63 = .ok (.areturn, 1) := by decide +kernel
theorem dX10_newThing_64 : decode cX10_newThing 64 = .ok (.new 174, 3) := by decide +kernel
theorem dX10_newThing_67 : decode cX10_newThing 67 = .ok (.dup, 1) := by decide +kernel
theorem dX10_newThing_68 : decode cX10_newThing 68 = .ok (.iload_n 1, 1) := by decide +kernel
theorem dX10_newThing_69 : decode cX10_newThing 69 = .ok (.invokespecial 176, 3) := by decide +kernel
theorem dX10_newThing_72 : decode cX10_newThing 72 = .ok (.areturn, 1) := by decide +kernel
theorem dX10_newThing_73 : decode cX10_newThing 73 = .ok (.new 177, 3) := by decide +kernel
theorem dX10_newThing_76 : decode cX10_newThing 76 = .ok (.dup, 1) := by decide +kernel
theorem dX10_newThing_77 : decode cX10_newThing 77 = .ok (.iload_n 1, 1) := by decide +kernel
theorem dX10_newThing_78 : decode cX10_newThing 78 = .ok (.invokespecial 179, 3) := by decide +kernel
theorem dX10_newThing_81 : decode cX10_newThing 81 = .ok (.areturn, 1) := by decide +kernel
theorem dX10_newThing_82 : decode cX10_newThing 82 = .ok (.new 153, 3) := by decide +kernel
theorem dX10_newThing_85 : decode cX10_newThing 85 = .ok (.dup, 1) := by decide +kernel
theorem dX10_newThing_86 : decode cX10_newThing 86 = .ok (.iload_n 1, 1) := by decide +kernel
theorem dX10_newThing_87 : decode cX10_newThing 87 = .ok (.invokespecial 180, 3) := by decide +kernel
theorem dX10_newThing_90 : decode cX10_newThing 90 = .ok (.areturn, 1) := by decide +kernel
theorem dX10_asHive_0 : decode cX10_asHive 0 = .ok (.aload_n 0, 1) := by decide +kernel
theorem dX10_asHive_1 : decode cX10_asHive 1 = .ok (.instanceof 35, 3) := by decide +kernel
theorem dX10_asHive_4 : decode cX10_asHive 4 = .ok (.ifCond .eq 12, 3) := by decide +kernel
theorem dX10_asHive_7 : decode cX10_asHive 7 = .ok (.aload_n 0, 1) := by decide +kernel
theorem dX10_asHive_8 : decode cX10_asHive 8 = .ok (.checkcast 35, 3) := by decide +kernel
theorem dX10_asHive_11 : decode cX10_asHive 11 = .ok (.astore_n 1, 1) := by decide +kernel
theorem dX10_asHive_12 : decode cX10_asHive 12 = .ok (.aload_n 1, 1) := by decide +kernel
theorem dX10_asHive_13 : decode cX10_asHive 13 = .ok (.goto 4, 3) := by decide +kernel
theorem dX10_asHive_16 : decode cX10_asHive 16 = .ok (.aconst_null, 1) := by decide +kernel
theorem dX10_asHive_17 : decode cX10_asHive 17 = .ok (.areturn, 1) := by decide +kernel
theorem dX10_rowOf_0 : decode cX10_rowOf 0 = .ok (.aload_n 0, 1) := by decide +kernel
theorem dX10_rowOf_1 : decode cX10_rowOf 1 = .ok (.ifnonnull 7, 3) := by decide +kernel
theorem dX10_rowOf_4 : decode cX10_rowOf 4 = .ok (.aconst_null, 1) := by decide +kernel
theorem dX10_rowOf_5 : decode cX10_rowOf 5 = .ok (.goto 7, 3) := by decide +kernel
theorem dX10_rowOf_8 : decode cX10_rowOf 8 = .ok (.aload_n 0, 1) := by decide +kernel
theorem dX10_rowOf_9 : decode cX10_rowOf 9 = .ok (.getfield 62, 3) := by decide +kernel
theorem dX10_rowOf_12 : decode cX10_rowOf 12 = .ok (.areturn, 1) := by decide +kernel
theorem dX10_asFrame_0 : decode cX10_asFrame 0 = .ok (.aload_n 0, 1) := by decide +kernel
theorem dX10_asFrame_1 : decode cX10_asFrame 1 = .ok (.instanceof 37, 3) := by decide +kernel
theorem dX10_asFrame_4 : decode cX10_asFrame 4 = .ok (.ifCond .eq 12, 3) := by decide +kernel
theorem dX10_asFrame_7 : decode cX10_asFrame 7 = .ok (.aload_n 0, 1) := by decide +kernel
theorem dX10_asFrame_8 : decode cX10_asFrame 8 = .ok (.checkcast 37, 3) := by decide +kernel
theorem dX10_asFrame_11 : decode cX10_asFrame 11 = .ok (.astore_n 1, 1) := by decide +kernel
theorem dX10_asFrame_12 : decode cX10_asFrame 12 = .ok (.aload_n 1, 1) := by decide +kernel
theorem dX10_asFrame_13 : decode cX10_asFrame 13 = .ok (.goto 4, 3) := by decide +kernel
theorem dX10_asFrame_16 : decode cX10_asFrame 16 = .ok (.aconst_null, 1) := by decide +kernel
theorem dX10_asFrame_17 : decode cX10_asFrame 17 = .ok (.areturn, 1) := by decide +kernel
theorem dX10_asBrood_0 : decode cX10_asBrood 0 = .ok (.aload_n 0, 1) := by decide +kernel
theorem dX10_asBrood_1 : decode cX10_asBrood 1 = .ok (.instanceof 112, 3) := by decide +kernel
theorem dX10_asBrood_4 : decode cX10_asBrood 4 = .ok (.ifCond .eq 12, 3) := by decide +kernel
theorem dX10_asBrood_7 : decode cX10_asBrood 7 = .ok (.aload_n 0, 1) := by decide +kernel
theorem dX10_asBrood_8 : decode cX10_asBrood 8 = .ok (.checkcast 112, 3) := by decide +kernel
theorem dX10_asBrood_11 : decode cX10_asBrood 11 = .ok (.astore_n 1, 1) := by decide +kernel
theorem dX10_asBrood_12 : decode cX10_asBrood 12 = .ok (.aload_n 1, 1) := by decide +kernel
theorem dX10_asBrood_13 : decode cX10_asBrood 13 = .ok (.goto 4, 3) := by decide +kernel
theorem dX10_asBrood_16 : decode cX10_asBrood 16 = .ok (.aconst_null, 1) := by decide +kernel
theorem dX10_asBrood_17 : decode cX10_asBrood 17 = .ok (.areturn, 1) := by decide +kernel
theorem dX10_isNoHive_0 : decode cX10_isNoHive 0 = .ok (.aload_n 0, 1) := by decide +kernel
theorem dX10_isNoHive_1 : decode cX10_isNoHive 1 = .ok (.ifnull 14, 3) := by decide +kernel
theorem dX10_isNoHive_4 : decode cX10_isNoHive 4 = .ok (.aload_n 0, 1) := by decide +kernel
theorem dX10_isNoHive_5 : decode cX10_isNoHive 5 = .ok (.instanceof 35, 3) := by decide +kernel
theorem dX10_isNoHive_8 : decode cX10_isNoHive 8 = .ok (.ifCond .ne 7, 3) := by decide +kernel
theorem dX10_isNoHive_11 : decode cX10_isNoHive 11 = .ok (.iconst 1, 1) := by decide +kernel
theorem dX10_isNoHive_12 : decode cX10_isNoHive 12 = .ok (.goto 4, 3) := by decide +kernel
theorem dX10_isNoHive_15 : decode cX10_isNoHive 15 = .ok (.iconst 0, 1) := by decide +kernel
theorem dX10_isNoHive_16 : decode cX10_isNoHive 16 = .ok (.ireturn, 1) := by decide +kernel
theorem dX10_castOrNull_0 : decode cX10_castOrNull 0 = .ok (.aload_n 0, 1) := by decide +kernel
theorem dX10_castOrNull_1 : decode cX10_castOrNull 1 = .ok (.invokestatic 46, 3) := by decide +kernel
theorem dX10_castOrNull_4 : decode cX10_castOrNull 4 = .ok (.ifCond .eq 7, 3) := by decide +kernel
theorem dX10_castOrNull_7 : decode cX10_castOrNull 7 = .ok (.iconst 5, 1) := by decide +kernel
theorem dX10_castOrNull_8 : decode cX10_castOrNull 8 = .ok (.goto 4, 3) := by decide +kernel
theorem dX10_castOrNull_11 : decode cX10_castOrNull 11 = .ok (.iconst 1, 1) := by decide +kernel
theorem dX10_castOrNull_12 : decode cX10_castOrNull 12 = .ok (.ireturn, 1) := by decide +kernel
theorem dX10_isNoPart_0 : decode cX10_isNoPart 0 = .ok (.aload_n 0, 1) := by decide +kernel
theorem dX10_isNoPart_1 : decode cX10_isNoPart 1 = .ok (.ifnonnull 5, 3) := by decide +kernel
theorem dX10_isNoPart_4 : decode cX10_isNoPart 4 = .ok (.iconst 0, 1) := by decide +kernel
theorem dX10_isNoPart_5 : decode cX10_isNoPart 5 = .ok (.ireturn, 1) := by decide +kernel
theorem dX10_isNoPart_6 : decode cX10_isNoPart 6 = .ok (.iload_n 1, 1) := by decide +kernel
theorem dX10_isNoPart_7 : decode cX10_isNoPart 7 = .ok (.lookupswitch 51 #[(0, 25), (1, 38)], 25) := by decide +kernel
theorem dX10_isNoPart_32 : decode cX10_isNoPart 32 = .ok (.aload_n 0, 1) := by decide +kernel
theorem dX10_isNoPart_33 : decode cX10_isNoPart 33 = .ok (.instanceof 117, 3) := by decide +kernel
theorem dX10_isNoPart_36 : decode cX10_isNoPart 36 = .ok (.ifCond .ne 7, 3) := by decide +kernel
theorem dX10_isNoPart_39 : decode cX10_isNoPart 39 = .ok (.iconst 1, 1) := by decide +kernel
theorem dX10_isNoPart_40 : decode cX10_isNoPart 40 = .ok (.goto 4, 3) := by decide +kernel
theorem dX10_isNoPart_43 : decode cX10_isNoPart 43 = .ok (.iconst 0, 1) := by decide +kernel
theorem dX10_isNoPart_44 : decode cX10_isNoPart 44 = .ok (.ireturn, 1) := by decide +kernel
theorem dX10_isNoPart_45 : decode cX10_isNoPart 45 = .ok (.aload_n 0, 1) := by decide +kernel
theorem dX10_isNoPart_46 : decode cX10_isNoPart 46 = .ok (.instanceof 129, 3) := by decide +kernel
theorem dX10_isNoPart_49 : decode cX10_isNoPart 49 = .ok (.ifCond .ne 7, 3) := by decide +kernel
theorem dX10_isNoPart_52 : decode cX10_isNoPart 52 = .ok (.iconst 1, 1) := by decide +kernel
theorem dX10_isNoPart_53 : decode cX10_isNoPart 53 = .ok (.goto 4, 3) := by decide +kernel
theorem dX10_isNoPart_56 : decode cX10_isNoPart 56 = .ok (.iconst 0, 1) := by decide +kernel
theorem dX10_isNoPart_57 : decode cX10_isNoPart 57 = .ok (.ireturn, 1) := by decide +kernel
theorem dX10_isNoPart_58 : decode cX10_isNoPart 58 = .ok (.aload_n 0, 1) := by decide +kernel
theorem dX10_isNoPart_59 : decode cX10_isNoPart 59 = .ok (.instanceof 153, 3) := by decide +kernel
theorem dX10_isNoPart_62 : decode cX10_isNoPart 62 = .ok (.ifCond .ne 7, 3) := by decide +kernel
theorem dX10_isNoPart_65 : decode cX10_isNoPart 65 = .ok (.iconst 1, 1) := by decide +kernel
theorem dX10_isNoPart_66 : decode cX10_isNoPart 66 = .ok (.goto 4, 3) := by decide +kernel
theorem dX10_isNoPart_69 : decode cX10_isNoPart 69 = .ok (.iconst 0, 1) := by decide +kernel
theorem dX10_isNoPart_70 : decode cX10_isNoPart 70 = .ok (.ireturn, 1) := by decide +kernel
theorem dX11_init_0 : decode cX11_init 0 = .ok (.aload_n 0, 1) := by decide +kernel
theorem dX11_init_1 : decode cX11_init 1 = .ok (.invokespecial 1, 3) := by decide +kernel
theorem dX11_init_4 : decode cX11_init 4 = .ok (.aload_n 0, 1) := by decide +kernel
theorem dX11_init_5 : decode cX11_init 5 = .ok (.bipush 16, 2) := by decide +kernel
theorem dX11_init_7 : decode cX11_init 7 = .ok (.newarray .int, 2) := by decide +kernel
theorem dX11_init_9 : decode cX11_init 9 = .ok (.putfield 7, 3) := by decide +kernel
theorem dX11_init_12 : decode cX11_init 12 = .ok (.aload_n 0, 1) := by decide +kernel
theorem dX11_init_13 : decode cX11_init 13 = .ok (.sipush 700, 3) := by decide +kernel
theorem dX11_init_16 : decode cX11_init 16 = .ok (.newarray .int, 2) := by decide +kernel
theorem dX11_init_18 : decode cX11_init 18 = .ok (.putfield 13, 3) := by decide +kernel
theorem dX11_init_21 : decode cX11_init 21 = .ok (.aload_n 0, 1) := by decide +kernel
theorem dX11_init_22 : decode cX11_init 22 = .ok (.sipush 700, 3) := by decide +kernel
theorem dX11_init_25 : decode cX11_init 25 = .ok (.newarray .int, 2) := by decide +kernel
theorem dX11_init_27 : decode cX11_init 27 = .ok (.putfield 16, 3) := by decide +kernel
theorem dX11_init_30 : decode cX11_init 30 = .ok (.aload_n 0, 1) := by decide +kernel
theorem dX11_init_31 : decode cX11_init 31 = .ok (.sipush 700, 3) := by decide +kernel
theorem dX11_init_34 : decode cX11_init 34 = .ok (.newarray .int, 2) := by decide +kernel
theorem dX11_init_36 : decode cX11_init 36 = .ok (.putfield 19, 3) := by decide +kernel
theorem dX11_init_39 : decode cX11_init 39 = .ok (.aload_n 0, 1) := by decide +kernel
theorem dX11_init_40 : decode cX11_init 40 = .ok (.sipush 700, 3) := by decide +kernel
theorem dX11_init_43 : decode cX11_init 43 = .ok (.newarray .int, 2) := by decide +kernel
theorem dX11_init_45 : decode cX11_init 45 = .ok (.putfield 22, 3) := by decide +kernel
theorem dX11_init_48 : decode cX11_init 48 = .ok (.aload_n 0, 1) := by decide +kernel
theorem dX11_init_49 : decode cX11_init 49 = .ok (.sipush 21000, 3) := by decide +kernel
theorem dX11_init_52 : decode cX11_init 52 = .ok (.newarray .int, 2) := by decide +kernel
theorem dX11_init_54 : decode cX11_init 54 = .ok (.putfield 25, 3) := by decide +kernel
theorem dX11_init_57 : decode cX11_init 57 = .ok (.aload_n 0, 1) := by decide +kernel
theorem dX11_init_58 : decode cX11_init 58 = .ok (.sipush 700, 3) := by decide +kernel
theorem dX11_init_61 : decode cX11_init 61 = .ok (.newarray .int, 2) := by decide +kernel
theorem dX11_init_63 : decode cX11_init 63 = .ok (.putfield 28, 3) := by decide +kernel
theorem dX11_init_66 : decode cX11_init 66 = .ok (.aload_n 0, 1) := by decide +kernel
theorem dX11_init_67 : decode cX11_init 67 = .ok (.sipush 700, 3) := by decide +kernel
theorem dX11_init_70 : decode cX11_init 70 = .ok (.newarray .int, 2) := by decide +kernel
theorem dX11_init_72 : decode cX11_init 72 = .ok (.putfield 31, 3) := by decide +kernel
theorem dX11_init_75 : decode cX11_init 75 = .ok (.aload_n 0, 1) := by decide +kernel
theorem dX11_init_76 : decode cX11_init 76 = .ok (.ldc 34, 2) := by decide +kernel
theorem dX11_init_78 : decode cX11_init 78 = .ok (.newarray .int, 2) := by decide +kernel
theorem dX11_init_80 : decode cX11_init 80 = .ok (.putfield 35, 3) := by decide +kernel
theorem dX11_init_83 : decode cX11_init 83 = .ok (.aload_n 0, 1) := by decide +kernel
theorem dX11_init_84 : decode cX11_init 84 = .ok (.sipush 700, 3) := by decide +kernel
theorem dX11_init_87 : decode cX11_init 87 = .ok (.newarray .int, 2) := by decide +kernel
theorem dX11_init_89 : decode cX11_init 89 = .ok (.putfield 38, 3) := by decide +kernel
theorem dX11_init_92 : decode cX11_init 92 = .ok (.aload_n 0, 1) := by decide +kernel
theorem dX11_init_93 : decode cX11_init 93 = .ok (.sipush 700, 3) := by decide +kernel
theorem dX11_init_96 : decode cX11_init 96 = .ok (.newarray .int, 2) := by decide +kernel
theorem dX11_init_98 : decode cX11_init 98 = .ok (.putfield 41, 3) := by decide +kernel
theorem dX11_init_101 : decode cX11_init 101 = .ok (.aload_n 0, 1) := by decide +kernel
theorem dX11_init_102 : decode cX11_init 102 = .ok (.sipush 700, 3) := by decide +kernel
theorem dX11_init_105 : decode cX11_init 105 = .ok (.newarray .int, 2) := by decide +kernel
theorem dX11_init_107 : decode cX11_init 107 = .ok (.putfield 44, 3) := by decide +kernel
theorem dX11_init_110 : decode cX11_init 110 = .ok (.aload_n 0, 1) := by decide +kernel
theorem dX11_init_111 : decode cX11_init 111 = .ok (.bipush 7, 2) := by decide +kernel
theorem dX11_init_113 : decode cX11_init 113 = .ok (.newarray .int, 2) := by decide +kernel
theorem dX11_init_115 : decode cX11_init 115 = .ok (.putfield 47, 3) := by decide +kernel
theorem dX11_init_118 : decode cX11_init 118 = .ok (.return_, 1) := by decide +kernel
theorem dX11_in_0 : decode cX11_in 0 = .ok (.iload_n 0, 1) := by decide +kernel
theorem dX11_in_1 : decode cX11_in 1 = .ok (.iload_n 1, 1) := by decide +kernel
theorem dX11_in_2 : decode cX11_in 2 = .ok (.if_icmp .lt 12, 3) := by decide +kernel
theorem dX11_in_5 : decode cX11_in 5 = .ok (.iload_n 0, 1) := by decide +kernel
theorem dX11_in_6 : decode cX11_in 6 = .ok (.iload_n 2, 1) := by decide +kernel
theorem dX11_in_7 : decode cX11_in 7 = .ok (.if_icmp .gt 7, 3) := by decide +kernel
theorem dX11_in_10 : decode cX11_in 10 = .ok (.iconst 1, 1) := by decide +kernel
theorem dX11_in_11 : decode cX11_in 11 = .ok (.goto 4, 3) := by decide +kernel
theorem dX11_in_14 : decode cX11_in 14 = .ok (.iconst 0, 1) := by decide +kernel
theorem dX11_in_15 : decode cX11_in 15 = .ok (.ireturn, 1) := by decide +kernel
theorem dX11_isShelf_0 : decode cX11_isShelf 0 = .ok (.iload_n 0, 1) := by decide +kernel
theorem dX11_isShelf_1 : decode cX11_isShelf 1 = .ok (.iconst 0, 1) := by decide +kernel
theorem dX11_isShelf_2 : decode cX11_isShelf 2 = .ok (.bipush 15, 2) := by decide +kernel
theorem dX11_isShelf_4 : decode cX11_isShelf 4 = .ok (.invokestatic 50, 3) := by decide +kernel
theorem dX11_isShelf_7 : decode cX11_isShelf 7 = .ok (.ireturn, 1) := by decide +kernel
theorem dX11_refuse_0 : decode cX11_refuse 0 = .ok (.aload_n 0, 1) := by decide +kernel
theorem dX11_refuse_1 : decode cX11_refuse 1 = .ok (.getfield 47, 3) := by decide +kernel
theorem dX11_refuse_4 : decode cX11_refuse 4 = .ok (.iconst 0, 1) := by decide +kernel
theorem dX11_refuse_5 : decode cX11_refuse 5 = .ok (.dup2, 1) := by decide +kernel
theorem dX11_refuse_6 : decode cX11_refuse 6 = .ok (.iaload, 1) := by decide +kernel
theorem dX11_refuse_7 : decode cX11_refuse 7 = .ok (.iconst 1, 1) := by decide +kernel
theorem dX11_refuse_8 : decode cX11_refuse 8 = .ok (.iadd, 1) := by decide +kernel
theorem dX11_refuse_9 : decode cX11_refuse 9 = .ok (.iastore, 1) := by decide +kernel
theorem dX11_refuse_10 : decode cX11_refuse 10 = .ok (.aload_n 0, 1) := by decide +kernel
theorem dX11_refuse_11 : decode cX11_refuse 11 = .ok (.getfield 47, 3) := by decide +kernel
theorem dX11_refuse_14 : decode cX11_refuse 14 = .ok (.iload_n 1, 1) := by decide +kernel
theorem dX11_refuse_15 : decode cX11_refuse 15 = .ok (.dup2, 1) := by decide +kernel
theorem dX11_refuse_16 : decode cX11_refuse 16 = .ok (.iaload, 1) := by decide +kernel
theorem dX11_refuse_17 : decode cX11_refuse 17 = .ok (.iconst 1, 1) := by decide +kernel
theorem dX11_refuse_18 : decode cX11_refuse 18 = .ok (.iadd, 1) := by decide +kernel
theorem dX11_refuse_19 : decode cX11_refuse 19 = .ok (.iastore, 1) := by decide +kernel
theorem dX11_refuse_20 : decode cX11_refuse 20 = .ok (.bipush (-10), 2) := by decide +kernel
theorem dX11_refuse_22 : decode cX11_refuse 22 = .ok (.iload_n 1, 1) := by decide +kernel
theorem dX11_refuse_23 : decode cX11_refuse 23 = .ok (.isub, 1) := by decide +kernel
theorem dX11_refuse_24 : decode cX11_refuse 24 = .ok (.ireturn, 1) := by decide +kernel
theorem dX11_refuseLong_0 : decode cX11_refuseLong 0 = .ok (.ldc2_w 54, 3) := by decide +kernel
theorem dX11_refuseLong_3 : decode cX11_refuseLong 3 = .ok (.aload_n 0, 1) := by decide +kernel
theorem dX11_refuseLong_4 : decode cX11_refuseLong 4 = .ok (.iload_n 1, 1) := by decide +kernel
theorem dX11_refuseLong_5 : decode cX11_refuseLong 5 = .ok (.invokevirtual 56, 3) := by decide +kernel
theorem dX11_refuseLong_8 : decode cX11_refuseLong 8 = .ok (.i2l, 1) := by decide +kernel
theorem dX11_refuseLong_9 : decode cX11_refuseLong 9 = .ok (.ladd, 1) := by decide +kernel
theorem dX11_refuseLong_10 : decode cX11_refuseLong 10 = .ok (.lreturn, 1) := by decide +kernel
theorem dX11_thing_0 : decode cX11_thing 0 = .ok (.aload_n 0, 1) := by decide +kernel
theorem dX11_thing_1 : decode cX11_thing 1 = .ok (.dup, 1) := by decide +kernel
theorem dX11_thing_2 : decode cX11_thing 2 = .ok (.getfield 60, 3) := by decide +kernel
theorem dX11_thing_5 : decode cX11_thing 5 = .ok (.iconst 1, 1) := by decide +kernel
theorem dX11_thing_6 : decode cX11_thing 6 = .ok (.iadd, 1) := by decide +kernel
theorem dX11_thing_7 : decode cX11_thing 7 = .ok (.putfield 60, 3) := by decide +kernel
theorem dX11_thing_10 : decode cX11_thing 10 = .ok (.aload_n 0, 1) := by decide +kernel
theorem dX11_thing_11 : decode cX11_thing 11 = .ok (.getfield 60, 3) := by decide +kernel
theorem dX11_thing_14 : decode cX11_thing 14 = .ok (.istore_n 3, 1) := by decide +kernel
theorem dX11_thing_15 : decode cX11_thing 15 = .ok (.aload_n 0, 1) := by decide +kernel
theorem dX11_thing_16 : decode cX11_thing 16 = .ok (.getfield 13, 3) := by decide +kernel
theorem dX11_thing_19 : decode cX11_thing 19 = .ok (.iload_n 3, 1) := by decide +kernel
theorem dX11_thing_20 : decode cX11_thing 20 = .ok (.iload_n 1, 1) := by decide +kernel
theorem dX11_thing_21 : decode cX11_thing 21 = .ok (.iastore, 1) := by decide +kernel
theorem dX11_thing_22 : decode cX11_thing 22 = .ok (.aload_n 0, 1) := by decide +kernel
theorem dX11_thing_23 : decode cX11_thing 23 = .ok (.getfield 16, 3) := by decide +kernel
theorem dX11_thing_26 : decode cX11_thing 26 = .ok (.iload_n 3, 1) := by decide +kernel
theorem dX11_thing_27 : decode cX11_thing 27 = .ok (.iload_n 2, 1) := by decide +kernel
theorem dX11_thing_28 : decode cX11_thing 28 = .ok (.iastore, 1) := by decide +kernel
theorem dX11_thing_29 : decode cX11_thing 29 = .ok (.aload_n 0, 1) := by decide +kernel
theorem dX11_thing_30 : decode cX11_thing 30 = .ok (.getfield 19, 3) := by decide +kernel
theorem dX11_thing_33 : decode cX11_thing 33 = .ok (.iload_n 3, 1) := by decide +kernel
