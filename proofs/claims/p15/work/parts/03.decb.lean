theorem dX11_thing_34 : decode cX11_thing 34 = .ok (.iconst 0, 1) := by decide +kernel
theorem dX11_thing_35 : decode cX11_thing 35 = .ok (.iastore, 1) := by decide +kernel
theorem dX11_thing_36 : decode cX11_thing 36 = .ok (.aload_n 0, 1) := by decide +kernel
theorem dX11_thing_37 : decode cX11_thing 37 = .ok (.getfield 22, 3) := by decide +kernel
theorem dX11_thing_40 : decode cX11_thing 40 = .ok (.iload_n 3, 1) := by decide +kernel
theorem dX11_thing_41 : decode cX11_thing 41 = .ok (.iconst (-1), 1) := by decide +kernel
theorem dX11_thing_42 : decode cX11_thing 42 = .ok (.iastore, 1) := by decide +kernel
theorem dX11_thing_43 : decode cX11_thing 43 = .ok (.aload_n 0, 1) := by decide +kernel
theorem dX11_thing_44 : decode cX11_thing 44 = .ok (.getfield 28, 3) := by decide +kernel
theorem dX11_thing_47 : decode cX11_thing 47 = .ok (.iload_n 3, 1) := by decide +kernel
theorem dX11_thing_48 : decode cX11_thing 48 = .ok (.iconst (-1), 1) := by decide +kernel
theorem dX11_thing_49 : decode cX11_thing 49 = .ok (.iastore, 1) := by decide +kernel
theorem dX11_thing_50 : decode cX11_thing 50 = .ok (.aload_n 0, 1) := by decide +kernel
theorem dX11_thing_51 : decode cX11_thing 51 = .ok (.getfield 31, 3) := by decide +kernel
theorem dX11_thing_54 : decode cX11_thing 54 = .ok (.iload_n 3, 1) := by decide +kernel
theorem dX11_thing_55 : decode cX11_thing 55 = .ok (.iconst 0, 1) := by decide +kernel
theorem dX11_thing_56 : decode cX11_thing 56 = .ok (.iastore, 1) := by decide +kernel
theorem dX11_thing_57 : decode cX11_thing 57 = .ok (.aload_n 0, 1) := by decide +kernel
theorem dX11_thing_58 : decode cX11_thing 58 = .ok (.getfield 38, 3) := by decide +kernel
theorem dX11_thing_61 : decode cX11_thing 61 = .ok (.iload_n 3, 1) := by decide +kernel
theorem dX11_thing_62 : decode cX11_thing 62 = .ok (.iconst 0, 1) := by decide +kernel
theorem dX11_thing_63 : decode cX11_thing 63 = .ok (.iastore, 1) := by decide +kernel
theorem dX11_thing_64 : decode cX11_thing 64 = .ok (.aload_n 0, 1) := by decide +kernel
theorem dX11_thing_65 : decode cX11_thing 65 = .ok (.getfield 41, 3) := by decide +kernel
theorem dX11_thing_68 : decode cX11_thing 68 = .ok (.iload_n 3, 1) := by decide +kernel
theorem dX11_thing_69 : decode cX11_thing 69 = .ok (.iconst 0, 1) := by decide +kernel
theorem dX11_thing_70 : decode cX11_thing 70 = .ok (.iastore, 1) := by decide +kernel
theorem dX11_thing_71 : decode cX11_thing 71 = .ok (.aload_n 0, 1) := by decide +kernel
theorem dX11_thing_72 : decode cX11_thing 72 = .ok (.getfield 44, 3) := by decide +kernel
theorem dX11_thing_75 : decode cX11_thing 75 = .ok (.iload_n 3, 1) := by decide +kernel
theorem dX11_thing_76 : decode cX11_thing 76 = .ok (.iconst 0, 1) := by decide +kernel
theorem dX11_thing_77 : decode cX11_thing 77 = .ok (.iastore, 1) := by decide +kernel
theorem dX11_thing_78 : decode cX11_thing 78 = .ok (.iload_n 3, 1) := by decide +kernel
theorem dX11_thing_79 : decode cX11_thing 79 = .ok (.ireturn, 1) := by decide +kernel
theorem dX11_set_0 : decode cX11_set 0 = .ok (.iload_n 1, 1) := by decide +kernel
theorem dX11_set_1 : decode cX11_set 1 = .ok (.invokestatic 64, 3) := by decide +kernel
theorem dX11_set_4 : decode cX11_set 4 = .ok (.ifCond .eq 12, 3) := by decide +kernel
theorem dX11_set_7 : decode cX11_set 7 = .ok (.iload_n 2, 1) := by decide +kernel
theorem dX11_set_8 : decode cX11_set 8 = .ok (.iconst 0, 1) := by decide +kernel
theorem dX11_set_9 : decode cX11_set 9 = .ok (.iconst 5, 1) := by decide +kernel
theorem dX11_set_10 : decode cX11_set 10 = .ok (.invokestatic 50, 3) := by decide +kernel
theorem dX11_set_13 : decode cX11_set 13 = .ok (.ifCond .ne 5, 3) := by decide +kernel
theorem dX11_set_16 : decode cX11_set 16 = .ok (.iconst (-1), 1) := by decide +kernel
theorem dX11_set_17 : decode cX11_set 17 = .ok (.ireturn, 1) := by decide +kernel
theorem dX11_set_18 : decode cX11_set 18 = .ok (.aload_n 0, 1) := by decide +kernel
theorem dX11_set_19 : decode cX11_set 19 = .ok (.getfield 7, 3) := by decide +kernel
theorem dX11_set_22 : decode cX11_set 22 = .ok (.iload_n 1, 1) := by decide +kernel
theorem dX11_set_23 : decode cX11_set 23 = .ok (.aload_n 0, 1) := by decide +kernel
theorem dX11_set_24 : decode cX11_set 24 = .ok (.iload_n 2, 1) := by decide +kernel
theorem dX11_set_25 : decode cX11_set 25 = .ok (.iload_n 3, 1) := by decide +kernel
theorem dX11_set_26 : decode cX11_set 26 = .ok (.invokevirtual 68, 3) := by decide +kernel
theorem dX11_set_29 : decode cX11_set 29 = .ok (.iastore, 1) := by decide +kernel
theorem dX11_set_30 : decode cX11_set 30 = .ok (.iload_n 2, 1) := by decide +kernel
theorem dX11_set_31 : decode cX11_set 31 = .ok (.ireturn, 1) := by decide +kernel
theorem dX11_newRow_0 : decode cX11_newRow 0 = .ok (.aload_n 0, 1) := by decide +kernel
theorem dX11_newRow_1 : decode cX11_newRow 1 = .ok (.getfield 22, 3) := by decide +kernel
theorem dX11_newRow_4 : decode cX11_newRow 4 = .ok (.iload_n 1, 1) := by decide +kernel
theorem dX11_newRow_5 : decode cX11_newRow 5 = .ok (.iload_n 2, 1) := by decide +kernel
theorem dX11_newRow_6 : decode cX11_newRow 6 = .ok (.iastore, 1) := by decide +kernel
theorem dX11_newRow_7 : decode cX11_newRow 7 = .ok (.iconst 0, 1) := by decide +kernel
theorem dX11_newRow_8 : decode cX11_newRow 8 = .ok (.istore_n 3, 1) := by decide +kernel
theorem dX11_newRow_9 : decode cX11_newRow 9 = .ok (.iload_n 3, 1) := by decide +kernel
theorem dX11_newRow_10 : decode cX11_newRow 10 = .ok (.bipush 30, 2) := by decide +kernel
theorem dX11_newRow_12 : decode cX11_newRow 12 = .ok (.if_icmp .ge 21, 3) := by decide +kernel
theorem dX11_newRow_15 : decode cX11_newRow 15 = .ok (.aload_n 0, 1) := by decide +kernel
theorem dX11_newRow_16 : decode cX11_newRow 16 = .ok (.getfield 25, 3) := by decide +kernel
theorem dX11_newRow_19 : decode cX11_newRow 19 = .ok (.bipush 30, 2) := by decide +kernel
theorem dX11_newRow_21 : decode cX11_newRow 21 = .ok (.iload_n 1, 1) := by decide +kernel
theorem dX11_newRow_22 : decode cX11_newRow 22 = .ok (.imul, 1) := by decide +kernel
theorem dX11_newRow_23 : decode cX11_newRow 23 = .ok (.iload_n 3, 1) := by decide +kernel
theorem dX11_newRow_24 : decode cX11_newRow 24 = .ok (.iadd, 1) := by decide +kernel
theorem dX11_newRow_25 : decode cX11_newRow 25 = .ok (.iconst 0, 1) := by decide +kernel
theorem dX11_newRow_26 : decode cX11_newRow 26 = .ok (.iastore, 1) := by decide +kernel
theorem dX11_newRow_27 : decode cX11_newRow 27 = .ok (.iinc 3 1, 3) := by decide +kernel
theorem dX11_newRow_30 : decode cX11_newRow 30 = .ok (.goto (-21), 3) := by decide +kernel
theorem dX11_newRow_33 : decode cX11_newRow 33 = .ok (.return_, 1) := by decide +kernel
theorem dX11_hive_0 : decode cX11_hive 0 = .ok (.iload_n 1, 1) := by decide +kernel
theorem dX11_hive_1 : decode cX11_hive 1 = .ok (.invokestatic 64, 3) := by decide +kernel
theorem dX11_hive_4 : decode cX11_hive 4 = .ok (.ifCond .eq 9, 3) := by decide +kernel
theorem dX11_hive_7 : decode cX11_hive 7 = .ok (.iload_n 3, 1) := by decide +kernel
theorem dX11_hive_8 : decode cX11_hive 8 = .ok (.bipush 30, 2) := by decide +kernel
theorem dX11_hive_10 : decode cX11_hive 10 = .ok (.if_icmp .le 5, 3) := by decide +kernel
theorem dX11_hive_13 : decode cX11_hive 13 = .ok (.iconst (-1), 1) := by decide +kernel
theorem dX11_hive_14 : decode cX11_hive 14 = .ok (.ireturn, 1) := by decide +kernel
theorem dX11_hive_15 : decode cX11_hive 15 = .ok (.iload_n 3, 1) := by decide +kernel
theorem dX11_hive_16 : decode cX11_hive 16 = .ok (.ifCond .ge 9, 3) := by decide +kernel
theorem dX11_hive_19 : decode cX11_hive 19 = .ok (.aload_n 0, 1) := by decide +kernel
theorem dX11_hive_20 : decode cX11_hive 20 = .ok (.iconst 2, 1) := by decide +kernel
theorem dX11_hive_21 : decode cX11_hive 21 = .ok (.invokevirtual 56, 3) := by decide +kernel
theorem dX11_hive_24 : decode cX11_hive 24 = .ok (.ireturn, 1) := by decide +kernel
theorem dX11_hive_25 : decode cX11_hive 25 = .ok (.aload_n 0, 1) := by decide +kernel
theorem dX11_hive_26 : decode cX11_hive 26 = .ok (.iload_n 2, 1) := by decide +kernel
theorem dX11_hive_27 : decode cX11_hive 27 = .ok (.ifCond .eq 8, 3) := by decide +kernel
theorem dX11_hive_30 : decode cX11_hive 30 = .ok (.bipush 7, 2) := by decide +kernel
theorem dX11_hive_32 : decode cX11_hive 32 = .ok (.goto 5, 3) := by decide +kernel
theorem dX11_hive_35 : decode cX11_hive 35 = .ok (.bipush 6, 2) := by decide +kernel
theorem dX11_hive_37 : decode cX11_hive 37 = .ok (.iconst 0, 1) := by decide +kernel
theorem dX11_hive_38 : decode cX11_hive 38 = .ok (.invokevirtual 68, 3) := by decide +kernel
theorem dX11_hive_41 : decode cX11_hive 41 = .ok (.istore 4, 2) := by decide +kernel
theorem dX11_hive_43 : decode cX11_hive 43 = .ok (.aload_n 0, 1) := by decide +kernel
theorem dX11_hive_44 : decode cX11_hive 44 = .ok (.iload 4, 2) := by decide +kernel
theorem dX11_hive_46 : decode cX11_hive 46 = .ok (.iload_n 3, 1) := by decide +kernel
theorem dX11_hive_47 : decode cX11_hive 47 = .ok (.invokevirtual 72, 3) := by decide +kernel
theorem dX11_hive_50 : decode cX11_hive 50 = .ok (.aload_n 0, 1) := by decide +kernel
theorem dX11_hive_51 : decode cX11_hive 51 = .ok (.getfield 7, 3) := by decide +kernel
theorem dX11_hive_54 : decode cX11_hive 54 = .ok (.iload_n 1, 1) := by decide +kernel
theorem dX11_hive_55 : decode cX11_hive 55 = .ok (.iload 4, 2) := by decide +kernel
theorem dX11_hive_57 : decode cX11_hive 57 = .ok (.iastore, 1) := by decide +kernel
theorem dX11_hive_58 : decode cX11_hive 58 = .ok (.iload_n 3, 1) := by decide +kernel
theorem dX11_hive_59 : decode cX11_hive 59 = .ok (.ireturn, 1) := by decide +kernel
theorem dX11_share_0 : decode cX11_share 0 = .ok (.iload_n 1, 1) := by decide +kernel
theorem dX11_share_1 : decode cX11_share 1 = .ok (.invokestatic 64, 3) := by decide +kernel
theorem dX11_share_4 : decode cX11_share 4 = .ok (.ifCond .eq 10, 3) := by decide +kernel
theorem dX11_share_7 : decode cX11_share 7 = .ok (.iload_n 2, 1) := by decide +kernel
theorem dX11_share_8 : decode cX11_share 8 = .ok (.invokestatic 64, 3) := by decide +kernel
theorem dX11_share_11 : decode cX11_share 11 = .ok (.ifCond .ne 5, 3) := by decide +kernel
theorem dX11_share_14 : decode cX11_share 14 = .ok (.iconst (-1), 1) := by decide +kernel
theorem dX11_share_15 : decode cX11_share 15 = .ok (.ireturn, 1) := by decide +kernel
theorem dX11_share_16 : decode cX11_share 16 = .ok (.aload_n 0, 1) := by decide +kernel
theorem dX11_share_17 : decode cX11_share 17 = .ok (.getfield 7, 3) := by decide +kernel
theorem dX11_share_20 : decode cX11_share 20 = .ok (.iload_n 1, 1) := by decide +kernel
theorem dX11_share_21 : decode cX11_share 21 = .ok (.aload_n 0, 1) := by decide +kernel
theorem dX11_share_22 : decode cX11_share 22 = .ok (.getfield 7, 3) := by decide +kernel
theorem dX11_share_25 : decode cX11_share 25 = .ok (.iload_n 2, 1) := by decide +kernel
theorem dX11_share_26 : decode cX11_share 26 = .ok (.iaload, 1) := by decide +kernel
theorem dX11_share_27 : decode cX11_share 27 = .ok (.iastore, 1) := by decide +kernel
theorem dX11_share_28 : decode cX11_share 28 = .ok (.aload_n 0, 1) := by decide +kernel
theorem dX11_share_29 : decode cX11_share 29 = .ok (.getfield 7, 3) := by decide +kernel
theorem dX11_share_32 : decode cX11_share 32 = .ok (.iload_n 1, 1) := by decide +kernel
theorem dX11_share_33 : decode cX11_share 33 = .ok (.iaload, 1) := by decide +kernel
theorem dX11_share_34 : decode cX11_share 34 = .ok (.ifCond .ne 7, 3) := by decide +kernel
theorem dX11_share_37 : decode cX11_share 37 = .ok (.iconst 0, 1) := by decide +kernel
theorem dX11_share_38 : decode cX11_share 38 = .ok (.goto 4, 3) := by decide +kernel
theorem dX11_share_41 : decode cX11_share 41 = .ok (.iconst 1, 1) := by decide +kernel
theorem dX11_share_42 : decode cX11_share 42 = .ok (.ireturn, 1) := by decide +kernel
theorem dX11_clear_0 : decode cX11_clear 0 = .ok (.iload_n 1, 1) := by decide +kernel
theorem dX11_clear_1 : decode cX11_clear 1 = .ok (.invokestatic 64, 3) := by decide +kernel
theorem dX11_clear_4 : decode cX11_clear 4 = .ok (.ifCond .ne 5, 3) := by decide +kernel
theorem dX11_clear_7 : decode cX11_clear 7 = .ok (.iconst (-1), 1) := by decide +kernel
theorem dX11_clear_8 : decode cX11_clear 8 = .ok (.ireturn, 1) := by decide +kernel
theorem dX11_clear_9 : decode cX11_clear 9 = .ok (.aload_n 0, 1) := by decide +kernel
theorem dX11_clear_10 : decode cX11_clear 10 = .ok (.getfield 7, 3) := by decide +kernel
theorem dX11_clear_13 : decode cX11_clear 13 = .ok (.iload_n 1, 1) := by decide +kernel
theorem dX11_clear_14 : decode cX11_clear 14 = .ok (.iaload, 1) := by decide +kernel
theorem dX11_clear_15 : decode cX11_clear 15 = .ok (.ifCond .ne 7, 3) := by decide +kernel
theorem dX11_clear_18 : decode cX11_clear 18 = .ok (.iconst 0, 1) := by decide +kernel
theorem dX11_clear_19 : decode cX11_clear 19 = .ok (.goto 4, 3) := by decide +kernel
theorem dX11_clear_22 : decode cX11_clear 22 = .ok (.iconst 1, 1) := by decide +kernel
theorem dX11_clear_23 : decode cX11_clear 23 = .ok (.istore_n 2, 1) := by decide +kernel
theorem dX11_clear_24 : decode cX11_clear 24 = .ok (.aload_n 0, 1) := by decide +kernel
theorem dX11_clear_25 : decode cX11_clear 25 = .ok (.getfield 7, 3) := by decide +kernel
theorem dX11_clear_28 : decode cX11_clear 28 = .ok (.iload_n 1, 1) := by decide +kernel
theorem dX11_clear_29 : decode cX11_clear 29 = .ok (.iconst 0, 1) := by decide +kernel
theorem dX11_clear_30 : decode cX11_clear 30 = .ok (.iastore, 1) := by decide +kernel
theorem dX11_clear_31 : decode cX11_clear 31 = .ok (.iload_n 2, 1) := by decide +kernel
theorem dX11_clear_32 : decode cX11_clear 32 = .ok (.ireturn, 1) := by decide +kernel
theorem dX11_fits_0 : decode cX11_fits 0 = .ok (.iload_n 1, 1) := by decide +kernel
theorem dX11_fits_1 : decode cX11_fits 1 = .ok (.ifCond .eq 17, 3) := by decide +kernel
theorem dX11_fits_4 : decode cX11_fits 4 = .ok (.aload_n 0, 1) := by decide +kernel
theorem dX11_fits_5 : decode cX11_fits 5 = .ok (.getfield 13, 3) := by decide +kernel
theorem dX11_fits_8 : decode cX11_fits 8 = .ok (.iload_n 1, 1) := by decide +kernel
theorem dX11_fits_9 : decode cX11_fits 9 = .ok (.iaload, 1) := by decide +kernel
theorem dX11_fits_10 : decode cX11_fits 10 = .ok (.iload_n 2, 1) := by decide +kernel
theorem dX11_fits_11 : decode cX11_fits 11 = .ok (.iload_n 3, 1) := by decide +kernel
theorem dX11_fits_12 : decode cX11_fits 12 = .ok (.invokestatic 50, 3) := by decide +kernel
theorem dX11_fits_15 : decode cX11_fits 15 = .ok (.ifCond .eq 7, 3) := by decide +kernel
theorem dX11_fits_18 : decode cX11_fits 18 = .ok (.iconst 1, 1) := by decide +kernel
theorem dX11_fits_19 : decode cX11_fits 19 = .ok (.goto 4, 3) := by decide +kernel
theorem dX11_fits_22 : decode cX11_fits 22 = .ok (.iconst 0, 1) := by decide +kernel
theorem dX11_fits_23 : decode cX11_fits 23 = .ok (.ireturn, 1) := by decide +kernel
theorem dX11_wrongHive_0 : decode cX11_wrongHive 0 = .ok (.aload_n 0, 1) := by decide +kernel
theorem dX11_wrongHive_1 : decode cX11_wrongHive 1 = .ok (.aload_n 0, 1) := by decide +kernel
theorem dX11_wrongHive_2 : decode cX11_wrongHive 2 = .ok (.getfield 7, 3) := by decide +kernel
theorem dX11_wrongHive_5 : decode cX11_wrongHive 5 = .ok (.iload_n 1, 1) := by decide +kernel
theorem dX11_wrongHive_6 : decode cX11_wrongHive 6 = .ok (.iaload, 1) := by decide +kernel
theorem dX11_wrongHive_7 : decode cX11_wrongHive 7 = .ok (.bipush 6, 2) := by decide +kernel
theorem dX11_wrongHive_9 : decode cX11_wrongHive 9 = .ok (.bipush 7, 2) := by decide +kernel
theorem dX11_wrongHive_11 : decode cX11_wrongHive 11 = .ok (.invokevirtual 76, 3) := by decide +kernel
theorem dX11_wrongHive_14 : decode cX11_wrongHive 14 = .ok (.ifCond .ne 7, 3) := by decide +kernel
theorem dX11_wrongHive_17 : decode cX11_wrongHive 17 = .ok (.iconst 5, 1) := by decide +kernel
theorem dX11_wrongHive_18 : decode cX11_wrongHive 18 = .ok (.goto 17, 3) := by decide +kernel
theorem dX11_wrongHive_21 : decode cX11_wrongHive 21 = .ok (.aload_n 0, 1) := by decide +kernel
theorem dX11_wrongHive_22 : decode cX11_wrongHive 22 = .ok (.getfield 7, 3) := by decide +kernel
theorem dX11_wrongHive_25 : decode cX11_wrongHive 25 = .ok (.iload_n 1, 1) := by decide +kernel
theorem dX11_wrongHive_26 : decode cX11_wrongHive 26 = .ok (.iaload, 1) := by decide +kernel
theorem dX11_wrongHive_27 : decode cX11_wrongHive 27 = .ok (.ifCond .ne 7, 3) := by decide +kernel
theorem dX11_wrongHive_30 : decode cX11_wrongHive 30 = .ok (.iconst 1, 1) := by decide +kernel
theorem dX11_wrongHive_31 : decode cX11_wrongHive 31 = .ok (.goto 4, 3) := by decide +kernel
theorem dX11_wrongHive_34 : decode cX11_wrongHive 34 = .ok (.iconst 0, 1) := by decide +kernel
theorem dX11_wrongHive_35 : decode cX11_wrongHive 35 = .ok (.ireturn, 1) := by decide +kernel
theorem dX11_wrongRow_0 : decode cX11_wrongRow 0 = .ok (.aload_n 0, 1) := by decide +kernel
theorem dX11_wrongRow_1 : decode cX11_wrongRow 1 = .ok (.iload_n 1, 1) := by decide +kernel
theorem dX11_wrongRow_2 : decode cX11_wrongRow 2 = .ok (.invokevirtual 79, 3) := by decide +kernel
theorem dX11_wrongRow_5 : decode cX11_wrongRow 5 = .ok (.istore_n 2, 1) := by decide +kernel
theorem dX11_wrongRow_6 : decode cX11_wrongRow 6 = .ok (.iload_n 2, 1) := by decide +kernel
theorem dX11_wrongRow_7 : decode cX11_wrongRow 7 = .ok (.ifCond .eq 7, 3) := by decide +kernel
theorem dX11_wrongRow_10 : decode cX11_wrongRow 10 = .ok (.iload_n 2, 1) := by decide +kernel
theorem dX11_wrongRow_11 : decode cX11_wrongRow 11 = .ok (.goto 22, 3) := by decide +kernel
theorem dX11_wrongRow_14 : decode cX11_wrongRow 14 = .ok (.aload_n 0, 1) := by decide +kernel
theorem dX11_wrongRow_15 : decode cX11_wrongRow 15 = .ok (.getfield 22, 3) := by decide +kernel
theorem dX11_wrongRow_18 : decode cX11_wrongRow 18 = .ok (.aload_n 0, 1) := by decide +kernel
theorem dX11_wrongRow_19 : decode cX11_wrongRow 19 = .ok (.getfield 7, 3) := by decide +kernel
theorem dX11_wrongRow_22 : decode cX11_wrongRow 22 = .ok (.iload_n 1, 1) := by decide +kernel
theorem dX11_wrongRow_23 : decode cX11_wrongRow 23 = .ok (.iaload, 1) := by decide +kernel
theorem dX11_wrongRow_24 : decode cX11_wrongRow 24 = .ok (.iaload, 1) := by decide +kernel
theorem dX11_wrongRow_25 : decode cX11_wrongRow 25 = .ok (.ifCond .ge 7, 3) := by decide +kernel
theorem dX11_wrongRow_28 : decode cX11_wrongRow 28 = .ok (.iconst 1, 1) := by decide +kernel
theorem dX11_wrongRow_29 : decode cX11_wrongRow 29 = .ok (.goto 4, 3) := by decide +kernel
theorem dX11_wrongRow_32 : decode cX11_wrongRow 32 = .ok (.iconst 0, 1) := by decide +kernel
theorem dX11_wrongRow_33 : decode cX11_wrongRow 33 = .ok (.ireturn, 1) := by decide +kernel
theorem dX11_wrongSlot_0 : decode cX11_wrongSlot 0 = .ok (.aload_n 0, 1) := by decide +kernel
theorem dX11_wrongSlot_1 : decode cX11_wrongSlot 1 = .ok (.iload_n 1, 1) := by decide +kernel
theorem dX11_wrongSlot_2 : decode cX11_wrongSlot 2 = .ok (.invokevirtual 82, 3) := by decide +kernel
theorem dX11_wrongSlot_5 : decode cX11_wrongSlot 5 = .ok (.istore_n 3, 1) := by decide +kernel
theorem dX11_wrongSlot_6 : decode cX11_wrongSlot 6 = .ok (.iload_n 3, 1) := by decide +kernel
theorem dX11_wrongSlot_7 : decode cX11_wrongSlot 7 = .ok (.ifCond .eq 7, 3) := by decide +kernel
theorem dX11_wrongSlot_10 : decode cX11_wrongSlot 10 = .ok (.iload_n 3, 1) := by decide +kernel
theorem dX11_wrongSlot_11 : decode cX11_wrongSlot 11 = .ok (.goto 29, 3) := by decide +kernel
theorem dX11_wrongSlot_14 : decode cX11_wrongSlot 14 = .ok (.iload_n 2, 1) := by decide +kernel
theorem dX11_wrongSlot_15 : decode cX11_wrongSlot 15 = .ok (.iconst 0, 1) := by decide +kernel
theorem dX11_wrongSlot_16 : decode cX11_wrongSlot 16 = .ok (.aload_n 0, 1) := by decide +kernel
theorem dX11_wrongSlot_17 : decode cX11_wrongSlot 17 = .ok (.getfield 22, 3) := by decide +kernel
theorem dX11_wrongSlot_20 : decode cX11_wrongSlot 20 = .ok (.aload_n 0, 1) := by decide +kernel
theorem dX11_wrongSlot_21 : decode cX11_wrongSlot 21 = .ok (.getfield 7, 3) := by decide +kernel
theorem dX11_wrongSlot_24 : decode cX11_wrongSlot 24 = .ok (.iload_n 1, 1) := by decide +kernel
theorem dX11_wrongSlot_25 : decode cX11_wrongSlot 25 = .ok (.iaload, 1) := by decide +kernel
theorem dX11_wrongSlot_26 : decode cX11_wrongSlot 26 = .ok (.iaload, 1) := by decide +kernel
theorem dX11_wrongSlot_27 : decode cX11_wrongSlot 27 = .ok (.iconst 1, 1) := by decide +kernel
theorem dX11_wrongSlot_28 : decode cX11_wrongSlot 28 = .ok (.isub, 1) := by decide +kernel
theorem dX11_wrongSlot_29 : decode cX11_wrongSlot 29 = .ok (.invokestatic 50, 3) := by decide +kernel
theorem dX11_wrongSlot_32 : decode cX11_wrongSlot 32 = .ok (.ifCond .eq 7, 3) := by decide +kernel
theorem dX11_wrongSlot_35 : decode cX11_wrongSlot 35 = .ok (.iconst 0, 1) := by decide +kernel
theorem dX11_wrongSlot_36 : decode cX11_wrongSlot 36 = .ok (.goto 4, 3) := by decide +kernel
theorem dX11_wrongSlot_39 : decode cX11_wrongSlot 39 = .ok (.iconst 3, 1) := by decide +kernel
theorem dX11_wrongSlot_40 : decode cX11_wrongSlot 40 = .ok (.ireturn, 1) := by decide +kernel
theorem dX11_give_0 : decode cX11_give 0 = .ok (.iload_n 1, 1) := by decide +kernel
theorem dX11_give_1 : decode cX11_give 1 = .ok (.invokestatic 64, 3) := by decide +kernel
theorem dX11_give_4 : decode cX11_give 4 = .ok (.ifCond .eq 19, 3) := by decide +kernel
theorem dX11_give_7 : decode cX11_give 7 = .ok (.iload_n 2, 1) := by decide +kernel
theorem dX11_give_8 : decode cX11_give 8 = .ok (.iconst 0, 1) := by decide +kernel
theorem dX11_give_9 : decode cX11_give 9 = .ok (.iconst 2, 1) := by decide +kernel
theorem dX11_give_10 : decode cX11_give 10 = .ok (.invokestatic 50, 3) := by decide +kernel
theorem dX11_give_13 : decode cX11_give 13 = .ok (.ifCond .eq 10, 3) := by decide +kernel
theorem dX11_give_16 : decode cX11_give 16 = .ok (.iload_n 3, 1) := by decide +kernel
theorem dX11_give_17 : decode cX11_give 17 = .ok (.invokestatic 64, 3) := by decide +kernel
theorem dX11_give_20 : decode cX11_give 20 = .ok (.ifCond .ne 5, 3) := by decide +kernel
theorem dX11_give_23 : decode cX11_give 23 = .ok (.iconst (-1), 1) := by decide +kernel
theorem dX11_give_24 : decode cX11_give 24 = .ok (.ireturn, 1) := by decide +kernel
theorem dX11_give_25 : decode cX11_give 25 = .ok (.aload_n 0, 1) := by decide +kernel
theorem dX11_give_26 : decode cX11_give 26 = .ok (.getfield 7, 3) := by decide +kernel
theorem dX11_give_29 : decode cX11_give 29 = .ok (.iload_n 3, 1) := by decide +kernel
theorem dX11_give_30 : decode cX11_give 30 = .ok (.iaload, 1) := by decide +kernel
theorem dX11_give_31 : decode cX11_give 31 = .ok (.istore 4, 2) := by decide +kernel
theorem dX11_give_33 : decode cX11_give 33 = .ok (.iload_n 2, 1) := by decide +kernel
theorem dX11_give_34 : decode cX11_give 34 = .ok (.ifCond .ne 14, 3) := by decide +kernel
theorem dX11_give_37 : decode cX11_give 37 = .ok (.aload_n 0, 1) := by decide +kernel
theorem dX11_give_38 : decode cX11_give 38 = .ok (.iload 4, 2) := by decide +kernel
theorem dX11_give_40 : decode cX11_give 40 = .ok (.iconst 2, 1) := by decide +kernel
theorem dX11_give_41 : decode cX11_give 41 = .ok (.iconst 2, 1) := by decide +kernel
theorem dX11_give_42 : decode cX11_give 42 = .ok (.invokevirtual 76, 3) := by decide +kernel
theorem dX11_give_45 : decode cX11_give 45 = .ok (.goto 27, 3) := by decide +kernel
theorem dX11_give_48 : decode cX11_give 48 = .ok (.iload_n 2, 1) := by decide +kernel
theorem dX11_give_49 : decode cX11_give 49 = .ok (.iconst 1, 1) := by decide +kernel
theorem dX11_give_50 : decode cX11_give 50 = .ok (.if_icmp .ne 14, 3) := by decide +kernel
theorem dX11_give_53 : decode cX11_give 53 = .ok (.aload_n 0, 1) := by decide +kernel
theorem dX11_give_54 : decode cX11_give 54 = .ok (.iload 4, 2) := by decide +kernel
theorem dX11_give_56 : decode cX11_give 56 = .ok (.iconst 3, 1) := by decide +kernel
theorem dX11_give_57 : decode cX11_give 57 = .ok (.iconst 4, 1) := by decide +kernel
theorem dX11_give_58 : decode cX11_give 58 = .ok (.invokevirtual 76, 3) := by decide +kernel
theorem dX11_give_61 : decode cX11_give 61 = .ok (.goto 11, 3) := by decide +kernel
theorem dX11_give_64 : decode cX11_give 64 = .ok (.aload_n 0, 1) := by decide +kernel
theorem dX11_give_65 : decode cX11_give 65 = .ok (.iload 4, 2) := by decide +kernel
theorem dX11_give_67 : decode cX11_give 67 = .ok (.iconst 5, 1) := by decide +kernel
theorem dX11_give_68 : decode cX11_give 68 = .ok (.iconst 5, 1) := by decide +kernel
theorem dX11_give_69 : decode cX11_give 69 = .ok (.invokevirtual 76, 3) := by decide +kernel
theorem dX11_give_72 : decode cX11_give 72 = .ok (.istore 5, 2) := by decide +kernel
theorem dX11_give_74 : decode cX11_give 74 = .ok (.aload_n 0, 1) := by decide +kernel
theorem dX11_give_75 : decode cX11_give 75 = .ok (.aload_n 0, 1) := by decide +kernel
theorem dX11_give_76 : decode cX11_give 76 = .ok (.getfield 7, 3) := by decide +kernel
theorem dX11_give_79 : decode cX11_give 79 = .ok (.iload_n 1, 1) := by decide +kernel
theorem dX11_give_80 : decode cX11_give 80 = .ok (.iaload, 1) := by decide +kernel
theorem dX11_give_81 : decode cX11_give 81 = .ok (.bipush 6, 2) := by decide +kernel
theorem dX11_give_83 : decode cX11_give 83 = .ok (.bipush 7, 2) := by decide +kernel
theorem dX11_give_85 : decode cX11_give 85 = .ok (.invokevirtual 76, 3) := by decide +kernel
theorem dX11_give_88 : decode cX11_give 88 = .ok (.ifCond .eq 8, 3) := by decide +kernel
theorem dX11_give_91 : decode cX11_give 91 = .ok (.iload 5, 2) := by decide +kernel
theorem dX11_give_93 : decode cX11_give 93 = .ok (.ifCond .ne 9, 3) := by decide +kernel
theorem dX11_give_96 : decode cX11_give 96 = .ok (.aload_n 0, 1) := by decide +kernel
theorem dX11_give_97 : decode cX11_give 97 = .ok (.iconst 5, 1) := by decide +kernel
theorem dX11_give_98 : decode cX11_give 98 = .ok (.invokevirtual 56, 3) := by decide +kernel
theorem dX11_give_101 : decode cX11_give 101 = .ok (.ireturn, 1) := by decide +kernel
theorem dX11_give_102 : decode cX11_give 102 = .ok (.aload_n 0, 1) := by decide +kernel
theorem dX11_give_103 : decode cX11_give 103 = .ok (.getfield 7, 3) := by decide +kernel
theorem dX11_give_106 : decode cX11_give 106 = .ok (.iload_n 1, 1) := by decide +kernel
theorem dX11_give_107 : decode cX11_give 107 = .ok (.iaload, 1) := by decide +kernel
theorem dX11_give_108 : decode cX11_give 108 = .ok (.istore 6, 2) := by decide +kernel
theorem dX11_give_110 : decode cX11_give 110 = .ok (.iload 6, 2) := by decide +kernel
theorem dX11_give_112 : decode cX11_give 112 = .ok (.ifCond .ne 9, 3) := by decide +kernel
theorem dX11_give_115 : decode cX11_give 115 = .ok (.aload_n 0, 1) := by decide +kernel
theorem dX11_give_116 : decode cX11_give 116 = .ok (.iconst 1, 1) := by decide +kernel
theorem dX11_give_117 : decode cX11_give 117 = .ok (.invokevirtual 56, 3) := by decide +kernel
theorem dX11_give_120 : decode cX11_give 120 = .ok (.ireturn, 1) := by decide +kernel
theorem dX11_give_121 : decode cX11_give 121 = .ok (.iload_n 2, 1) := by decide +kernel
theorem dX11_give_122 : decode cX11_give 122 = .ok (.ifCond .ne 15, 3) := by decide +kernel
theorem dX11_give_125 : decode cX11_give 125 = .ok (.aload_n 0, 1) := by decide +kernel
theorem dX11_give_126 : decode cX11_give 126 = .ok (.getfield 38, 3) := by decide +kernel
theorem dX11_give_129 : decode cX11_give 129 = .ok (.iload 6, 2) := by decide +kernel
theorem dX11_give_131 : decode cX11_give 131 = .ok (.iload 4, 2) := by decide +kernel
theorem dX11_give_133 : decode cX11_give 133 = .ok (.iastore, 1) := by decide +kernel
theorem dX11_give_134 : decode cX11_give 134 = .ok (.goto 29, 3) := by decide +kernel
theorem dX11_give_137 : decode cX11_give 137 = .ok (.iload_n 2, 1) := by decide +kernel
theorem dX11_give_138 : decode cX11_give 138 = .ok (.iconst 1, 1) := by decide +kernel
theorem dX11_give_139 : decode cX11_give 139 = .ok (.if_icmp .ne 15, 3) := by decide +kernel
theorem dX11_give_142 : decode cX11_give 142 = .ok (.aload_n 0, 1) := by decide +kernel
theorem dX11_give_143 : decode cX11_give 143 = .ok (.getfield 41, 3) := by decide +kernel
theorem dX11_give_146 : decode cX11_give 146 = .ok (.iload 6, 2) := by decide +kernel
theorem dX11_give_148 : decode cX11_give 148 = .ok (.iload 4, 2) := by decide +kernel
theorem dX11_give_150 : decode cX11_give 150 = .ok (.iastore, 1) := by decide +kernel
theorem dX11_give_151 : decode cX11_give 151 = .ok (.goto 12, 3) := by decide +kernel
theorem dX11_give_154 : decode cX11_give 154 = .ok (.aload_n 0, 1) := by decide +kernel
theorem dX11_give_155 : decode cX11_give 155 = .ok (.getfield 44, 3) := by decide +kernel
theorem dX11_give_158 : decode cX11_give 158 = .ok (.iload 6, 2) := by decide +kernel
theorem dX11_give_160 : decode cX11_give 160 = .ok (.iload 4, 2) := by decide +kernel
theorem dX11_give_162 : decode cX11_give 162 = .ok (.iastore, 1) := by decide +kernel
theorem dX11_give_163 : decode cX11_give 163 = .ok (.iload 4, 2) := by decide +kernel
theorem dX11_give_165 : decode cX11_give 165 = .ok (.ifCond .ne 7, 3) := by decide +kernel
theorem dX11_give_168 : decode cX11_give 168 = .ok (.iconst 0, 1) := by decide +kernel
theorem dX11_give_169 : decode cX11_give 169 = .ok (.goto 4, 3) := by decide +kernel
theorem dX11_give_172 : decode cX11_give 172 = .ok (.iconst 1, 1) := by decide +kernel
theorem dX11_give_173 : decode cX11_give 173 = .ok (.ireturn, 1) := by decide +kernel
theorem dX11_row_0 : decode cX11_row 0 = .ok (.iload_n 1, 1) := by decide +kernel
theorem dX11_row_1 : decode cX11_row 1 = .ok (.invokestatic 64, 3) := by decide +kernel
theorem dX11_row_4 : decode cX11_row 4 = .ok (.ifCond .eq 9, 3) := by decide +kernel
theorem dX11_row_7 : decode cX11_row 7 = .ok (.iload_n 2, 1) := by decide +kernel
theorem dX11_row_8 : decode cX11_row 8 = .ok (.bipush 30, 2) := by decide +kernel
theorem dX11_row_10 : decode cX11_row 10 = .ok (.if_icmp .le 5, 3) := by decide +kernel
theorem dX11_row_13 : decode cX11_row 13 = .ok (.iconst (-1), 1) := by decide +kernel
theorem dX11_row_14 : decode cX11_row 14 = .ok (.ireturn, 1) := by decide +kernel
theorem dX11_row_15 : decode cX11_row 15 = .ok (.aload_n 0, 1) := by decide +kernel
theorem dX11_row_16 : decode cX11_row 16 = .ok (.aload_n 0, 1) := by decide +kernel
theorem dX11_row_17 : decode cX11_row 17 = .ok (.getfield 7, 3) := by decide +kernel
theorem dX11_row_20 : decode cX11_row 20 = .ok (.iload_n 1, 1) := by decide +kernel
theorem dX11_row_21 : decode cX11_row 21 = .ok (.iaload, 1) := by decide +kernel
theorem dX11_row_22 : decode cX11_row 22 = .ok (.bipush 6, 2) := by decide +kernel
theorem dX11_row_24 : decode cX11_row 24 = .ok (.bipush 7, 2) := by decide +kernel
theorem dX11_row_26 : decode cX11_row 26 = .ok (.invokevirtual 76, 3) := by decide +kernel
theorem dX11_row_29 : decode cX11_row 29 = .ok (.ifCond .ne 9, 3) := by decide +kernel
theorem dX11_row_32 : decode cX11_row 32 = .ok (.aload_n 0, 1) := by decide +kernel
theorem dX11_row_33 : decode cX11_row 33 = .ok (.iconst 5, 1) := by decide +kernel
theorem dX11_row_34 : decode cX11_row 34 = .ok (.invokevirtual 56, 3) := by decide +kernel
theorem dX11_row_37 : decode cX11_row 37 = .ok (.ireturn, 1) := by decide +kernel
theorem dX11_row_38 : decode cX11_row 38 = .ok (.iload_n 2, 1) := by decide +kernel
theorem dX11_row_39 : decode cX11_row 39 = .ok (.ifCond .lt 12, 3) := by decide +kernel
theorem dX11_row_42 : decode cX11_row 42 = .ok (.aload_n 0, 1) := by decide +kernel
theorem dX11_row_43 : decode cX11_row 43 = .ok (.getfield 7, 3) := by decide +kernel
theorem dX11_row_46 : decode cX11_row 46 = .ok (.iload_n 1, 1) := by decide +kernel
theorem dX11_row_47 : decode cX11_row 47 = .ok (.iaload, 1) := by decide +kernel
theorem dX11_row_48 : decode cX11_row 48 = .ok (.ifCond .ne 17, 3) := by decide +kernel
theorem dX11_row_51 : decode cX11_row 51 = .ok (.aload_n 0, 1) := by decide +kernel
theorem dX11_row_52 : decode cX11_row 52 = .ok (.iload_n 2, 1) := by decide +kernel
theorem dX11_row_53 : decode cX11_row 53 = .ok (.ifCond .ge 7, 3) := by decide +kernel
theorem dX11_row_56 : decode cX11_row 56 = .ok (.iconst 2, 1) := by decide +kernel
theorem dX11_row_57 : decode cX11_row 57 = .ok (.goto 4, 3) := by decide +kernel
theorem dX11_row_60 : decode cX11_row 60 = .ok (.iconst 1, 1) := by decide +kernel
theorem dX11_row_61 : decode cX11_row 61 = .ok (.invokevirtual 56, 3) := by decide +kernel
theorem dX11_row_64 : decode cX11_row 64 = .ok (.ireturn, 1) := by decide +kernel
theorem dX11_row_65 : decode cX11_row 65 = .ok (.aload_n 0, 1) := by decide +kernel
theorem dX11_row_66 : decode cX11_row 66 = .ok (.aload_n 0, 1) := by decide +kernel
theorem dX11_row_67 : decode cX11_row 67 = .ok (.getfield 7, 3) := by decide +kernel
theorem dX11_row_70 : decode cX11_row 70 = .ok (.iload_n 1, 1) := by decide +kernel
theorem dX11_row_71 : decode cX11_row 71 = .ok (.iaload, 1) := by decide +kernel
theorem dX11_row_72 : decode cX11_row 72 = .ok (.iload_n 2, 1) := by decide +kernel
theorem dX11_row_73 : decode cX11_row 73 = .ok (.invokevirtual 72, 3) := by decide +kernel
theorem dX11_row_76 : decode cX11_row 76 = .ok (.iload_n 2, 1) := by decide +kernel
theorem dX11_row_77 : decode cX11_row 77 = .ok (.ireturn, 1) := by decide +kernel
theorem dX11_strip_0 : decode cX11_strip 0 = .ok (.iload_n 1, 1) := by decide +kernel
theorem dX11_strip_1 : decode cX11_strip 1 = .ok (.invokestatic 64, 3) := by decide +kernel
theorem dX11_strip_4 : decode cX11_strip 4 = .ok (.ifCond .ne 5, 3) := by decide +kernel
theorem dX11_strip_7 : decode cX11_strip 7 = .ok (.iconst (-1), 1) := by decide +kernel
theorem dX11_strip_8 : decode cX11_strip 8 = .ok (.ireturn, 1) := by decide +kernel
theorem dX11_strip_9 : decode cX11_strip 9 = .ok (.aload_n 0, 1) := by decide +kernel
theorem dX11_strip_10 : decode cX11_strip 10 = .ok (.iload_n 1, 1) := by decide +kernel
theorem dX11_strip_11 : decode cX11_strip 11 = .ok (.invokevirtual 82, 3) := by decide +kernel
theorem dX11_strip_14 : decode cX11_strip 14 = .ok (.istore_n 2, 1) := by decide +kernel
theorem dX11_strip_15 : decode cX11_strip 15 = .ok (.iload_n 2, 1) := by decide +kernel
theorem dX11_strip_16 : decode cX11_strip 16 = .ok (.ifCond .eq 9, 3) := by decide +kernel
theorem dX11_strip_19 : decode cX11_strip 19 = .ok (.aload_n 0, 1) := by decide +kernel
theorem dX11_strip_20 : decode cX11_strip 20 = .ok (.iload_n 2, 1) := by decide +kernel
theorem dX11_strip_21 : decode cX11_strip 21 = .ok (.invokevirtual 56, 3) := by decide +kernel
theorem dX11_strip_24 : decode cX11_strip 24 = .ok (.ireturn, 1) := by decide +kernel
theorem dX11_strip_25 : decode cX11_strip 25 = .ok (.aload_n 0, 1) := by decide +kernel
theorem dX11_strip_26 : decode cX11_strip 26 = .ok (.getfield 22, 3) := by decide +kernel
theorem dX11_strip_29 : decode cX11_strip 29 = .ok (.aload_n 0, 1) := by decide +kernel
theorem dX11_strip_30 : decode cX11_strip 30 = .ok (.getfield 7, 3) := by decide +kernel
theorem dX11_strip_33 : decode cX11_strip 33 = .ok (.iload_n 1, 1) := by decide +kernel
theorem dX11_strip_34 : decode cX11_strip 34 = .ok (.iaload, 1) := by decide +kernel
theorem dX11_strip_35 : decode cX11_strip 35 = .ok (.iaload, 1) := by decide +kernel
theorem dX11_strip_36 : decode cX11_strip 36 = .ok (.istore_n 3, 1) := by decide +kernel
theorem dX11_strip_37 : decode cX11_strip 37 = .ok (.aload_n 0, 1) := by decide +kernel
theorem dX11_strip_38 : decode cX11_strip 38 = .ok (.getfield 22, 3) := by decide +kernel
theorem dX11_strip_41 : decode cX11_strip 41 = .ok (.aload_n 0, 1) := by decide +kernel
theorem dX11_strip_42 : decode cX11_strip 42 = .ok (.getfield 7, 3) := by decide +kernel
theorem dX11_strip_45 : decode cX11_strip 45 = .ok (.iload_n 1, 1) := by decide +kernel
theorem dX11_strip_46 : decode cX11_strip 46 = .ok (.iaload, 1) := by decide +kernel
theorem dX11_strip_47 : decode cX11_strip 47 = .ok (.iconst (-1), 1) := by decide +kernel
theorem dX11_strip_48 : decode cX11_strip 48 = .ok (.iastore, 1) := by decide +kernel
theorem dX11_strip_49 : decode cX11_strip 49 = .ok (.iload_n 3, 1) := by decide +kernel
theorem dX11_strip_50 : decode cX11_strip 50 = .ok (.ireturn, 1) := by decide +kernel
theorem dX11_comb_0 : decode cX11_comb 0 = .ok (.iload_n 1, 1) := by decide +kernel
theorem dX11_comb_1 : decode cX11_comb 1 = .ok (.invokestatic 64, 3) := by decide +kernel
theorem dX11_comb_4 : decode cX11_comb 4 = .ok (.ifCond .eq 15, 3) := by decide +kernel
theorem dX11_comb_7 : decode cX11_comb 7 = .ok (.iload_n 2, 1) := by decide +kernel
theorem dX11_comb_8 : decode cX11_comb 8 = .ok (.bipush 12, 2) := by decide +kernel
theorem dX11_comb_10 : decode cX11_comb 10 = .ok (.if_icmp .gt 9, 3) := by decide +kernel
theorem dX11_comb_13 : decode cX11_comb 13 = .ok (.iload_n 3, 1) := by decide +kernel
theorem dX11_comb_14 : decode cX11_comb 14 = .ok (.bipush 12, 2) := by decide +kernel
theorem dX11_comb_16 : decode cX11_comb 16 = .ok (.if_icmp .le 5, 3) := by decide +kernel
theorem dX11_comb_19 : decode cX11_comb 19 = .ok (.iconst (-1), 1) := by decide +kernel
theorem dX11_comb_20 : decode cX11_comb 20 = .ok (.ireturn, 1) := by decide +kernel
theorem dX11_comb_21 : decode cX11_comb 21 = .ok (.aload_n 0, 1) := by decide +kernel
theorem dX11_comb_22 : decode cX11_comb 22 = .ok (.aload_n 0, 1) := by decide +kernel
theorem dX11_comb_23 : decode cX11_comb 23 = .ok (.getfield 7, 3) := by decide +kernel
theorem dX11_comb_26 : decode cX11_comb 26 = .ok (.iload_n 1, 1) := by decide +kernel
theorem dX11_comb_27 : decode cX11_comb 27 = .ok (.iaload, 1) := by decide +kernel
theorem dX11_comb_28 : decode cX11_comb 28 = .ok (.bipush 6, 2) := by decide +kernel
theorem dX11_comb_30 : decode cX11_comb 30 = .ok (.bipush 7, 2) := by decide +kernel
theorem dX11_comb_32 : decode cX11_comb 32 = .ok (.invokevirtual 76, 3) := by decide +kernel
theorem dX11_comb_35 : decode cX11_comb 35 = .ok (.ifCond .ne 9, 3) := by decide +kernel
theorem dX11_comb_38 : decode cX11_comb 38 = .ok (.aload_n 0, 1) := by decide +kernel
theorem dX11_comb_39 : decode cX11_comb 39 = .ok (.iconst 5, 1) := by decide +kernel
theorem dX11_comb_40 : decode cX11_comb 40 = .ok (.invokevirtual 56, 3) := by decide +kernel
theorem dX11_comb_43 : decode cX11_comb 43 = .ok (.ireturn, 1) := by decide +kernel
theorem dX11_comb_44 : decode cX11_comb 44 = .ok (.iload_n 2, 1) := by decide +kernel
theorem dX11_comb_45 : decode cX11_comb 45 = .ok (.ifCond .lt 16, 3) := by decide +kernel
theorem dX11_comb_48 : decode cX11_comb 48 = .ok (.iload_n 3, 1) := by decide +kernel
theorem dX11_comb_49 : decode cX11_comb 49 = .ok (.ifCond .lt 12, 3) := by decide +kernel
theorem dX11_comb_52 : decode cX11_comb 52 = .ok (.aload_n 0, 1) := by decide +kernel
theorem dX11_comb_53 : decode cX11_comb 53 = .ok (.getfield 7, 3) := by decide +kernel
theorem dX11_comb_56 : decode cX11_comb 56 = .ok (.iload_n 1, 1) := by decide +kernel
theorem dX11_comb_57 : decode cX11_comb 57 = .ok (.iaload, 1) := by decide +kernel
theorem dX11_comb_58 : decode cX11_comb 58 = .ok (.ifCond .ne 21, 3) := by decide +kernel
theorem dX11_comb_61 : decode cX11_comb 61 = .ok (.aload_n 0, 1) := by decide +kernel
theorem dX11_comb_62 : decode cX11_comb 62 = .ok (.iload_n 2, 1) := by decide +kernel
theorem dX11_comb_63 : decode cX11_comb 63 = .ok (.ifCond .lt 7, 3) := by decide +kernel
theorem dX11_comb_66 : decode cX11_comb 66 = .ok (.iload_n 3, 1) := by decide +kernel
theorem dX11_comb_67 : decode cX11_comb 67 = .ok (.ifCond .ge 7, 3) := by decide +kernel
theorem dX11_comb_70 : decode cX11_comb 70 = .ok (.iconst 2, 1) := by decide +kernel
theorem dX11_comb_71 : decode cX11_comb 71 = .ok (.goto 4, 3) := by decide +kernel
theorem dX11_comb_74 : decode cX11_comb 74 = .ok (.iconst 1, 1) := by decide +kernel
theorem dX11_comb_75 : decode cX11_comb 75 = .ok (.invokevirtual 56, 3) := by decide +kernel
theorem dX11_comb_78 : decode cX11_comb 78 = .ok (.ireturn, 1) := by decide +kernel
theorem dX11_comb_79 : decode cX11_comb 79 = .ok (.aload_n 0, 1) := by decide +kernel
theorem dX11_comb_80 : decode cX11_comb 80 = .ok (.getfield 7, 3) := by decide +kernel
theorem dX11_comb_83 : decode cX11_comb 83 = .ok (.iload_n 1, 1) := by decide +kernel
theorem dX11_comb_84 : decode cX11_comb 84 = .ok (.iaload, 1) := by decide +kernel
theorem dX11_comb_85 : decode cX11_comb 85 = .ok (.istore 4, 2) := by decide +kernel
theorem dX11_comb_87 : decode cX11_comb 87 = .ok (.aload_n 0, 1) := by decide +kernel
theorem dX11_comb_88 : decode cX11_comb 88 = .ok (.getfield 28, 3) := by decide +kernel
theorem dX11_comb_91 : decode cX11_comb 91 = .ok (.iload 4, 2) := by decide +kernel
theorem dX11_comb_93 : decode cX11_comb 93 = .ok (.iload_n 2, 1) := by decide +kernel
theorem dX11_comb_94 : decode cX11_comb 94 = .ok (.iastore, 1) := by decide +kernel
theorem dX11_comb_95 : decode cX11_comb 95 = .ok (.aload_n 0, 1) := by decide +kernel
theorem dX11_comb_96 : decode cX11_comb 96 = .ok (.getfield 31, 3) := by decide +kernel
theorem dX11_comb_99 : decode cX11_comb 99 = .ok (.iload 4, 2) := by decide +kernel
theorem dX11_comb_101 : decode cX11_comb 101 = .ok (.iload_n 3, 1) := by decide +kernel
theorem dX11_comb_102 : decode cX11_comb 102 = .ok (.iastore, 1) := by decide +kernel
theorem dX11_comb_103 : decode cX11_comb 103 = .ok (.iconst 0, 1) := by decide +kernel
theorem dX11_comb_104 : decode cX11_comb 104 = .ok (.istore 5, 2) := by decide +kernel
theorem dX11_comb_106 : decode cX11_comb 106 = .ok (.iload 5, 2) := by decide +kernel
theorem dX11_comb_108 : decode cX11_comb 108 = .ok (.sipush 144, 3) := by decide +kernel
theorem dX11_comb_111 : decode cX11_comb 111 = .ok (.if_icmp .ge 24, 3) := by decide +kernel
theorem dX11_comb_114 : decode cX11_comb 114 = .ok (.aload_n 0, 1) := by decide +kernel
theorem dX11_comb_115 : decode cX11_comb 115 = .ok (.getfield 35, 3) := by decide +kernel
theorem dX11_comb_118 : decode cX11_comb 118 = .ok (.sipush 144, 3) := by decide +kernel
theorem dX11_comb_121 : decode cX11_comb 121 = .ok (.iload 4, 2) := by decide +kernel
theorem dX11_comb_123 : decode cX11_comb 123 = .ok (.imul, 1) := by decide +kernel
theorem dX11_comb_124 : decode cX11_comb 124 = .ok (.iload 5, 2) := by decide +kernel
theorem dX11_comb_126 : decode cX11_comb 126 = .ok (.iadd, 1) := by decide +kernel
theorem dX11_comb_127 : decode cX11_comb 127 = .ok (.iconst 0, 1) := by decide +kernel
theorem dX11_comb_128 : decode cX11_comb 128 = .ok (.iastore, 1) := by decide +kernel
theorem dX11_comb_129 : decode cX11_comb 129 = .ok (.iinc 5 1, 3) := by decide +kernel
theorem dX11_comb_132 : decode cX11_comb 132 = .ok (.goto (-26), 3) := by decide +kernel
theorem dX11_comb_135 : decode cX11_comb 135 = .ok (.iload_n 2, 1) := by decide +kernel
theorem dX11_comb_136 : decode cX11_comb 136 = .ok (.ireturn, 1) := by decide +kernel
theorem dX11_put_0 : decode cX11_put 0 = .ok (.iload_n 1, 1) := by decide +kernel
theorem dX11_put_1 : decode cX11_put 1 = .ok (.invokestatic 64, 3) := by decide +kernel
theorem dX11_put_4 : decode cX11_put 4 = .ok (.ifCond .eq 10, 3) := by decide +kernel
theorem dX11_put_7 : decode cX11_put 7 = .ok (.iload_n 3, 1) := by decide +kernel
theorem dX11_put_8 : decode cX11_put 8 = .ok (.invokestatic 64, 3) := by decide +kernel
theorem dX11_put_11 : decode cX11_put 11 = .ok (.ifCond .ne 5, 3) := by decide +kernel
theorem dX11_put_14 : decode cX11_put 14 = .ok (.iconst (-1), 1) := by decide +kernel
theorem dX11_put_15 : decode cX11_put 15 = .ok (.ireturn, 1) := by decide +kernel
theorem dX11_put_16 : decode cX11_put 16 = .ok (.aload_n 0, 1) := by decide +kernel
theorem dX11_put_17 : decode cX11_put 17 = .ok (.getfield 7, 3) := by decide +kernel
theorem dX11_put_20 : decode cX11_put 20 = .ok (.iload_n 3, 1) := by decide +kernel
theorem dX11_put_21 : decode cX11_put 21 = .ok (.iaload, 1) := by decide +kernel
theorem dX11_put_22 : decode cX11_put 22 = .ok (.istore 4, 2) := by decide +kernel
theorem dX11_put_24 : decode cX11_put 24 = .ok (.aload_n 0, 1) := by decide +kernel
theorem dX11_put_25 : decode cX11_put 25 = .ok (.aload_n 0, 1) := by decide +kernel
theorem dX11_put_26 : decode cX11_put 26 = .ok (.getfield 7, 3) := by decide +kernel
theorem dX11_put_29 : decode cX11_put 29 = .ok (.iload_n 1, 1) := by decide +kernel
theorem dX11_put_30 : decode cX11_put 30 = .ok (.iaload, 1) := by decide +kernel
theorem dX11_put_31 : decode cX11_put 31 = .ok (.bipush 6, 2) := by decide +kernel
theorem dX11_put_33 : decode cX11_put 33 = .ok (.bipush 7, 2) := by decide +kernel
theorem dX11_put_35 : decode cX11_put 35 = .ok (.invokevirtual 76, 3) := by decide +kernel
theorem dX11_put_38 : decode cX11_put 38 = .ok (.ifCond .eq 14, 3) := by decide +kernel
theorem dX11_put_41 : decode cX11_put 41 = .ok (.aload_n 0, 1) := by decide +kernel
theorem dX11_put_42 : decode cX11_put 42 = .ok (.iload 4, 2) := by decide +kernel
theorem dX11_put_44 : decode cX11_put 44 = .ok (.iconst 0, 1) := by decide +kernel
theorem dX11_put_45 : decode cX11_put 45 = .ok (.iconst 1, 1) := by decide +kernel
theorem dX11_put_46 : decode cX11_put 46 = .ok (.invokevirtual 76, 3) := by decide +kernel
theorem dX11_put_49 : decode cX11_put 49 = .ok (.ifCond .ne 9, 3) := by decide +kernel
theorem dX11_put_52 : decode cX11_put 52 = .ok (.aload_n 0, 1) := by decide +kernel
theorem dX11_put_53 : decode cX11_put 53 = .ok (.iconst 5, 1) := by decide +kernel
theorem dX11_put_54 : decode cX11_put 54 = .ok (.invokevirtual 56, 3) := by decide +kernel
theorem dX11_put_57 : decode cX11_put 57 = .ok (.ireturn, 1) := by decide +kernel
theorem dX11_put_58 : decode cX11_put 58 = .ok (.aload_n 0, 1) := by decide +kernel
theorem dX11_put_59 : decode cX11_put 59 = .ok (.iload_n 1, 1) := by decide +kernel
theorem dX11_put_60 : decode cX11_put 60 = .ok (.iload_n 2, 1) := by decide +kernel
theorem dX11_put_61 : decode cX11_put 61 = .ok (.invokevirtual 85, 3) := by decide +kernel
theorem dX11_put_64 : decode cX11_put 64 = .ok (.istore 5, 2) := by decide +kernel
theorem dX11_put_66 : decode cX11_put 66 = .ok (.iload 5, 2) := by decide +kernel
theorem dX11_put_68 : decode cX11_put 68 = .ok (.ifCond .eq 10, 3) := by decide +kernel
theorem dX11_put_71 : decode cX11_put 71 = .ok (.aload_n 0, 1) := by decide +kernel
theorem dX11_put_72 : decode cX11_put 72 = .ok (.iload 5, 2) := by decide +kernel
theorem dX11_put_74 : decode cX11_put 74 = .ok (.invokevirtual 56, 3) := by decide +kernel
theorem dX11_put_77 : decode cX11_put 77 = .ok (.ireturn, 1) := by decide +kernel
theorem dX11_put_78 : decode cX11_put 78 = .ok (.aload_n 0, 1) := by decide +kernel
theorem dX11_put_79 : decode cX11_put 79 = .ok (.getfield 7, 3) := by decide +kernel
theorem dX11_put_82 : decode cX11_put 82 = .ok (.iload_n 1, 1) := by decide +kernel
theorem dX11_put_83 : decode cX11_put 83 = .ok (.iaload, 1) := by decide +kernel
theorem dX11_put_84 : decode cX11_put 84 = .ok (.istore 6, 2) := by decide +kernel
theorem dX11_put_86 : decode cX11_put 86 = .ok (.aload_n 0, 1) := by decide +kernel
theorem dX11_put_87 : decode cX11_put 87 = .ok (.getfield 13, 3) := by decide +kernel
theorem dX11_put_90 : decode cX11_put 90 = .ok (.iload 6, 2) := by decide +kernel
theorem dX11_put_92 : decode cX11_put 92 = .ok (.iaload, 1) := by decide +kernel
theorem dX11_put_93 : decode cX11_put 93 = .ok (.bipush 7, 2) := by decide +kernel
theorem dX11_put_95 : decode cX11_put 95 = .ok (.if_icmp .ne 20, 3) := by decide +kernel
theorem dX11_put_98 : decode cX11_put 98 = .ok (.aload_n 0, 1) := by decide +kernel
theorem dX11_put_99 : decode cX11_put 99 = .ok (.iload 4, 2) := by decide +kernel
theorem dX11_put_101 : decode cX11_put 101 = .ok (.iconst 1, 1) := by decide +kernel
theorem dX11_put_102 : decode cX11_put 102 = .ok (.iconst 1, 1) := by decide +kernel
theorem dX11_put_103 : decode cX11_put 103 = .ok (.invokevirtual 76, 3) := by decide +kernel
theorem dX11_put_106 : decode cX11_put 106 = .ok (.ifCond .ne 9, 3) := by decide +kernel
theorem dX11_put_109 : decode cX11_put 109 = .ok (.aload_n 0, 1) := by decide +kernel
theorem dX11_put_110 : decode cX11_put 110 = .ok (.iconst 4, 1) := by decide +kernel
theorem dX11_put_111 : decode cX11_put 111 = .ok (.invokevirtual 56, 3) := by decide +kernel
theorem dX11_put_114 : decode cX11_put 114 = .ok (.ireturn, 1) := by decide +kernel
theorem dX11_put_115 : decode cX11_put 115 = .ok (.aload_n 0, 1) := by decide +kernel
theorem dX11_put_116 : decode cX11_put 116 = .ok (.getfield 25, 3) := by decide +kernel
theorem dX11_put_119 : decode cX11_put 119 = .ok (.bipush 30, 2) := by decide +kernel
theorem dX11_put_121 : decode cX11_put 121 = .ok (.iload 6, 2) := by decide +kernel
theorem dX11_put_123 : decode cX11_put 123 = .ok (.imul, 1) := by decide +kernel
theorem dX11_put_124 : decode cX11_put 124 = .ok (.iload_n 2, 1) := by decide +kernel
theorem dX11_put_125 : decode cX11_put 125 = .ok (.iadd, 1) := by decide +kernel
theorem dX11_put_126 : decode cX11_put 126 = .ok (.iload 4, 2) := by decide +kernel
theorem dX11_put_128 : decode cX11_put 128 = .ok (.iastore, 1) := by decide +kernel
theorem dX11_put_129 : decode cX11_put 129 = .ok (.iload 4, 2) := by decide +kernel
theorem dX11_put_131 : decode cX11_put 131 = .ok (.ifCond .ne 7, 3) := by decide +kernel
theorem dX11_put_134 : decode cX11_put 134 = .ok (.iconst 0, 1) := by decide +kernel
theorem dX11_put_135 : decode cX11_put 135 = .ok (.goto 4, 3) := by decide +kernel
theorem dX11_put_138 : decode cX11_put 138 = .ok (.iconst 1, 1) := by decide +kernel
theorem dX11_put_139 : decode cX11_put 139 = .ok (.ireturn, 1) := by decide +kernel
theorem dX11_take_0 : decode cX11_take 0 = .ok (.iload_n 1, 1) := by decide +kernel
theorem dX11_take_1 : decode cX11_take 1 = .ok (.invokestatic 64, 3) := by decide +kernel
theorem dX11_take_4 : decode cX11_take 4 = .ok (.ifCond .eq 10, 3) := by decide +kernel
theorem dX11_take_7 : decode cX11_take 7 = .ok (.iload_n 3, 1) := by decide +kernel
theorem dX11_take_8 : decode cX11_take 8 = .ok (.invokestatic 64, 3) := by decide +kernel
theorem dX11_take_11 : decode cX11_take 11 = .ok (.ifCond .ne 5, 3) := by decide +kernel
theorem dX11_take_14 : decode cX11_take 14 = .ok (.iconst (-1), 1) := by decide +kernel
theorem dX11_take_15 : decode cX11_take 15 = .ok (.ireturn, 1) := by decide +kernel
theorem dX11_take_16 : decode cX11_take 16 = .ok (.aload_n 0, 1) := by decide +kernel
theorem dX11_take_17 : decode cX11_take 17 = .ok (.iload_n 1, 1) := by decide +kernel
theorem dX11_take_18 : decode cX11_take 18 = .ok (.iload_n 2, 1) := by decide +kernel
theorem dX11_take_19 : decode cX11_take 19 = .ok (.invokevirtual 85, 3) := by decide +kernel
theorem dX11_take_22 : decode cX11_take 22 = .ok (.istore 4, 2) := by decide +kernel
theorem dX11_take_24 : decode cX11_take 24 = .ok (.iload 4, 2) := by decide +kernel
theorem dX11_take_26 : decode cX11_take 26 = .ok (.ifCond .eq 10, 3) := by decide +kernel
theorem dX11_take_29 : decode cX11_take 29 = .ok (.aload_n 0, 1) := by decide +kernel
theorem dX11_take_30 : decode cX11_take 30 = .ok (.iload 4, 2) := by decide +kernel
theorem dX11_take_32 : decode cX11_take 32 = .ok (.invokevirtual 56, 3) := by decide +kernel
theorem dX11_take_35 : decode cX11_take 35 = .ok (.ireturn, 1) := by decide +kernel
theorem dX11_take_36 : decode cX11_take 36 = .ok (.bipush 30, 2) := by decide +kernel
theorem dX11_take_38 : decode cX11_take 38 = .ok (.aload_n 0, 1) := by decide +kernel
theorem dX11_take_39 : decode cX11_take 39 = .ok (.getfield 7, 3) := by decide +kernel
theorem dX11_take_42 : decode cX11_take 42 = .ok (.iload_n 1, 1) := by decide +kernel
theorem dX11_take_43 : decode cX11_take 43 = .ok (.iaload, 1) := by decide +kernel
theorem dX11_take_44 : decode cX11_take 44 = .ok (.imul, 1) := by decide +kernel
theorem dX11_take_45 : decode cX11_take 45 = .ok (.iload_n 2, 1) := by decide +kernel
theorem dX11_take_46 : decode cX11_take 46 = .ok (.iadd, 1) := by decide +kernel
theorem dX11_take_47 : decode cX11_take 47 = .ok (.istore 5, 2) := by decide +kernel
theorem dX11_take_49 : decode cX11_take 49 = .ok (.aload_n 0, 1) := by decide +kernel
theorem dX11_take_50 : decode cX11_take 50 = .ok (.getfield 25, 3) := by decide +kernel
theorem dX11_take_53 : decode cX11_take 53 = .ok (.iload 5, 2) := by decide +kernel
theorem dX11_take_55 : decode cX11_take 55 = .ok (.iaload, 1) := by decide +kernel
theorem dX11_take_56 : decode cX11_take 56 = .ok (.istore 6, 2) := by decide +kernel
theorem dX11_take_58 : decode cX11_take 58 = .ok (.aload_n 0, 1) := by decide +kernel
theorem dX11_take_59 : decode cX11_take 59 = .ok (.getfield 25, 3) := by decide +kernel
theorem dX11_take_62 : decode cX11_take 62 = .ok (.iload 5, 2) := by decide +kernel
theorem dX11_take_64 : decode cX11_take 64 = .ok (.iconst 0, 1) := by decide +kernel
theorem dX11_take_65 : decode cX11_take 65 = .ok (.iastore, 1) := by decide +kernel
theorem dX11_take_66 : decode cX11_take 66 = .ok (.aload_n 0, 1) := by decide +kernel
theorem dX11_take_67 : decode cX11_take 67 = .ok (.getfield 7, 3) := by decide +kernel
theorem dX11_take_70 : decode cX11_take 70 = .ok (.iload_n 3, 1) := by decide +kernel
theorem dX11_take_71 : decode cX11_take 71 = .ok (.iload 6, 2) := by decide +kernel
theorem dX11_take_73 : decode cX11_take 73 = .ok (.iastore, 1) := by decide +kernel
theorem dX11_take_74 : decode cX11_take 74 = .ok (.iload 6, 2) := by decide +kernel
theorem dX11_take_76 : decode cX11_take 76 = .ok (.ifCond .ne 7, 3) := by decide +kernel
theorem dX11_take_79 : decode cX11_take 79 = .ok (.iconst 0, 1) := by decide +kernel
theorem dX11_take_80 : decode cX11_take 80 = .ok (.goto 4, 3) := by decide +kernel
theorem dX11_take_83 : decode cX11_take 83 = .ok (.iconst 1, 1) := by decide +kernel
theorem dX11_take_84 : decode cX11_take 84 = .ok (.ireturn, 1) := by decide +kernel
theorem dX11_honey_0 : decode cX11_honey 0 = .ok (.iload_n 1, 1) := by decide +kernel
theorem dX11_honey_1 : decode cX11_honey 1 = .ok (.invokestatic 64, 3) := by decide +kernel
theorem dX11_honey_4 : decode cX11_honey 4 = .ok (.ifCond .ne 7, 3) := by decide +kernel
theorem dX11_honey_7 : decode cX11_honey 7 = .ok (.ldc2_w 88, 3) := by decide +kernel
theorem dX11_honey_10 : decode cX11_honey 10 = .ok (.lreturn, 1) := by decide +kernel
theorem dX11_honey_11 : decode cX11_honey 11 = .ok (.aload_n 0, 1) := by decide +kernel
theorem dX11_honey_12 : decode cX11_honey 12 = .ok (.iload_n 1, 1) := by decide +kernel
theorem dX11_honey_13 : decode cX11_honey 13 = .ok (.iload_n 2, 1) := by decide +kernel
theorem dX11_honey_14 : decode cX11_honey 14 = .ok (.invokevirtual 85, 3) := by decide +kernel
theorem dX11_honey_17 : decode cX11_honey 17 = .ok (.istore 4, 2) := by decide +kernel
theorem dX11_honey_19 : decode cX11_honey 19 = .ok (.iload 4, 2) := by decide +kernel
theorem dX11_honey_21 : decode cX11_honey 21 = .ok (.ifCond .ne 22, 3) := by decide +kernel
theorem dX11_honey_24 : decode cX11_honey 24 = .ok (.aload_n 0, 1) := by decide +kernel
theorem dX11_honey_25 : decode cX11_honey 25 = .ok (.getfield 25, 3) := by decide +kernel
theorem dX11_honey_28 : decode cX11_honey 28 = .ok (.bipush 30, 2) := by decide +kernel
theorem dX11_honey_30 : decode cX11_honey 30 = .ok (.aload_n 0, 1) := by decide +kernel
theorem dX11_honey_31 : decode cX11_honey 31 = .ok (.getfield 7, 3) := by decide +kernel
theorem dX11_honey_34 : decode cX11_honey 34 = .ok (.iload_n 1, 1) := by decide +kernel
theorem dX11_honey_35 : decode cX11_honey 35 = .ok (.iaload, 1) := by decide +kernel
theorem dX11_honey_36 : decode cX11_honey 36 = .ok (.imul, 1) := by decide +kernel
theorem dX11_honey_37 : decode cX11_honey 37 = .ok (.iload_n 2, 1) := by decide +kernel
theorem dX11_honey_38 : decode cX11_honey 38 = .ok (.iadd, 1) := by decide +kernel
theorem dX11_honey_39 : decode cX11_honey 39 = .ok (.iaload, 1) := by decide +kernel
theorem dX11_honey_40 : decode cX11_honey 40 = .ok (.goto 4, 3) := by decide +kernel
theorem dX11_honey_43 : decode cX11_honey 43 = .ok (.iconst 0, 1) := by decide +kernel
theorem dX11_honey_44 : decode cX11_honey 44 = .ok (.istore 5, 2) := by decide +kernel
theorem dX11_honey_46 : decode cX11_honey 46 = .ok (.iload 5, 2) := by decide +kernel
theorem dX11_honey_48 : decode cX11_honey 48 = .ok (.ifCond .ne 19, 3) := by decide +kernel
theorem dX11_honey_51 : decode cX11_honey 51 = .ok (.aload_n 0, 1) := by decide +kernel
theorem dX11_honey_52 : decode cX11_honey 52 = .ok (.iload 4, 2) := by decide +kernel
theorem dX11_honey_54 : decode cX11_honey 54 = .ok (.ifCond .ne 7, 3) := by decide +kernel
theorem dX11_honey_57 : decode cX11_honey 57 = .ok (.iconst 1, 1) := by decide +kernel
theorem dX11_honey_58 : decode cX11_honey 58 = .ok (.goto 5, 3) := by decide +kernel
theorem dX11_honey_61 : decode cX11_honey 61 = .ok (.iload 4, 2) := by decide +kernel
theorem dX11_honey_63 : decode cX11_honey 63 = .ok (.invokevirtual 90, 3) := by decide +kernel
theorem dX11_honey_66 : decode cX11_honey 66 = .ok (.lreturn, 1) := by decide +kernel
theorem dX11_honey_67 : decode cX11_honey 67 = .ok (.aload_n 0, 1) := by decide +kernel
theorem dX11_honey_68 : decode cX11_honey 68 = .ok (.getfield 16, 3) := by decide +kernel
theorem dX11_honey_71 : decode cX11_honey 71 = .ok (.iload 5, 2) := by decide +kernel
theorem dX11_honey_73 : decode cX11_honey 73 = .ok (.dup2, 1) := by decide +kernel
theorem dX11_honey_74 : decode cX11_honey 74 = .ok (.iaload, 1) := by decide +kernel
theorem dX11_honey_75 : decode cX11_honey 75 = .ok (.iload_n 3, 1) := by decide +kernel
theorem dX11_honey_76 : decode cX11_honey 76 = .ok (.iadd, 1) := by decide +kernel
theorem dX11_honey_77 : decode cX11_honey 77 = .ok (.iastore, 1) := by decide +kernel
theorem dX11_honey_78 : decode cX11_honey 78 = .ok (.aload_n 0, 1) := by decide +kernel
theorem dX11_honey_79 : decode cX11_honey 79 = .ok (.getfield 16, 3) := by decide +kernel
theorem dX11_honey_82 : decode cX11_honey 82 = .ok (.iload 5, 2) := by decide +kernel
theorem dX11_honey_84 : decode cX11_honey 84 = .ok (.iaload, 1) := by decide +kernel
theorem dX11_honey_85 : decode cX11_honey 85 = .ok (.i2l, 1) := by decide +kernel
theorem dX11_honey_86 : decode cX11_honey 86 = .ok (.lreturn, 1) := by decide +kernel
theorem dX11_lay_0 : decode cX11_lay 0 = .ok (.iload_n 1, 1) := by decide +kernel
theorem dX11_lay_1 : decode cX11_lay 1 = .ok (.invokestatic 64, 3) := by decide +kernel
theorem dX11_lay_4 : decode cX11_lay 4 = .ok (.ifCond .ne 7, 3) := by decide +kernel
theorem dX11_lay_7 : decode cX11_lay 7 = .ok (.ldc2_w 88, 3) := by decide +kernel
theorem dX11_lay_10 : decode cX11_lay 10 = .ok (.lreturn, 1) := by decide +kernel
theorem dX11_lay_11 : decode cX11_lay 11 = .ok (.aload_n 0, 1) := by decide +kernel
theorem dX11_lay_12 : decode cX11_lay 12 = .ok (.iload_n 1, 1) := by decide +kernel
theorem dX11_lay_13 : decode cX11_lay 13 = .ok (.iload_n 2, 1) := by decide +kernel
theorem dX11_lay_14 : decode cX11_lay 14 = .ok (.invokevirtual 85, 3) := by decide +kernel
theorem dX11_lay_17 : decode cX11_lay 17 = .ok (.istore 4, 2) := by decide +kernel
theorem dX11_lay_19 : decode cX11_lay 19 = .ok (.iload 4, 2) := by decide +kernel
theorem dX11_lay_21 : decode cX11_lay 21 = .ok (.ifCond .eq 10, 3) := by decide +kernel
theorem dX11_lay_24 : decode cX11_lay 24 = .ok (.aload_n 0, 1) := by decide +kernel
theorem dX11_lay_25 : decode cX11_lay 25 = .ok (.iload 4, 2) := by decide +kernel
theorem dX11_lay_27 : decode cX11_lay 27 = .ok (.invokevirtual 90, 3) := by decide +kernel
theorem dX11_lay_30 : decode cX11_lay 30 = .ok (.lreturn, 1) := by decide +kernel
theorem dX11_lay_31 : decode cX11_lay 31 = .ok (.aload_n 0, 1) := by decide +kernel
theorem dX11_lay_32 : decode cX11_lay 32 = .ok (.getfield 25, 3) := by decide +kernel
theorem dX11_lay_35 : decode cX11_lay 35 = .ok (.bipush 30, 2) := by decide +kernel
theorem dX11_lay_37 : decode cX11_lay 37 = .ok (.aload_n 0, 1) := by decide +kernel
theorem dX11_lay_38 : decode cX11_lay 38 = .ok (.getfield 7, 3) := by decide +kernel
theorem dX11_lay_41 : decode cX11_lay 41 = .ok (.iload_n 1, 1) := by decide +kernel
theorem dX11_lay_42 : decode cX11_lay 42 = .ok (.iaload, 1) := by decide +kernel
theorem dX11_lay_43 : decode cX11_lay 43 = .ok (.imul, 1) := by decide +kernel
theorem dX11_lay_44 : decode cX11_lay 44 = .ok (.iload_n 2, 1) := by decide +kernel
theorem dX11_lay_45 : decode cX11_lay 45 = .ok (.iadd, 1) := by decide +kernel
theorem dX11_lay_46 : decode cX11_lay 46 = .ok (.iaload, 1) := by decide +kernel
theorem dX11_lay_47 : decode cX11_lay 47 = .ok (.istore 5, 2) := by decide +kernel
theorem dX11_lay_49 : decode cX11_lay 49 = .ok (.aload_n 0, 1) := by decide +kernel
theorem dX11_lay_50 : decode cX11_lay 50 = .ok (.getfield 38, 3) := by decide +kernel
theorem dX11_lay_53 : decode cX11_lay 53 = .ok (.aload_n 0, 1) := by decide +kernel
theorem dX11_lay_54 : decode cX11_lay 54 = .ok (.getfield 7, 3) := by decide +kernel
theorem dX11_lay_57 : decode cX11_lay 57 = .ok (.iload_n 1, 1) := by decide +kernel
theorem dX11_lay_58 : decode cX11_lay 58 = .ok (.iaload, 1) := by decide +kernel
theorem dX11_lay_59 : decode cX11_lay 59 = .ok (.iaload, 1) := by decide +kernel
theorem dX11_lay_60 : decode cX11_lay 60 = .ok (.istore 6, 2) := by decide +kernel
theorem dX11_lay_62 : decode cX11_lay 62 = .ok (.aload_n 0, 1) := by decide +kernel
theorem dX11_lay_63 : decode cX11_lay 63 = .ok (.iload 5, 2) := by decide +kernel
theorem dX11_lay_65 : decode cX11_lay 65 = .ok (.iconst 1, 1) := by decide +kernel
theorem dX11_lay_66 : decode cX11_lay 66 = .ok (.iconst 1, 1) := by decide +kernel
theorem dX11_lay_67 : decode cX11_lay 67 = .ok (.invokevirtual 76, 3) := by decide +kernel
theorem dX11_lay_70 : decode cX11_lay 70 = .ok (.ifCond .ne 9, 3) := by decide +kernel
theorem dX11_lay_73 : decode cX11_lay 73 = .ok (.aload_n 0, 1) := by decide +kernel
theorem dX11_lay_74 : decode cX11_lay 74 = .ok (.iconst 5, 1) := by decide +kernel
theorem dX11_lay_75 : decode cX11_lay 75 = .ok (.invokevirtual 90, 3) := by decide +kernel
theorem dX11_lay_78 : decode cX11_lay 78 = .ok (.lreturn, 1) := by decide +kernel
theorem dX11_lay_79 : decode cX11_lay 79 = .ok (.iload 6, 2) := by decide +kernel
theorem dX11_lay_81 : decode cX11_lay 81 = .ok (.ifCond .eq 8, 3) := by decide +kernel
theorem dX11_lay_84 : decode cX11_lay 84 = .ok (.iload 5, 2) := by decide +kernel
theorem dX11_lay_86 : decode cX11_lay 86 = .ok (.ifCond .ne 9, 3) := by decide +kernel
theorem dX11_lay_89 : decode cX11_lay 89 = .ok (.aload_n 0, 1) := by decide +kernel
theorem dX11_lay_90 : decode cX11_lay 90 = .ok (.iconst 1, 1) := by decide +kernel
theorem dX11_lay_91 : decode cX11_lay 91 = .ok (.invokevirtual 90, 3) := by decide +kernel
theorem dX11_lay_94 : decode cX11_lay 94 = .ok (.lreturn, 1) := by decide +kernel
theorem dX11_lay_95 : decode cX11_lay 95 = .ok (.aload_n 0, 1) := by decide +kernel
theorem dX11_lay_96 : decode cX11_lay 96 = .ok (.getfield 19, 3) := by decide +kernel
theorem dX11_lay_99 : decode cX11_lay 99 = .ok (.iload 5, 2) := by decide +kernel
theorem dX11_lay_101 : decode cX11_lay 101 = .ok (.dup2, 1) := by decide +kernel
theorem dX11_lay_102 : decode cX11_lay 102 = .ok (.iaload, 1) := by decide +kernel
theorem dX11_lay_103 : decode cX11_lay 103 = .ok (.iload_n 3, 1) := by decide +kernel
theorem dX11_lay_104 : decode cX11_lay 104 = .ok (.aload_n 0, 1) := by decide +kernel
theorem dX11_lay_105 : decode cX11_lay 105 = .ok (.getfield 16, 3) := by decide +kernel
theorem dX11_lay_108 : decode cX11_lay 108 = .ok (.iload 6, 2) := by decide +kernel
theorem dX11_lay_110 : decode cX11_lay 110 = .ok (.iaload, 1) := by decide +kernel
theorem dX11_lay_111 : decode cX11_lay 111 = .ok (.imul, 1) := by decide +kernel
theorem dX11_lay_112 : decode cX11_lay 112 = .ok (.iadd, 1) := by decide +kernel
theorem dX11_lay_113 : decode cX11_lay 113 = .ok (.iastore, 1) := by decide +kernel
theorem dX11_lay_114 : decode cX11_lay 114 = .ok (.aload_n 0, 1) := by decide +kernel
theorem dX11_lay_115 : decode cX11_lay 115 = .ok (.getfield 19, 3) := by decide +kernel
theorem dX11_lay_118 : decode cX11_lay 118 = .ok (.iload 6, 2) := by decide +kernel
theorem dX11_lay_120 : decode cX11_lay 120 = .ok (.dup2, 1) := by decide +kernel
theorem dX11_lay_121 : decode cX11_lay 121 = .ok (.iaload, 1) := by decide +kernel
theorem dX11_lay_122 : decode cX11_lay 122 = .ok (.iconst 1, 1) := by decide +kernel
theorem dX11_lay_123 : decode cX11_lay 123 = .ok (.iadd, 1) := by decide +kernel
theorem dX11_lay_124 : decode cX11_lay 124 = .ok (.iastore, 1) := by decide +kernel
theorem dX11_lay_125 : decode cX11_lay 125 = .ok (.aload_n 0, 1) := by decide +kernel
theorem dX11_lay_126 : decode cX11_lay 126 = .ok (.getfield 19, 3) := by decide +kernel
theorem dX11_lay_129 : decode cX11_lay 129 = .ok (.iload 5, 2) := by decide +kernel
theorem dX11_lay_131 : decode cX11_lay 131 = .ok (.iaload, 1) := by decide +kernel
theorem dX11_lay_132 : decode cX11_lay 132 = .ok (.i2l, 1) := by decide +kernel
theorem dX11_lay_133 : decode cX11_lay 133 = .ok (.lreturn, 1) := by decide +kernel
theorem dX11_tended_0 : decode cX11_tended 0 = .ok (.aload_n 0, 1) := by decide +kernel
theorem dX11_tended_1 : decode cX11_tended 1 = .ok (.getfield 41, 3) := by decide +kernel
theorem dX11_tended_4 : decode cX11_tended 4 = .ok (.iload_n 1, 1) := by decide +kernel
theorem dX11_tended_5 : decode cX11_tended 5 = .ok (.iaload, 1) := by decide +kernel
theorem dX11_tended_6 : decode cX11_tended 6 = .ok (.istore_n 3, 1) := by decide +kernel
theorem dX11_tended_7 : decode cX11_tended 7 = .ok (.aload_n 0, 1) := by decide +kernel
theorem dX11_tended_8 : decode cX11_tended 8 = .ok (.getfield 13, 3) := by decide +kernel
theorem dX11_tended_11 : decode cX11_tended 11 = .ok (.iload_n 3, 1) := by decide +kernel
theorem dX11_tended_12 : decode cX11_tended 12 = .ok (.iaload, 1) := by decide +kernel
theorem dX11_tended_13 : decode cX11_tended 13 = .ok (.iconst 3, 1) := by decide +kernel
theorem dX11_tended_14 : decode cX11_tended 14 = .ok (.if_icmp .ne 20, 3) := by decide +kernel
theorem dX11_tended_17 : decode cX11_tended 17 = .ok (.aload_n 0, 1) := by decide +kernel
theorem dX11_tended_18 : decode cX11_tended 18 = .ok (.getfield 16, 3) := by decide +kernel
theorem dX11_tended_21 : decode cX11_tended 21 = .ok (.iload_n 3, 1) := by decide +kernel
theorem dX11_tended_22 : decode cX11_tended 22 = .ok (.dup2, 1) := by decide +kernel
theorem dX11_tended_23 : decode cX11_tended 23 = .ok (.iaload, 1) := by decide +kernel
theorem dX11_tended_24 : decode cX11_tended 24 = .ok (.iload_n 2, 1) := by decide +kernel
theorem dX11_tended_25 : decode cX11_tended 25 = .ok (.iadd, 1) := by decide +kernel
theorem dX11_tended_26 : decode cX11_tended 26 = .ok (.iastore, 1) := by decide +kernel
theorem dX11_tended_27 : decode cX11_tended 27 = .ok (.aload_n 0, 1) := by decide +kernel
theorem dX11_tended_28 : decode cX11_tended 28 = .ok (.getfield 16, 3) := by decide +kernel
theorem dX11_tended_31 : decode cX11_tended 31 = .ok (.iload_n 3, 1) := by decide +kernel
theorem dX11_tended_32 : decode cX11_tended 32 = .ok (.iaload, 1) := by decide +kernel
theorem dX11_tended_33 : decode cX11_tended 33 = .ok (.ireturn, 1) := by decide +kernel
theorem dX11_tended_34 : decode cX11_tended 34 = .ok (.iconst 0, 1) := by decide +kernel
theorem dX11_tended_35 : decode cX11_tended 35 = .ok (.istore 4, 2) := by decide +kernel
theorem dX11_tended_37 : decode cX11_tended 37 = .ok (.iconst 0, 1) := by decide +kernel
theorem dX11_tended_38 : decode cX11_tended 38 = .ok (.istore 5, 2) := by decide +kernel
theorem dX11_tended_40 : decode cX11_tended 40 = .ok (.iload 5, 2) := by decide +kernel
theorem dX11_tended_42 : decode cX11_tended 42 = .ok (.aload_n 0, 1) := by decide +kernel
theorem dX11_tended_43 : decode cX11_tended 43 = .ok (.getfield 22, 3) := by decide +kernel
theorem dX11_tended_46 : decode cX11_tended 46 = .ok (.iload_n 1, 1) := by decide +kernel
theorem dX11_tended_47 : decode cX11_tended 47 = .ok (.iaload, 1) := by decide +kernel
theorem dX11_tended_48 : decode cX11_tended 48 = .ok (.if_icmp .ge 58, 3) := by decide +kernel
theorem dX11_tended_51 : decode cX11_tended 51 = .ok (.aload_n 0, 1) := by decide +kernel
theorem dX11_tended_52 : decode cX11_tended 52 = .ok (.getfield 25, 3) := by decide +kernel
theorem dX11_tended_55 : decode cX11_tended 55 = .ok (.bipush 30, 2) := by decide +kernel
theorem dX11_tended_57 : decode cX11_tended 57 = .ok (.iload_n 1, 1) := by decide +kernel
theorem dX11_tended_58 : decode cX11_tended 58 = .ok (.imul, 1) := by decide +kernel
theorem dX11_tended_59 : decode cX11_tended 59 = .ok (.iload 5, 2) := by decide +kernel
theorem dX11_tended_61 : decode cX11_tended 61 = .ok (.iadd, 1) := by decide +kernel
theorem dX11_tended_62 : decode cX11_tended 62 = .ok (.iaload, 1) := by decide +kernel
theorem dX11_tended_63 : decode cX11_tended 63 = .ok (.istore 6, 2) := by decide +kernel
theorem dX11_tended_65 : decode cX11_tended 65 = .ok (.aload_n 0, 1) := by decide +kernel
theorem dX11_tended_66 : decode cX11_tended 66 = .ok (.getfield 16, 3) := by decide +kernel
theorem dX11_tended_69 : decode cX11_tended 69 = .ok (.iload 6, 2) := by decide +kernel
theorem dX11_tended_71 : decode cX11_tended 71 = .ok (.dup2, 1) := by decide +kernel
theorem dX11_tended_72 : decode cX11_tended 72 = .ok (.iaload, 1) := by decide +kernel
theorem dX11_tended_73 : decode cX11_tended 73 = .ok (.iload 6, 2) := by decide +kernel
theorem dX11_tended_75 : decode cX11_tended 75 = .ok (.ifCond .ne 7, 3) := by decide +kernel
theorem dX11_tended_78 : decode cX11_tended 78 = .ok (.iconst 0, 1) := by decide +kernel
theorem dX11_tended_79 : decode cX11_tended 79 = .ok (.goto 4, 3) := by decide +kernel
theorem dX11_tended_82 : decode cX11_tended 82 = .ok (.iload_n 2, 1) := by decide +kernel
theorem dX11_tended_83 : decode cX11_tended 83 = .ok (.iadd, 1) := by decide +kernel
theorem dX11_tended_84 : decode cX11_tended 84 = .ok (.iastore, 1) := by decide +kernel
theorem dX11_tended_85 : decode cX11_tended 85 = .ok (.iload 4, 2) := by decide +kernel
theorem dX11_tended_87 : decode cX11_tended 87 = .ok (.iload 6, 2) := by decide +kernel
theorem dX11_tended_89 : decode cX11_tended 89 = .ok (.ifCond .ne 7, 3) := by decide +kernel
theorem dX11_tended_92 : decode cX11_tended 92 = .ok (.iconst 0, 1) := by decide +kernel
theorem dX11_tended_93 : decode cX11_tended 93 = .ok (.goto 4, 3) := by decide +kernel
theorem dX11_tended_96 : decode cX11_tended 96 = .ok (.iconst 1, 1) := by decide +kernel
theorem dX11_tended_97 : decode cX11_tended 97 = .ok (.iadd, 1) := by decide +kernel
theorem dX11_tended_98 : decode cX11_tended 98 = .ok (.istore 4, 2) := by decide +kernel
theorem dX11_tended_100 : decode cX11_tended 100 = .ok (.iinc 5 1, 3) := by decide +kernel
theorem dX11_tended_103 : decode cX11_tended 103 = .ok (.goto (-63), 3) := by decide +kernel
theorem dX11_tended_106 : decode cX11_tended 106 = .ok (.iload 4, 2) := by decide +kernel
theorem dX11_tended_108 : decode cX11_tended 108 = .ok (.aload_n 0, 1) := by decide +kernel
theorem dX11_tended_109 : decode cX11_tended 109 = .ok (.getfield 16, 3) := by decide +kernel
theorem dX11_tended_112 : decode cX11_tended 112 = .ok (.iload_n 3, 1) := by decide +kernel
theorem dX11_tended_113 : decode cX11_tended 113 = .ok (.iaload, 1) := by decide +kernel
theorem dX11_tended_114 : decode cX11_tended 114 = .ok (.iadd, 1) := by decide +kernel
theorem dX11_tended_115 : decode cX11_tended 115 = .ok (.ireturn, 1) := by decide +kernel
theorem dX11_tend_0 : decode cX11_tend 0 = .ok (.iload_n 1, 1) := by decide +kernel
theorem dX11_tend_1 : decode cX11_tend 1 = .ok (.invokestatic 64, 3) := by decide +kernel
theorem dX11_tend_4 : decode cX11_tend 4 = .ok (.ifCond .ne 7, 3) := by decide +kernel
theorem dX11_tend_7 : decode cX11_tend 7 = .ok (.ldc2_w 88, 3) := by decide +kernel
theorem dX11_tend_10 : decode cX11_tend 10 = .ok (.lreturn, 1) := by decide +kernel
theorem dX11_tend_11 : decode cX11_tend 11 = .ok (.aload_n 0, 1) := by decide +kernel
theorem dX11_tend_12 : decode cX11_tend 12 = .ok (.iload_n 1, 1) := by decide +kernel
theorem dX11_tend_13 : decode cX11_tend 13 = .ok (.invokevirtual 79, 3) := by decide +kernel
theorem dX11_tend_16 : decode cX11_tend 16 = .ok (.istore 4, 2) := by decide +kernel
theorem dX11_tend_18 : decode cX11_tend 18 = .ok (.iload 4, 2) := by decide +kernel
theorem dX11_tend_20 : decode cX11_tend 20 = .ok (.ifCond .eq 10, 3) := by decide +kernel
theorem dX11_tend_23 : decode cX11_tend 23 = .ok (.aload_n 0, 1) := by decide +kernel
theorem dX11_tend_24 : decode cX11_tend 24 = .ok (.iload 4, 2) := by decide +kernel
theorem dX11_tend_26 : decode cX11_tend 26 = .ok (.invokevirtual 90, 3) := by decide +kernel
theorem dX11_tend_29 : decode cX11_tend 29 = .ok (.lreturn, 1) := by decide +kernel
theorem dX11_tend_30 : decode cX11_tend 30 = .ok (.aload_n 0, 1) := by decide +kernel
theorem dX11_tend_31 : decode cX11_tend 31 = .ok (.getfield 7, 3) := by decide +kernel
theorem dX11_tend_34 : decode cX11_tend 34 = .ok (.iload_n 1, 1) := by decide +kernel
theorem dX11_tend_35 : decode cX11_tend 35 = .ok (.iaload, 1) := by decide +kernel
theorem dX11_tend_36 : decode cX11_tend 36 = .ok (.istore 5, 2) := by decide +kernel
theorem dX11_tend_38 : decode cX11_tend 38 = .ok (.aload_n 0, 1) := by decide +kernel
theorem dX11_tend_39 : decode cX11_tend 39 = .ok (.getfield 41, 3) := by decide +kernel
theorem dX11_tend_42 : decode cX11_tend 42 = .ok (.iload 5, 2) := by decide +kernel
theorem dX11_tend_44 : decode cX11_tend 44 = .ok (.iaload, 1) := by decide +kernel
theorem dX11_tend_45 : decode cX11_tend 45 = .ok (.ifCond .eq 29, 3) := by decide +kernel
theorem dX11_tend_48 : decode cX11_tend 48 = .ok (.aload_n 0, 1) := by decide +kernel
theorem dX11_tend_49 : decode cX11_tend 49 = .ok (.getfield 13, 3) := by decide +kernel
theorem dX11_tend_52 : decode cX11_tend 52 = .ok (.aload_n 0, 1) := by decide +kernel
theorem dX11_tend_53 : decode cX11_tend 53 = .ok (.getfield 41, 3) := by decide +kernel
theorem dX11_tend_56 : decode cX11_tend 56 = .ok (.iload 5, 2) := by decide +kernel
theorem dX11_tend_58 : decode cX11_tend 58 = .ok (.iaload, 1) := by decide +kernel
theorem dX11_tend_59 : decode cX11_tend 59 = .ok (.iaload, 1) := by decide +kernel
theorem dX11_tend_60 : decode cX11_tend 60 = .ok (.iconst 4, 1) := by decide +kernel
theorem dX11_tend_61 : decode cX11_tend 61 = .ok (.if_icmp .ne 19, 3) := by decide +kernel
theorem dX11_tend_64 : decode cX11_tend 64 = .ok (.aload_n 0, 1) := by decide +kernel
theorem dX11_tend_65 : decode cX11_tend 65 = .ok (.getfield 22, 3) := by decide +kernel
theorem dX11_tend_68 : decode cX11_tend 68 = .ok (.iload 5, 2) := by decide +kernel
theorem dX11_tend_70 : decode cX11_tend 70 = .ok (.iaload, 1) := by decide +kernel
theorem dX11_tend_71 : decode cX11_tend 71 = .ok (.ifCond .ge 9, 3) := by decide +kernel
theorem dX11_tend_74 : decode cX11_tend 74 = .ok (.aload_n 0, 1) := by decide +kernel
theorem dX11_tend_75 : decode cX11_tend 75 = .ok (.iconst 1, 1) := by decide +kernel
theorem dX11_tend_76 : decode cX11_tend 76 = .ok (.invokevirtual 90, 3) := by decide +kernel
theorem dX11_tend_79 : decode cX11_tend 79 = .ok (.lreturn, 1) := by decide +kernel
theorem dX11_tend_80 : decode cX11_tend 80 = .ok (.aload_n 0, 1) := by decide +kernel
theorem dX11_tend_81 : decode cX11_tend 81 = .ok (.iload 5, 2) := by decide +kernel
theorem dX11_tend_83 : decode cX11_tend 83 = .ok (.iload_n 2, 1) := by decide +kernel
theorem dX11_tend_84 : decode cX11_tend 84 = .ok (.invokevirtual 94, 3) := by decide +kernel
theorem dX11_tend_87 : decode cX11_tend 87 = .ok (.istore 6, 2) := by decide +kernel
theorem dX11_tend_89 : decode cX11_tend 89 = .ok (.iload_n 3, 1) := by decide +kernel
theorem dX11_tend_90 : decode cX11_tend 90 = .ok (.ifCond .eq 15, 3) := by decide +kernel
theorem dX11_tend_93 : decode cX11_tend 93 = .ok (.aload_n 0, 1) := by decide +kernel
theorem dX11_tend_94 : decode cX11_tend 94 = .ok (.iload 5, 2) := by decide +kernel
theorem dX11_tend_96 : decode cX11_tend 96 = .ok (.iload 6, 2) := by decide +kernel
theorem dX11_tend_98 : decode cX11_tend 98 = .ok (.invokevirtual 94, 3) := by decide +kernel
theorem dX11_tend_101 : decode cX11_tend 101 = .ok (.i2l, 1) := by decide +kernel
theorem dX11_tend_102 : decode cX11_tend 102 = .ok (.goto 6, 3) := by decide +kernel
theorem dX11_tend_105 : decode cX11_tend 105 = .ok (.iload 6, 2) := by decide +kernel
theorem dX11_tend_107 : decode cX11_tend 107 = .ok (.i2l, 1) := by decide +kernel
theorem dX11_tend_108 : decode cX11_tend 108 = .ok (.lreturn, 1) := by decide +kernel
theorem dX11_cell_0 : decode cX11_cell 0 = .ok (.iload_n 1, 1) := by decide +kernel
theorem dX11_cell_1 : decode cX11_cell 1 = .ok (.invokestatic 64, 3) := by decide +kernel
theorem dX11_cell_4 : decode cX11_cell 4 = .ok (.ifCond .ne 7, 3) := by decide +kernel
theorem dX11_cell_7 : decode cX11_cell 7 = .ok (.ldc2_w 88, 3) := by decide +kernel
theorem dX11_cell_10 : decode cX11_cell 10 = .ok (.lreturn, 1) := by decide +kernel
theorem dX11_cell_11 : decode cX11_cell 11 = .ok (.aload_n 0, 1) := by decide +kernel
theorem dX11_cell_12 : decode cX11_cell 12 = .ok (.iload_n 1, 1) := by decide +kernel
theorem dX11_cell_13 : decode cX11_cell 13 = .ok (.invokevirtual 79, 3) := by decide +kernel
theorem dX11_cell_16 : decode cX11_cell 16 = .ok (.istore 5, 2) := by decide +kernel
theorem dX11_cell_18 : decode cX11_cell 18 = .ok (.iload 5, 2) := by decide +kernel
theorem dX11_cell_20 : decode cX11_cell 20 = .ok (.ifCond .eq 10, 3) := by decide +kernel
theorem dX11_cell_23 : decode cX11_cell 23 = .ok (.aload_n 0, 1) := by decide +kernel
theorem dX11_cell_24 : decode cX11_cell 24 = .ok (.iload 5, 2) := by decide +kernel
theorem dX11_cell_26 : decode cX11_cell 26 = .ok (.invokevirtual 90, 3) := by decide +kernel
theorem dX11_cell_29 : decode cX11_cell 29 = .ok (.lreturn, 1) := by decide +kernel
theorem dX11_cell_30 : decode cX11_cell 30 = .ok (.aload_n 0, 1) := by decide +kernel
theorem dX11_cell_31 : decode cX11_cell 31 = .ok (.getfield 7, 3) := by decide +kernel
theorem dX11_cell_34 : decode cX11_cell 34 = .ok (.iload_n 1, 1) := by decide +kernel
theorem dX11_cell_35 : decode cX11_cell 35 = .ok (.iaload, 1) := by decide +kernel
theorem dX11_cell_36 : decode cX11_cell 36 = .ok (.istore 6, 2) := by decide +kernel
theorem dX11_cell_38 : decode cX11_cell 38 = .ok (.aload_n 0, 1) := by decide +kernel
theorem dX11_cell_39 : decode cX11_cell 39 = .ok (.getfield 28, 3) := by decide +kernel
theorem dX11_cell_42 : decode cX11_cell 42 = .ok (.iload 6, 2) := by decide +kernel
theorem dX11_cell_44 : decode cX11_cell 44 = .ok (.iaload, 1) := by decide +kernel
theorem dX11_cell_45 : decode cX11_cell 45 = .ok (.ifCond .ge 9, 3) := by decide +kernel
theorem dX11_cell_48 : decode cX11_cell 48 = .ok (.aload_n 0, 1) := by decide +kernel
theorem dX11_cell_49 : decode cX11_cell 49 = .ok (.iconst 1, 1) := by decide +kernel
theorem dX11_cell_50 : decode cX11_cell 50 = .ok (.invokevirtual 90, 3) := by decide +kernel
theorem dX11_cell_53 : decode cX11_cell 53 = .ok (.lreturn, 1) := by decide +kernel
theorem dX11_cell_54 : decode cX11_cell 54 = .ok (.iload_n 2, 1) := by decide +kernel
theorem dX11_cell_55 : decode cX11_cell 55 = .ok (.iconst 0, 1) := by decide +kernel
theorem dX11_cell_56 : decode cX11_cell 56 = .ok (.aload_n 0, 1) := by decide +kernel
theorem dX11_cell_57 : decode cX11_cell 57 = .ok (.getfield 28, 3) := by decide +kernel
theorem dX11_cell_60 : decode cX11_cell 60 = .ok (.iload 6, 2) := by decide +kernel
theorem dX11_cell_62 : decode cX11_cell 62 = .ok (.iaload, 1) := by decide +kernel
theorem dX11_cell_63 : decode cX11_cell 63 = .ok (.iconst 1, 1) := by decide +kernel
theorem dX11_cell_64 : decode cX11_cell 64 = .ok (.isub, 1) := by decide +kernel
theorem dX11_cell_65 : decode cX11_cell 65 = .ok (.invokestatic 50, 3) := by decide +kernel
theorem dX11_cell_68 : decode cX11_cell 68 = .ok (.ifCond .eq 20, 3) := by decide +kernel
theorem dX11_cell_71 : decode cX11_cell 71 = .ok (.iload_n 3, 1) := by decide +kernel
theorem dX11_cell_72 : decode cX11_cell 72 = .ok (.iconst 0, 1) := by decide +kernel
theorem dX11_cell_73 : decode cX11_cell 73 = .ok (.aload_n 0, 1) := by decide +kernel
theorem dX11_cell_74 : decode cX11_cell 74 = .ok (.getfield 31, 3) := by decide +kernel
theorem dX11_cell_77 : decode cX11_cell 77 = .ok (.iload 6, 2) := by decide +kernel
theorem dX11_cell_79 : decode cX11_cell 79 = .ok (.iaload, 1) := by decide +kernel
theorem dX11_cell_80 : decode cX11_cell 80 = .ok (.iconst 1, 1) := by decide +kernel
theorem dX11_cell_81 : decode cX11_cell 81 = .ok (.isub, 1) := by decide +kernel
theorem dX11_cell_82 : decode cX11_cell 82 = .ok (.invokestatic 50, 3) := by decide +kernel
theorem dX11_cell_85 : decode cX11_cell 85 = .ok (.ifCond .ne 9, 3) := by decide +kernel
theorem dX11_cell_88 : decode cX11_cell 88 = .ok (.aload_n 0, 1) := by decide +kernel
theorem dX11_cell_89 : decode cX11_cell 89 = .ok (.iconst 3, 1) := by decide +kernel
theorem dX11_cell_90 : decode cX11_cell 90 = .ok (.invokevirtual 90, 3) := by decide +kernel
theorem dX11_cell_93 : decode cX11_cell 93 = .ok (.lreturn, 1) := by decide +kernel
theorem dX11_cell_94 : decode cX11_cell 94 = .ok (.sipush 144, 3) := by decide +kernel
theorem dX11_cell_97 : decode cX11_cell 97 = .ok (.iload 6, 2) := by decide +kernel
theorem dX11_cell_99 : decode cX11_cell 99 = .ok (.imul, 1) := by decide +kernel
theorem dX11_cell_100 : decode cX11_cell 100 = .ok (.bipush 12, 2) := by decide +kernel
theorem dX11_cell_102 : decode cX11_cell 102 = .ok (.iload_n 2, 1) := by decide +kernel
theorem dX11_cell_103 : decode cX11_cell 103 = .ok (.imul, 1) := by decide +kernel
theorem dX11_cell_104 : decode cX11_cell 104 = .ok (.iadd, 1) := by decide +kernel
theorem dX11_cell_105 : decode cX11_cell 105 = .ok (.iload_n 3, 1) := by decide +kernel
theorem dX11_cell_106 : decode cX11_cell 106 = .ok (.iadd, 1) := by decide +kernel
theorem dX11_cell_107 : decode cX11_cell 107 = .ok (.istore 7, 2) := by decide +kernel
theorem dX11_cell_109 : decode cX11_cell 109 = .ok (.aload_n 0, 1) := by decide +kernel
theorem dX11_cell_110 : decode cX11_cell 110 = .ok (.getfield 35, 3) := by decide +kernel
theorem dX11_cell_113 : decode cX11_cell 113 = .ok (.iload 7, 2) := by decide +kernel
theorem dX11_cell_115 : decode cX11_cell 115 = .ok (.iaload, 1) := by decide +kernel
theorem dX11_cell_116 : decode cX11_cell 116 = .ok (.istore 8, 2) := by decide +kernel
theorem dX11_cell_118 : decode cX11_cell 118 = .ok (.aload_n 0, 1) := by decide +kernel
theorem dX11_cell_119 : decode cX11_cell 119 = .ok (.getfield 35, 3) := by decide +kernel
theorem dX11_cell_122 : decode cX11_cell 122 = .ok (.iload 7, 2) := by decide +kernel
theorem dX11_cell_124 : decode cX11_cell 124 = .ok (.iload 4, 2) := by decide +kernel
theorem dX11_cell_126 : decode cX11_cell 126 = .ok (.iastore, 1) := by decide +kernel
theorem dX11_cell_127 : decode cX11_cell 127 = .ok (.iload 8, 2) := by decide +kernel
theorem dX11_cell_129 : decode cX11_cell 129 = .ok (.i2l, 1) := by decide +kernel
theorem dX11_cell_130 : decode cX11_cell 130 = .ok (.lreturn, 1) := by decide +kernel
theorem dX11_harvest_0 : decode cX11_harvest 0 = .ok (.iload_n 1, 1) := by decide +kernel
theorem dX11_harvest_1 : decode cX11_harvest 1 = .ok (.invokestatic 64, 3) := by decide +kernel
theorem dX11_harvest_4 : decode cX11_harvest 4 = .ok (.ifCond .eq 8, 3) := by decide +kernel
theorem dX11_harvest_7 : decode cX11_harvest 7 = .ok (.iload_n 2, 1) := by decide +kernel
theorem dX11_harvest_8 : decode cX11_harvest 8 = .ok (.iconst 1, 1) := by decide +kernel
theorem dX11_harvest_9 : decode cX11_harvest 9 = .ok (.if_icmp .ge 7, 3) := by decide +kernel
theorem dX11_harvest_12 : decode cX11_harvest 12 = .ok (.ldc2_w 88, 3) := by decide +kernel
theorem dX11_harvest_15 : decode cX11_harvest 15 = .ok (.lreturn, 1) := by decide +kernel
theorem dX11_harvest_16 : decode cX11_harvest 16 = .ok (.aload_n 0, 1) := by decide +kernel
theorem dX11_harvest_17 : decode cX11_harvest 17 = .ok (.iload_n 1, 1) := by decide +kernel
theorem dX11_harvest_18 : decode cX11_harvest 18 = .ok (.invokevirtual 82, 3) := by decide +kernel
theorem dX11_harvest_21 : decode cX11_harvest 21 = .ok (.istore_n 3, 1) := by decide +kernel
theorem dX11_harvest_22 : decode cX11_harvest 22 = .ok (.iload_n 3, 1) := by decide +kernel
theorem dX11_harvest_23 : decode cX11_harvest 23 = .ok (.ifCond .eq 9, 3) := by decide +kernel
theorem dX11_harvest_26 : decode cX11_harvest 26 = .ok (.aload_n 0, 1) := by decide +kernel
theorem dX11_harvest_27 : decode cX11_harvest 27 = .ok (.iload_n 3, 1) := by decide +kernel
theorem dX11_harvest_28 : decode cX11_harvest 28 = .ok (.invokevirtual 90, 3) := by decide +kernel
theorem dX11_harvest_31 : decode cX11_harvest 31 = .ok (.lreturn, 1) := by decide +kernel
theorem dX11_harvest_32 : decode cX11_harvest 32 = .ok (.aload_n 0, 1) := by decide +kernel
theorem dX11_harvest_33 : decode cX11_harvest 33 = .ok (.getfield 7, 3) := by decide +kernel
theorem dX11_harvest_36 : decode cX11_harvest 36 = .ok (.iload_n 1, 1) := by decide +kernel
theorem dX11_harvest_37 : decode cX11_harvest 37 = .ok (.iaload, 1) := by decide +kernel
theorem dX11_harvest_38 : decode cX11_harvest 38 = .ok (.istore 4, 2) := by decide +kernel
theorem dX11_harvest_40 : decode cX11_harvest 40 = .ok (.lconst 0, 1) := by decide +kernel
theorem dX11_harvest_41 : decode cX11_harvest 41 = .ok (.lstore 5, 2) := by decide +kernel
theorem dX11_harvest_43 : decode cX11_harvest 43 = .ok (.iconst 0, 1) := by decide +kernel
theorem dX11_harvest_44 : decode cX11_harvest 44 = .ok (.istore 7, 2) := by decide +kernel
theorem dX11_harvest_46 : decode cX11_harvest 46 = .ok (.iload 7, 2) := by decide +kernel
theorem dX11_harvest_48 : decode cX11_harvest 48 = .ok (.aload_n 0, 1) := by decide +kernel
theorem dX11_harvest_49 : decode cX11_harvest 49 = .ok (.getfield 22, 3) := by decide +kernel
theorem dX11_harvest_52 : decode cX11_harvest 52 = .ok (.iload 4, 2) := by decide +kernel
theorem dX11_harvest_54 : decode cX11_harvest 54 = .ok (.iaload, 1) := by decide +kernel
theorem dX11_harvest_55 : decode cX11_harvest 55 = .ok (.if_icmp .ge 58, 3) := by decide +kernel
theorem dX11_harvest_58 : decode cX11_harvest 58 = .ok (.aload_n 0, 1) := by decide +kernel
theorem dX11_harvest_59 : decode cX11_harvest 59 = .ok (.getfield 25, 3) := by decide +kernel
theorem dX11_harvest_62 : decode cX11_harvest 62 = .ok (.bipush 30, 2) := by decide +kernel
theorem dX11_harvest_64 : decode cX11_harvest 64 = .ok (.iload 4, 2) := by decide +kernel
theorem dX11_harvest_66 : decode cX11_harvest 66 = .ok (.imul, 1) := by decide +kernel
theorem dX11_harvest_67 : decode cX11_harvest 67 = .ok (.iload 7, 2) := by decide +kernel
theorem dX11_harvest_69 : decode cX11_harvest 69 = .ok (.iadd, 1) := by decide +kernel
theorem dX11_harvest_70 : decode cX11_harvest 70 = .ok (.iaload, 1) := by decide +kernel
theorem dX11_harvest_71 : decode cX11_harvest 71 = .ok (.istore 8, 2) := by decide +kernel
theorem dX11_harvest_73 : decode cX11_harvest 73 = .ok (.iload 8, 2) := by decide +kernel
theorem dX11_harvest_75 : decode cX11_harvest 75 = .ok (.ifCond .eq 32, 3) := by decide +kernel
theorem dX11_harvest_78 : decode cX11_harvest 78 = .ok (.aload_n 0, 1) := by decide +kernel
theorem dX11_harvest_79 : decode cX11_harvest 79 = .ok (.getfield 16, 3) := by decide +kernel
theorem dX11_harvest_82 : decode cX11_harvest 82 = .ok (.iload 8, 2) := by decide +kernel
theorem dX11_harvest_84 : decode cX11_harvest 84 = .ok (.iaload, 1) := by decide +kernel
theorem dX11_harvest_85 : decode cX11_harvest 85 = .ok (.iload_n 2, 1) := by decide +kernel
theorem dX11_harvest_86 : decode cX11_harvest 86 = .ok (.if_icmp .lt 21, 3) := by decide +kernel
theorem dX11_harvest_89 : decode cX11_harvest 89 = .ok (.aload_n 0, 1) := by decide +kernel
theorem dX11_harvest_90 : decode cX11_harvest 90 = .ok (.getfield 16, 3) := by decide +kernel
theorem dX11_harvest_93 : decode cX11_harvest 93 = .ok (.iload 8, 2) := by decide +kernel
theorem dX11_harvest_95 : decode cX11_harvest 95 = .ok (.dup2, 1) := by decide +kernel
theorem dX11_harvest_96 : decode cX11_harvest 96 = .ok (.iaload, 1) := by decide +kernel
theorem dX11_harvest_97 : decode cX11_harvest 97 = .ok (.iload_n 2, 1) := by decide +kernel
theorem dX11_harvest_98 : decode cX11_harvest 98 = .ok (.isub, 1) := by decide +kernel
theorem dX11_harvest_99 : decode cX11_harvest 99 = .ok (.iastore, 1) := by decide +kernel
theorem dX11_harvest_100 : decode cX11_harvest 100 = .ok (.lload 5, 2) := by decide +kernel
theorem dX11_harvest_102 : decode cX11_harvest 102 = .ok (.iload_n 2, 1) := by decide +kernel
theorem dX11_harvest_103 : decode cX11_harvest 103 = .ok (.i2l, 1) := by decide +kernel
theorem dX11_harvest_104 : decode cX11_harvest 104 = .ok (.ladd, 1) := by decide +kernel
theorem dX11_harvest_105 : decode cX11_harvest 105 = .ok (.lstore 5, 2) := by decide +kernel
theorem dX11_harvest_107 : decode cX11_harvest 107 = .ok (.iinc 7 1, 3) := by decide +kernel
theorem dX11_harvest_110 : decode cX11_harvest 110 = .ok (.goto (-64), 3) := by decide +kernel
theorem dX11_harvest_113 : decode cX11_harvest 113 = .ok (.lload 5, 2) := by decide +kernel
theorem dX11_harvest_115 : decode cX11_harvest 115 = .ok (.lreturn, 1) := by decide +kernel
theorem dX11_sound_0 : decode cX11_sound 0 = .ok (.iload_n 1, 1) := by decide +kernel
theorem dX11_sound_1 : decode cX11_sound 1 = .ok (.invokestatic 64, 3) := by decide +kernel
theorem dX11_sound_4 : decode cX11_sound 4 = .ok (.ifCond .ne 5, 3) := by decide +kernel
theorem dX11_sound_7 : decode cX11_sound 7 = .ok (.iconst (-1), 1) := by decide +kernel
theorem dX11_sound_8 : decode cX11_sound 8 = .ok (.ireturn, 1) := by decide +kernel
theorem dX11_sound_9 : decode cX11_sound 9 = .ok (.aload_n 0, 1) := by decide +kernel
theorem dX11_sound_10 : decode cX11_sound 10 = .ok (.iload_n 1, 1) := by decide +kernel
theorem dX11_sound_11 : decode cX11_sound 11 = .ok (.invokevirtual 79, 3) := by decide +kernel
theorem dX11_sound_14 : decode cX11_sound 14 = .ok (.istore_n 2, 1) := by decide +kernel
theorem dX11_sound_15 : decode cX11_sound 15 = .ok (.iload_n 2, 1) := by decide +kernel
theorem dX11_sound_16 : decode cX11_sound 16 = .ok (.ifCond .eq 9, 3) := by decide +kernel
theorem dX11_sound_19 : decode cX11_sound 19 = .ok (.aload_n 0, 1) := by decide +kernel
theorem dX11_sound_20 : decode cX11_sound 20 = .ok (.iload_n 2, 1) := by decide +kernel
theorem dX11_sound_21 : decode cX11_sound 21 = .ok (.invokevirtual 56, 3) := by decide +kernel
theorem dX11_sound_24 : decode cX11_sound 24 = .ok (.ireturn, 1) := by decide +kernel
theorem dX11_sound_25 : decode cX11_sound 25 = .ok (.aload_n 0, 1) := by decide +kernel
theorem dX11_sound_26 : decode cX11_sound 26 = .ok (.getfield 44, 3) := by decide +kernel
theorem dX11_sound_29 : decode cX11_sound 29 = .ok (.aload_n 0, 1) := by decide +kernel
theorem dX11_sound_30 : decode cX11_sound 30 = .ok (.getfield 7, 3) := by decide +kernel
theorem dX11_sound_33 : decode cX11_sound 33 = .ok (.iload_n 1, 1) := by decide +kernel
theorem dX11_sound_34 : decode cX11_sound 34 = .ok (.iaload, 1) := by decide +kernel
theorem dX11_sound_35 : decode cX11_sound 35 = .ok (.iaload, 1) := by decide +kernel
theorem dX11_sound_36 : decode cX11_sound 36 = .ok (.istore_n 3, 1) := by decide +kernel
theorem dX11_sound_37 : decode cX11_sound 37 = .ok (.iload_n 3, 1) := by decide +kernel
theorem dX11_sound_38 : decode cX11_sound 38 = .ok (.ifCond .ne 9, 3) := by decide +kernel
theorem dX11_sound_41 : decode cX11_sound 41 = .ok (.aload_n 0, 1) := by decide +kernel
theorem dX11_sound_42 : decode cX11_sound 42 = .ok (.iconst 1, 1) := by decide +kernel
theorem dX11_sound_43 : decode cX11_sound 43 = .ok (.invokevirtual 56, 3) := by decide +kernel
theorem dX11_sound_46 : decode cX11_sound 46 = .ok (.ireturn, 1) := by decide +kernel
theorem dX11_sound_47 : decode cX11_sound 47 = .ok (.aload_n 0, 1) := by decide +kernel
theorem dX11_sound_48 : decode cX11_sound 48 = .ok (.aload_n 0, 1) := by decide +kernel
theorem dX11_sound_49 : decode cX11_sound 49 = .ok (.getfield 16, 3) := by decide +kernel
theorem dX11_sound_52 : decode cX11_sound 52 = .ok (.iload_n 3, 1) := by decide +kernel
theorem dX11_sound_53 : decode cX11_sound 53 = .ok (.iaload, 1) := by decide +kernel
theorem dX11_sound_54 : decode cX11_sound 54 = .ok (.putfield 97, 3) := by decide +kernel
theorem dX11_sound_57 : decode cX11_sound 57 = .ok (.aload_n 0, 1) := by decide +kernel
theorem dX11_sound_58 : decode cX11_sound 58 = .ok (.bipush 6, 2) := by decide +kernel
theorem dX11_sound_60 : decode cX11_sound 60 = .ok (.invokevirtual 56, 3) := by decide +kernel
theorem dX11_sound_63 : decode cX11_sound 63 = .ok (.ireturn, 1) := by decide +kernel
theorem dX11_sort_0 : decode cX11_sort 0 = .ok (.iload_n 1, 1) := by decide +kernel
theorem dX11_sort_1 : decode cX11_sort 1 = .ok (.invokestatic 64, 3) := by decide +kernel
theorem dX11_sort_4 : decode cX11_sort 4 = .ok (.ifCond .ne 7, 3) := by decide +kernel
theorem dX11_sort_7 : decode cX11_sort 7 = .ok (.iconst (-1), 1) := by decide +kernel
theorem dX11_sort_8 : decode cX11_sort 8 = .ok (.goto 28, 3) := by decide +kernel
theorem dX11_sort_11 : decode cX11_sort 11 = .ok (.aload_n 0, 1) := by decide +kernel
theorem dX11_sort_12 : decode cX11_sort 12 = .ok (.getfield 7, 3) := by decide +kernel
theorem dX11_sort_15 : decode cX11_sort 15 = .ok (.iload_n 1, 1) := by decide +kernel
theorem dX11_sort_16 : decode cX11_sort 16 = .ok (.iaload, 1) := by decide +kernel
theorem dX11_sort_17 : decode cX11_sort 17 = .ok (.ifCond .ne 8, 3) := by decide +kernel
theorem dX11_sort_20 : decode cX11_sort 20 = .ok (.bipush (-2), 2) := by decide +kernel
theorem dX11_sort_22 : decode cX11_sort 22 = .ok (.goto 14, 3) := by decide +kernel
theorem dX11_sort_25 : decode cX11_sort 25 = .ok (.aload_n 0, 1) := by decide +kernel
theorem dX11_sort_26 : decode cX11_sort 26 = .ok (.getfield 13, 3) := by decide +kernel
theorem dX11_sort_29 : decode cX11_sort 29 = .ok (.aload_n 0, 1) := by decide +kernel
theorem dX11_sort_30 : decode cX11_sort 30 = .ok (.getfield 7, 3) := by decide +kernel
theorem dX11_sort_33 : decode cX11_sort 33 = .ok (.iload_n 1, 1) := by decide +kernel
theorem dX11_sort_34 : decode cX11_sort 34 = .ok (.iaload, 1) := by decide +kernel
theorem dX11_sort_35 : decode cX11_sort 35 = .ok (.iaload, 1) := by decide +kernel
theorem dX11_sort_36 : decode cX11_sort 36 = .ok (.ireturn, 1) := by decide +kernel
theorem dX11_told_0 : decode cX11_told 0 = .ok (.iload_n 1, 1) := by decide +kernel
theorem dX11_told_1 : decode cX11_told 1 = .ok (.invokestatic 64, 3) := by decide +kernel
theorem dX11_told_4 : decode cX11_told 4 = .ok (.ifCond .eq 13, 3) := by decide +kernel
theorem dX11_told_7 : decode cX11_told 7 = .ok (.iload_n 2, 1) := by decide +kernel
theorem dX11_told_8 : decode cX11_told 8 = .ok (.iconst 0, 1) := by decide +kernel
theorem dX11_told_9 : decode cX11_told 9 = .ok (.bipush 7, 2) := by decide +kernel
theorem dX11_told_11 : decode cX11_told 11 = .ok (.invokestatic 50, 3) := by decide +kernel
theorem dX11_told_14 : decode cX11_told 14 = .ok (.ifCond .ne 7, 3) := by decide +kernel
theorem dX11_told_17 : decode cX11_told 17 = .ok (.ldc2_w 88, 3) := by decide +kernel
theorem dX11_told_20 : decode cX11_told 20 = .ok (.lreturn, 1) := by decide +kernel
theorem dX11_told_21 : decode cX11_told 21 = .ok (.aload_n 0, 1) := by decide +kernel
theorem dX11_told_22 : decode cX11_told 22 = .ok (.getfield 7, 3) := by decide +kernel
theorem dX11_told_25 : decode cX11_told 25 = .ok (.iload_n 1, 1) := by decide +kernel
theorem dX11_told_26 : decode cX11_told 26 = .ok (.iaload, 1) := by decide +kernel
theorem dX11_told_27 : decode cX11_told 27 = .ok (.istore_n 3, 1) := by decide +kernel
theorem dX11_told_28 : decode cX11_told 28 = .ok (.iload_n 2, 1) := by decide +kernel
theorem dX11_told_29 : decode cX11_told 29 = .ok (.iconst 2, 1) := by decide +kernel
theorem dX11_told_30 : decode cX11_told 30 = .ok (.if_icmp .ge 7, 3) := by decide +kernel
theorem dX11_told_33 : decode cX11_told 33 = .ok (.iload_n 2, 1) := by decide +kernel
theorem dX11_told_34 : decode cX11_told 34 = .ok (.goto 33, 3) := by decide +kernel
theorem dX11_told_37 : decode cX11_told 37 = .ok (.iload_n 2, 1) := by decide +kernel
theorem dX11_told_38 : decode cX11_told 38 = .ok (.iconst 4, 1) := by decide +kernel
theorem dX11_told_39 : decode cX11_told 39 = .ok (.if_icmp .ge 7, 3) := by decide +kernel
theorem dX11_told_42 : decode cX11_told 42 = .ok (.iconst 2, 1) := by decide +kernel
theorem dX11_told_43 : decode cX11_told 43 = .ok (.goto 24, 3) := by decide +kernel
theorem dX11_told_46 : decode cX11_told 46 = .ok (.iload_n 2, 1) := by decide +kernel
theorem dX11_told_47 : decode cX11_told 47 = .ok (.bipush 6, 2) := by decide +kernel
theorem dX11_told_49 : decode cX11_told 49 = .ok (.if_icmp .ge 16, 3) := by decide +kernel
theorem dX11_told_52 : decode cX11_told 52 = .ok (.iload_n 2, 1) := by decide +kernel
theorem dX11_told_53 : decode cX11_told 53 = .ok (.iconst 4, 1) := by decide +kernel
theorem dX11_told_54 : decode cX11_told 54 = .ok (.if_icmp .ne 7, 3) := by decide +kernel
theorem dX11_told_57 : decode cX11_told 57 = .ok (.iconst 3, 1) := by decide +kernel
theorem dX11_told_58 : decode cX11_told 58 = .ok (.goto 9, 3) := by decide +kernel
theorem dX11_told_61 : decode cX11_told 61 = .ok (.iconst 5, 1) := by decide +kernel
theorem dX11_told_62 : decode cX11_told 62 = .ok (.goto 5, 3) := by decide +kernel
theorem dX11_told_65 : decode cX11_told 65 = .ok (.bipush 6, 2) := by decide +kernel
theorem dX11_told_67 : decode cX11_told 67 = .ok (.istore 4, 2) := by decide +kernel
theorem dX11_told_69 : decode cX11_told 69 = .ok (.iload_n 2, 1) := by decide +kernel
theorem dX11_told_70 : decode cX11_told 70 = .ok (.iconst 2, 1) := by decide +kernel
theorem dX11_told_71 : decode cX11_told 71 = .ok (.if_icmp .ge 7, 3) := by decide +kernel
theorem dX11_told_74 : decode cX11_told 74 = .ok (.iconst 1, 1) := by decide +kernel
theorem dX11_told_75 : decode cX11_told 75 = .ok (.goto 33, 3) := by decide +kernel
theorem dX11_told_78 : decode cX11_told 78 = .ok (.iload_n 2, 1) := by decide +kernel
theorem dX11_told_79 : decode cX11_told 79 = .ok (.iconst 4, 1) := by decide +kernel
theorem dX11_told_80 : decode cX11_told 80 = .ok (.if_icmp .ge 7, 3) := by decide +kernel
theorem dX11_told_83 : decode cX11_told 83 = .ok (.iconst 2, 1) := by decide +kernel
theorem dX11_told_84 : decode cX11_told 84 = .ok (.goto 24, 3) := by decide +kernel
theorem dX11_told_87 : decode cX11_told 87 = .ok (.iload_n 2, 1) := by decide +kernel
theorem dX11_told_88 : decode cX11_told 88 = .ok (.bipush 6, 2) := by decide +kernel
theorem dX11_told_90 : decode cX11_told 90 = .ok (.if_icmp .ge 16, 3) := by decide +kernel
theorem dX11_told_93 : decode cX11_told 93 = .ok (.iload_n 2, 1) := by decide +kernel
theorem dX11_told_94 : decode cX11_told 94 = .ok (.iconst 4, 1) := by decide +kernel
theorem dX11_told_95 : decode cX11_told 95 = .ok (.if_icmp .ne 7, 3) := by decide +kernel
theorem dX11_told_98 : decode cX11_told 98 = .ok (.iconst 4, 1) := by decide +kernel
theorem dX11_told_99 : decode cX11_told 99 = .ok (.goto 9, 3) := by decide +kernel
theorem dX11_told_102 : decode cX11_told 102 = .ok (.iconst 5, 1) := by decide +kernel
theorem dX11_told_103 : decode cX11_told 103 = .ok (.goto 5, 3) := by decide +kernel
theorem dX11_told_106 : decode cX11_told 106 = .ok (.bipush 7, 2) := by decide +kernel
theorem dX11_told_108 : decode cX11_told 108 = .ok (.istore 5, 2) := by decide +kernel
theorem dX11_told_110 : decode cX11_told 110 = .ok (.aload_n 0, 1) := by decide +kernel
theorem dX11_told_111 : decode cX11_told 111 = .ok (.iload_n 3, 1) := by decide +kernel
theorem dX11_told_112 : decode cX11_told 112 = .ok (.iload 4, 2) := by decide +kernel
theorem dX11_told_114 : decode cX11_told 114 = .ok (.iload 5, 2) := by decide +kernel
theorem dX11_told_116 : decode cX11_told 116 = .ok (.invokevirtual 76, 3) := by decide +kernel
theorem dX11_told_119 : decode cX11_told 119 = .ok (.ifCond .ne 9, 3) := by decide +kernel
theorem dX11_told_122 : decode cX11_told 122 = .ok (.aload_n 0, 1) := by decide +kernel
theorem dX11_told_123 : decode cX11_told 123 = .ok (.iconst 5, 1) := by decide +kernel
theorem dX11_told_124 : decode cX11_told 124 = .ok (.invokevirtual 90, 3) := by decide +kernel
theorem dX11_told_127 : decode cX11_told 127 = .ok (.lreturn, 1) := by decide +kernel
theorem dX11_told_128 : decode cX11_told 128 = .ok (.iload_n 3, 1) := by decide +kernel
theorem dX11_told_129 : decode cX11_told 129 = .ok (.ifCond .eq 33, 3) := by decide +kernel
theorem dX11_told_132 : decode cX11_told 132 = .ok (.iload_n 2, 1) := by decide +kernel
theorem dX11_told_133 : decode cX11_told 133 = .ok (.bipush 6, 2) := by decide +kernel
theorem dX11_told_135 : decode cX11_told 135 = .ok (.if_icmp .ne 12, 3) := by decide +kernel
theorem dX11_told_138 : decode cX11_told 138 = .ok (.aload_n 0, 1) := by decide +kernel
theorem dX11_told_139 : decode cX11_told 139 = .ok (.getfield 22, 3) := by decide +kernel
theorem dX11_told_142 : decode cX11_told 142 = .ok (.iload_n 3, 1) := by decide +kernel
theorem dX11_told_143 : decode cX11_told 143 = .ok (.iaload, 1) := by decide +kernel
theorem dX11_told_144 : decode cX11_told 144 = .ok (.ifCond .lt 18, 3) := by decide +kernel
theorem dX11_told_147 : decode cX11_told 147 = .ok (.iload_n 2, 1) := by decide +kernel
theorem dX11_told_148 : decode cX11_told 148 = .ok (.bipush 7, 2) := by decide +kernel
theorem dX11_told_150 : decode cX11_told 150 = .ok (.if_icmp .ne 18, 3) := by decide +kernel
theorem dX11_told_153 : decode cX11_told 153 = .ok (.aload_n 0, 1) := by decide +kernel
theorem dX11_told_154 : decode cX11_told 154 = .ok (.getfield 28, 3) := by decide +kernel
theorem dX11_told_157 : decode cX11_told 157 = .ok (.iload_n 3, 1) := by decide +kernel
theorem dX11_told_158 : decode cX11_told 158 = .ok (.iaload, 1) := by decide +kernel
theorem dX11_told_159 : decode cX11_told 159 = .ok (.ifCond .ge 9, 3) := by decide +kernel
theorem dX11_told_162 : decode cX11_told 162 = .ok (.aload_n 0, 1) := by decide +kernel
theorem dX11_told_163 : decode cX11_told 163 = .ok (.iconst 1, 1) := by decide +kernel
theorem dX11_told_164 : decode cX11_told 164 = .ok (.invokevirtual 90, 3) := by decide +kernel
theorem dX11_told_167 : decode cX11_told 167 = .ok (.lreturn, 1) := by decide +kernel
theorem dX11_told_168 : decode cX11_told 168 = .ok (.iload_n 2, 1) := by decide +kernel
theorem dX11_told_169 : decode cX11_told 169 = .ok (.iconst 5, 1) := by decide +kernel
theorem dX11_told_170 : decode cX11_told 170 = .ok (.if_icmp .le 27, 3) := by decide +kernel
theorem dX11_told_173 : decode cX11_told 173 = .ok (.iload_n 2, 1) := by decide +kernel
theorem dX11_told_174 : decode cX11_told 174 = .ok (.bipush 6, 2) := by decide +kernel
theorem dX11_told_176 : decode cX11_told 176 = .ok (.if_icmp .ne 13, 3) := by decide +kernel
theorem dX11_told_179 : decode cX11_told 179 = .ok (.aload_n 0, 1) := by decide +kernel
theorem dX11_told_180 : decode cX11_told 180 = .ok (.getfield 22, 3) := by decide +kernel
theorem dX11_told_183 : decode cX11_told 183 = .ok (.iload_n 3, 1) := by decide +kernel
theorem dX11_told_184 : decode cX11_told 184 = .ok (.iaload, 1) := by decide +kernel
theorem dX11_told_185 : decode cX11_told 185 = .ok (.i2l, 1) := by decide +kernel
theorem dX11_told_186 : decode cX11_told 186 = .ok (.goto 10, 3) := by decide +kernel
theorem dX11_told_189 : decode cX11_told 189 = .ok (.aload_n 0, 1) := by decide +kernel
theorem dX11_told_190 : decode cX11_told 190 = .ok (.getfield 28, 3) := by decide +kernel
theorem dX11_told_193 : decode cX11_told 193 = .ok (.iload_n 3, 1) := by decide +kernel
theorem dX11_told_194 : decode cX11_told 194 = .ok (.iaload, 1) := by decide +kernel
theorem dX11_told_195 : decode cX11_told 195 = .ok (.i2l, 1) := by decide +kernel
theorem dX11_told_196 : decode cX11_told 196 = .ok (.lreturn, 1) := by decide +kernel
theorem dX11_told_197 : decode cX11_told 197 = .ok (.iload_n 2, 1) := by decide +kernel
theorem dX11_told_198 : decode cX11_told 198 = .ok (.iconst 1, 1) := by decide +kernel
theorem dX11_told_199 : decode cX11_told 199 = .ok (.if_icmp .eq 8, 3) := by decide +kernel
theorem dX11_told_202 : decode cX11_told 202 = .ok (.iload_n 2, 1) := by decide +kernel
theorem dX11_told_203 : decode cX11_told 203 = .ok (.iconst 3, 1) := by decide +kernel
theorem dX11_told_204 : decode cX11_told 204 = .ok (.if_icmp .ne 13, 3) := by decide +kernel
theorem dX11_told_207 : decode cX11_told 207 = .ok (.aload_n 0, 1) := by decide +kernel
theorem dX11_told_208 : decode cX11_told 208 = .ok (.getfield 19, 3) := by decide +kernel
theorem dX11_told_211 : decode cX11_told 211 = .ok (.iload_n 3, 1) := by decide +kernel
theorem dX11_told_212 : decode cX11_told 212 = .ok (.iaload, 1) := by decide +kernel
theorem dX11_told_213 : decode cX11_told 213 = .ok (.i2l, 1) := by decide +kernel
theorem dX11_told_214 : decode cX11_told 214 = .ok (.goto 10, 3) := by decide +kernel
theorem dX11_told_217 : decode cX11_told 217 = .ok (.aload_n 0, 1) := by decide +kernel
theorem dX11_told_218 : decode cX11_told 218 = .ok (.getfield 16, 3) := by decide +kernel
theorem dX11_told_221 : decode cX11_told 221 = .ok (.iload_n 3, 1) := by decide +kernel
theorem dX11_told_222 : decode cX11_told 222 = .ok (.iaload, 1) := by decide +kernel
theorem dX11_told_223 : decode cX11_told 223 = .ok (.i2l, 1) := by decide +kernel
theorem dX11_told_224 : decode cX11_told 224 = .ok (.lreturn, 1) := by decide +kernel
theorem dX11_same_0 : decode cX11_same 0 = .ok (.iload_n 1, 1) := by decide +kernel
theorem dX11_same_1 : decode cX11_same 1 = .ok (.invokestatic 64, 3) := by decide +kernel
theorem dX11_same_4 : decode cX11_same 4 = .ok (.ifCond .eq 10, 3) := by decide +kernel
theorem dX11_same_7 : decode cX11_same 7 = .ok (.iload_n 2, 1) := by decide +kernel
theorem dX11_same_8 : decode cX11_same 8 = .ok (.invokestatic 64, 3) := by decide +kernel
theorem dX11_same_11 : decode cX11_same 11 = .ok (.ifCond .ne 5, 3) := by decide +kernel
theorem dX11_same_14 : decode cX11_same 14 = .ok (.iconst (-1), 1) := by decide +kernel
theorem dX11_same_15 : decode cX11_same 15 = .ok (.ireturn, 1) := by decide +kernel
theorem dX11_same_16 : decode cX11_same 16 = .ok (.aload_n 0, 1) := by decide +kernel
theorem dX11_same_17 : decode cX11_same 17 = .ok (.getfield 7, 3) := by decide +kernel
theorem dX11_same_20 : decode cX11_same 20 = .ok (.iload_n 1, 1) := by decide +kernel
theorem dX11_same_21 : decode cX11_same 21 = .ok (.iaload, 1) := by decide +kernel
theorem dX11_same_22 : decode cX11_same 22 = .ok (.aload_n 0, 1) := by decide +kernel
theorem dX11_same_23 : decode cX11_same 23 = .ok (.getfield 7, 3) := by decide +kernel
theorem dX11_same_26 : decode cX11_same 26 = .ok (.iload_n 2, 1) := by decide +kernel
theorem dX11_same_27 : decode cX11_same 27 = .ok (.iaload, 1) := by decide +kernel
theorem dX11_same_28 : decode cX11_same 28 = .ok (.if_icmp .ne 7, 3) := by decide +kernel
theorem dX11_same_31 : decode cX11_same 31 = .ok (.iconst 1, 1) := by decide +kernel
theorem dX11_same_32 : decode cX11_same 32 = .ok (.goto 4, 3) := by decide +kernel
theorem dX11_same_35 : decode cX11_same 35 = .ok (.iconst 0, 1) := by decide +kernel
theorem dX11_same_36 : decode cX11_same 36 = .ok (.ireturn, 1) := by decide +kernel
theorem dX11_count_0 : decode cX11_count 0 = .ok (.iload_n 1, 1) := by decide +kernel
theorem dX11_count_1 : decode cX11_count 1 = .ok (.iconst 0, 1) := by decide +kernel
theorem dX11_count_2 : decode cX11_count 2 = .ok (.bipush 7, 2) := by decide +kernel
theorem dX11_count_4 : decode cX11_count 4 = .ok (.invokestatic 50, 3) := by decide +kernel
theorem dX11_count_7 : decode cX11_count 7 = .ok (.ifCond .ne 7, 3) := by decide +kernel
theorem dX11_count_10 : decode cX11_count 10 = .ok (.iconst (-1), 1) := by decide +kernel
theorem dX11_count_11 : decode cX11_count 11 = .ok (.goto 22, 3) := by decide +kernel
theorem dX11_count_14 : decode cX11_count 14 = .ok (.iload_n 1, 1) := by decide +kernel
theorem dX11_count_15 : decode cX11_count 15 = .ok (.bipush 7, 2) := by decide +kernel
theorem dX11_count_17 : decode cX11_count 17 = .ok (.if_icmp .ne 10, 3) := by decide +kernel
theorem dX11_count_20 : decode cX11_count 20 = .ok (.aload_n 0, 1) := by decide +kernel
theorem dX11_count_21 : decode cX11_count 21 = .ok (.getfield 97, 3) := by decide +kernel
theorem dX11_count_24 : decode cX11_count 24 = .ok (.goto 9, 3) := by decide +kernel
theorem dX11_count_27 : decode cX11_count 27 = .ok (.aload_n 0, 1) := by decide +kernel
theorem dX11_count_28 : decode cX11_count 28 = .ok (.getfield 47, 3) := by decide +kernel
theorem dX11_count_31 : decode cX11_count 31 = .ok (.iload_n 1, 1) := by decide +kernel
theorem dX11_count_32 : decode cX11_count 32 = .ok (.iaload, 1) := by decide +kernel
theorem dX11_count_33 : decode cX11_count 33 = .ok (.ireturn, 1) := by decide +kernel
