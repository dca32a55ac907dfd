theorem dX0_init_0 : decode cX0_init 0 = .ok (.aload_n 0, 1) := by decide +kernel
theorem dX0_init_1 : decode cX0_init 1 = .ok (.invokespecial 3, 3) := by decide +kernel
theorem dX0_init_4 : decode cX0_init 4 = .ok (.aload_n 0, 1) := by decide +kernel
theorem dX0_init_5 : decode cX0_init 5 = .ok (.iconst 0, 1) := by decide +kernel
theorem dX0_init_6 : decode cX0_init 6 = .ok (.putfield 9, 3) := by decide +kernel
theorem dX0_init_9 : decode cX0_init 9 = .ok (.aload_n 0, 1) := by decide +kernel
theorem dX0_init_10 : decode cX0_init 10 = .ok (.iconst 0, 1) := by decide +kernel
theorem dX0_init_11 : decode cX0_init 11 = .ok (.putfield 15, 3) := by decide +kernel
theorem dX0_init_14 : decode cX0_init 14 = .ok (.aload_n 0, 1) := by decide +kernel
theorem dX0_init_15 : decode cX0_init 15 = .ok (.iconst 0, 1) := by decide +kernel
theorem dX0_init_16 : decode cX0_init 16 = .ok (.putfield 18, 3) := by decide +kernel
theorem dX0_init_19 : decode cX0_init 19 = .ok (.aload_n 0, 1) := by decide +kernel
theorem dX0_init_20 : decode cX0_init 20 = .ok (.iconst 0, 1) := by decide +kernel
theorem dX0_init_21 : decode cX0_init 21 = .ok (.putfield 21, 3) := by decide +kernel
theorem dX0_init_24 : decode cX0_init 24 = .ok (.aload_n 0, 1) := by decide +kernel
theorem dX0_init_25 : decode cX0_init 25 = .ok (.iconst 0, 1) := by decide +kernel
theorem dX0_init_26 : decode cX0_init 26 = .ok (.putfield 24, 3) := by decide +kernel
theorem dX0_init_29 : decode cX0_init 29 = .ok (.aload_n 0, 1) := by decide +kernel
theorem dX0_init_30 : decode cX0_init 30 = .ok (.iload_n 1, 1) := by decide +kernel
theorem dX0_init_31 : decode cX0_init 31 = .ok (.putfield 27, 3) := by decide +kernel
theorem dX0_init_34 : decode cX0_init 34 = .ok (.return_, 1) := by decide +kernel
theorem dX0_beginRun_0 : decode cX0_beginRun 0 = .ok (.aload_n 0, 1) := by decide +kernel
theorem dX0_beginRun_1 : decode cX0_beginRun 1 = .ok (.iconst 0, 1) := by decide +kernel
theorem dX0_beginRun_2 : decode cX0_beginRun 2 = .ok (.putfield 21, 3) := by decide +kernel
theorem dX0_beginRun_5 : decode cX0_beginRun 5 = .ok (.aload_n 0, 1) := by decide +kernel
theorem dX0_beginRun_6 : decode cX0_beginRun 6 = .ok (.iconst 0, 1) := by decide +kernel
theorem dX0_beginRun_7 : decode cX0_beginRun 7 = .ok (.putfield 24, 3) := by decide +kernel
theorem dX0_beginRun_10 : decode cX0_beginRun 10 = .ok (.return_, 1) := by decide +kernel
theorem dX0_meetOne_0 : decode cX0_meetOne 0 = .ok (.aload_n 0, 1) := by decide +kernel
theorem dX0_meetOne_1 : decode cX0_meetOne 1 = .ok (.dup, 1) := by decide +kernel
theorem dX0_meetOne_2 : decode cX0_meetOne 2 = .ok (.getfield 21, 3) := by decide +kernel
theorem dX0_meetOne_5 : decode cX0_meetOne 5 = .ok (.iconst 1, 1) := by decide +kernel
theorem dX0_meetOne_6 : decode cX0_meetOne 6 = .ok (.iadd, 1) := by decide +kernel
theorem dX0_meetOne_7 : decode cX0_meetOne 7 = .ok (.putfield 21, 3) := by decide +kernel
theorem dX0_meetOne_10 : decode cX0_meetOne 10 = .ok (.return_, 1) := by decide +kernel
theorem dX0_growBy_0 : decode cX0_growBy 0 = .ok (.aload_n 0, 1) := by decide +kernel
theorem dX0_growBy_1 : decode cX0_growBy 1 = .ok (.dup, 1) := by decide +kernel
theorem dX0_growBy_2 : decode cX0_growBy 2 = .ok (.getfield 24, 3) := by decide +kernel
theorem dX0_growBy_5 : decode cX0_growBy 5 = .ok (.iload_n 1, 1) := by decide +kernel
theorem dX0_growBy_6 : decode cX0_growBy 6 = .ok (.iadd, 1) := by decide +kernel
theorem dX0_growBy_7 : decode cX0_growBy 7 = .ok (.putfield 24, 3) := by decide +kernel
theorem dX0_growBy_10 : decode cX0_growBy 10 = .ok (.return_, 1) := by decide +kernel
theorem dX0_settleRun_0 : decode cX0_settleRun 0 = .ok (.aload_n 0, 1) := by decide +kernel
theorem dX0_settleRun_1 : decode cX0_settleRun 1 = .ok (.aload_n 0, 1) := by decide +kernel
theorem dX0_settleRun_2 : decode cX0_settleRun 2 = .ok (.getfield 21, 3) := by decide +kernel
theorem dX0_settleRun_5 : decode cX0_settleRun 5 = .ok (.putfield 15, 3) := by decide +kernel
theorem dX0_settleRun_8 : decode cX0_settleRun 8 = .ok (.aload_n 0, 1) := by decide +kernel
theorem dX0_settleRun_9 : decode cX0_settleRun 9 = .ok (.aload_n 0, 1) := by decide +kernel
theorem dX0_settleRun_10 : decode cX0_settleRun 10 = .ok (.getfield 24, 3) := by decide +kernel
theorem dX0_settleRun_13 : decode cX0_settleRun 13 = .ok (.putfield 18, 3) := by decide +kernel
theorem dX0_settleRun_16 : decode cX0_settleRun 16 = .ok (.return_, 1) := by decide +kernel
theorem dX1_init_0 : decode cX1_init 0 = .ok (.aload_n 0, 1) := by decide +kernel
theorem dX1_init_1 : decode cX1_init 1 = .ok (.invokespecial 3, 3) := by decide +kernel
theorem dX1_init_4 : decode cX1_init 4 = .ok (.aload_n 0, 1) := by decide +kernel
theorem dX1_init_5 : decode cX1_init 5 = .ok (.bipush 40, 2) := by decide +kernel
theorem dX1_init_7 : decode cX1_init 7 = .ok (.newarray .int, 2) := by decide +kernel
theorem dX1_init_9 : decode cX1_init 9 = .ok (.putfield 9, 3) := by decide +kernel
theorem dX1_init_12 : decode cX1_init 12 = .ok (.aload_n 0, 1) := by decide +kernel
theorem dX1_init_13 : decode cX1_init 13 = .ok (.bipush 40, 2) := by decide +kernel
theorem dX1_init_15 : decode cX1_init 15 = .ok (.newarray .int, 2) := by decide +kernel
theorem dX1_init_17 : decode cX1_init 17 = .ok (.putfield 15, 3) := by decide +kernel
theorem dX1_init_20 : decode cX1_init 20 = .ok (.aload_n 0, 1) := by decide +kernel
theorem dX1_init_21 : decode cX1_init 21 = .ok (.bipush 40, 2) := by decide +kernel
theorem dX1_init_23 : decode cX1_init 23 = .ok (.newarray .int, 2) := by decide +kernel
theorem dX1_init_25 : decode cX1_init 25 = .ok (.putfield 18, 3) := by decide +kernel
theorem dX1_init_28 : decode cX1_init 28 = .ok (.aload_n 0, 1) := by decide +kernel
theorem dX1_init_29 : decode cX1_init 29 = .ok (.bipush 40, 2) := by decide +kernel
theorem dX1_init_31 : decode cX1_init 31 = .ok (.newarray .int, 2) := by decide +kernel
theorem dX1_init_33 : decode cX1_init 33 = .ok (.putfield 21, 3) := by decide +kernel
theorem dX1_init_36 : decode cX1_init 36 = .ok (.aload_n 0, 1) := by decide +kernel
theorem dX1_init_37 : decode cX1_init 37 = .ok (.iconst 0, 1) := by decide +kernel
theorem dX1_init_38 : decode cX1_init 38 = .ok (.putfield 24, 3) := by decide +kernel
theorem dX1_init_41 : decode cX1_init 41 = .ok (.return_, 1) := by decide +kernel
theorem dX1_size_0 : decode cX1_size 0 = .ok (.aload_n 0, 1) := by decide +kernel
theorem dX1_size_1 : decode cX1_size 1 = .ok (.getfield 24, 3) := by decide +kernel
theorem dX1_size_4 : decode cX1_size 4 = .ok (.ireturn, 1) := by decide +kernel
theorem dX1_slotOf_0 : decode cX1_slotOf 0 = .ok (.iconst 0, 1) := by decide +kernel
theorem dX1_slotOf_1 : decode cX1_slotOf 1 = .ok (.istore_n 2, 1) := by decide +kernel
theorem dX1_slotOf_2 : decode cX1_slotOf 2 = .ok (.iload_n 2, 1) := by decide +kernel
theorem dX1_slotOf_3 : decode cX1_slotOf 3 = .ok (.aload_n 0, 1) := by decide +kernel
theorem dX1_slotOf_4 : decode cX1_slotOf 4 = .ok (.getfield 24, 3) := by decide +kernel
theorem dX1_slotOf_7 : decode cX1_slotOf 7 = .ok (.if_icmp .ge 21, 3) := by decide +kernel
theorem dX1_slotOf_10 : decode cX1_slotOf 10 = .ok (.aload_n 0, 1) := by decide +kernel
theorem dX1_slotOf_11 : decode cX1_slotOf 11 = .ok (.getfield 9, 3) := by decide +kernel
theorem dX1_slotOf_14 : decode cX1_slotOf 14 = .ok (.iload_n 2, 1) := by decide +kernel
theorem dX1_slotOf_15 : decode cX1_slotOf 15 = .ok (.iaload, 1) := by decide +kernel
theorem dX1_slotOf_16 : decode cX1_slotOf 16 = .ok (.iload_n 1, 1) := by decide +kernel
theorem dX1_slotOf_17 : decode cX1_slotOf 17 = .ok (.if_icmp .ne 5, 3) := by decide +kernel
theorem dX1_slotOf_20 : decode cX1_slotOf 20 = .ok (.iload_n 2, 1) := by decide +kernel
theorem dX1_slotOf_21 : decode cX1_slotOf 21 = .ok (.ireturn, 1) := by decide +kernel
theorem dX1_slotOf_22 : decode cX1_slotOf 22 = .ok (.iinc 2 1, 3) := by decide +kernel
theorem dX1_slotOf_25 : decode cX1_slotOf 25 = .ok (.goto (-23), 3) := by decide +kernel
theorem dX1_slotOf_28 : decode cX1_slotOf 28 = .ok (.iconst (-1), 1) := by decide +kernel
theorem dX1_slotOf_29 : decode cX1_slotOf 29 = .ok (.ireturn, 1) := by decide +kernel
theorem dX1_put_0 : decode cX1_put 0 = .ok (.aload_n 0, 1) := by decide +kernel
theorem dX1_put_1 : decode cX1_put 1 = .ok (.iload_n 1, 1) := by decide +kernel
theorem dX1_put_2 : decode cX1_put 2 = .ok (.invokevirtual 28, 3) := by decide +kernel
theorem dX1_put_5 : decode cX1_put 5 = .ok (.istore 5, 2) := by decide +kernel
theorem dX1_put_7 : decode cX1_put 7 = .ok (.iload 5, 2) := by decide +kernel
theorem dX1_put_9 : decode cX1_put 9 = .ok (.iconst (-1), 1) := by decide +kernel
theorem dX1_put_10 : decode cX1_put 10 = .ok (.if_icmp .ne 30, 3) := by decide +kernel
theorem dX1_put_13 : decode cX1_put 13 = .ok (.aload_n 0, 1) := by decide +kernel
theorem dX1_put_14 : decode cX1_put 14 = .ok (.getfield 24, 3) := by decide +kernel
theorem dX1_put_17 : decode cX1_put 17 = .ok (.bipush 40, 2) := by decide +kernel
theorem dX1_put_19 : decode cX1_put 19 = .ok (.if_icmp .lt 5, 3) := by decide +kernel
theorem dX1_put_22 : decode cX1_put 22 = .ok (.iconst 0, 1) := by decide +kernel
theorem dX1_put_23 : decode cX1_put 23 = .ok (.ireturn, 1) := by decide +kernel
theorem dX1_put_24 : decode cX1_put 24 = .ok (.aload_n 0, 1) := by decide +kernel
theorem dX1_put_25 : decode cX1_put 25 = .ok (.getfield 24, 3) := by decide +kernel
theorem dX1_put_28 : decode cX1_put 28 = .ok (.istore 5, 2) := by decide +kernel
theorem dX1_put_30 : decode cX1_put 30 = .ok (.aload_n 0, 1) := by decide +kernel
theorem dX1_put_31 : decode cX1_put 31 = .ok (.dup, 1) := by decide +kernel
theorem dX1_put_32 : decode cX1_put 32 = .ok (.getfield 24, 3) := by decide +kernel
theorem dX1_put_35 : decode cX1_put 35 = .ok (.iconst 1, 1) := by decide +kernel
theorem dX1_put_36 : decode cX1_put 36 = .ok (.iadd, 1) := by decide +kernel
theorem dX1_put_37 : decode cX1_put 37 = .ok (.putfield 24, 3) := by decide +kernel
theorem dX1_put_40 : decode cX1_put 40 = .ok (.aload_n 0, 1) := by decide +kernel
theorem dX1_put_41 : decode cX1_put 41 = .ok (.getfield 9, 3) := by decide +kernel
theorem dX1_put_44 : decode cX1_put 44 = .ok (.iload 5, 2) := by decide +kernel
theorem dX1_put_46 : decode cX1_put 46 = .ok (.iload_n 1, 1) := by decide +kernel
theorem dX1_put_47 : decode cX1_put 47 = .ok (.iastore, 1) := by decide +kernel
theorem dX1_put_48 : decode cX1_put 48 = .ok (.aload_n 0, 1) := by decide +kernel
theorem dX1_put_49 : decode cX1_put 49 = .ok (.getfield 15, 3) := by decide +kernel
theorem dX1_put_52 : decode cX1_put 52 = .ok (.iload 5, 2) := by decide +kernel
theorem dX1_put_54 : decode cX1_put 54 = .ok (.iload_n 2, 1) := by decide +kernel
theorem dX1_put_55 : decode cX1_put 55 = .ok (.iastore, 1) := by decide +kernel
theorem dX1_put_56 : decode cX1_put 56 = .ok (.aload_n 0, 1) := by decide +kernel
theorem dX1_put_57 : decode cX1_put 57 = .ok (.getfield 18, 3) := by decide +kernel
theorem dX1_put_60 : decode cX1_put 60 = .ok (.iload 5, 2) := by decide +kernel
theorem dX1_put_62 : decode cX1_put 62 = .ok (.iload_n 3, 1) := by decide +kernel
theorem dX1_put_63 : decode cX1_put 63 = .ok (.iastore, 1) := by decide +kernel
theorem dX1_put_64 : decode cX1_put 64 = .ok (.aload_n 0, 1) := by decide +kernel
theorem dX1_put_65 : decode cX1_put 65 = .ok (.getfield 21, 3) := by decide +kernel
theorem dX1_put_68 : decode cX1_put 68 = .ok (.iload 5, 2) := by decide +kernel
theorem dX1_put_70 : decode cX1_put 70 = .ok (.iload 4, 2) := by decide +kernel
theorem dX1_put_72 : decode cX1_put 72 = .ok (.iastore, 1) := by decide +kernel
theorem dX1_put_73 : decode cX1_put 73 = .ok (.iconst 1, 1) := by decide +kernel
theorem dX1_put_74 : decode cX1_put 74 = .ok (.ireturn, 1) := by decide +kernel
theorem dX1_partAt_0 : decode cX1_partAt 0 = .ok (.iload_n 1, 1) := by decide +kernel
theorem dX1_partAt_1 : decode cX1_partAt 1 = .ok (.ifCond .lt 11, 3) := by decide +kernel
theorem dX1_partAt_4 : decode cX1_partAt 4 = .ok (.iload_n 1, 1) := by decide +kernel
theorem dX1_partAt_5 : decode cX1_partAt 5 = .ok (.aload_n 0, 1) := by decide +kernel
theorem dX1_partAt_6 : decode cX1_partAt 6 = .ok (.getfield 24, 3) := by decide +kernel
theorem dX1_partAt_9 : decode cX1_partAt 9 = .ok (.if_icmp .lt 5, 3) := by decide +kernel
theorem dX1_partAt_12 : decode cX1_partAt 12 = .ok (.iconst (-1), 1) := by decide +kernel
theorem dX1_partAt_13 : decode cX1_partAt 13 = .ok (.ireturn, 1) := by decide +kernel
theorem dX1_partAt_14 : decode cX1_partAt 14 = .ok (.iload_n 2, 1) := by decide +kernel
theorem dX1_partAt_15 : decode cX1_partAt 15 = .ok (.tableswitch 46 0 2 #[25, 32, 39], 25) := by decide +kernel
theorem dX1_partAt_40 : decode cX1_partAt 40 = .ok (.aload_n 0, 1) := by decide +kernel
theorem dX1_partAt_41 : decode cX1_partAt 41 = .ok (.getfield 15, 3) := by decide +kernel
theorem dX1_partAt_44 : decode cX1_partAt 44 = .ok (.iload_n 1, 1) := by decide +kernel
theorem dX1_partAt_45 : decode cX1_partAt 45 = .ok (.iaload, 1) := by decide +kernel
theorem dX1_partAt_46 : decode cX1_partAt 46 = .ok (.ireturn, 1) := by decide +kernel
theorem dX1_partAt_47 : decode cX1_partAt 47 = .ok (.aload_n 0, 1) := by decide +kernel
theorem dX1_partAt_48 : decode cX1_partAt 48 = .ok (.getfield 18, 3) := by decide +kernel
theorem dX1_partAt_51 : decode cX1_partAt 51 = .ok (.iload_n 1, 1) := by decide +kernel
theorem dX1_partAt_52 : decode cX1_partAt 52 = .ok (.iaload, 1) := by decide +kernel
theorem dX1_partAt_53 : decode cX1_partAt 53 = .ok (.ireturn, 1) := by decide +kernel
theorem dX1_partAt_54 : decode cX1_partAt 54 = .ok (.aload_n 0, 1) := by decide +kernel
theorem dX1_partAt_55 : decode cX1_partAt 55 = .ok (.getfield 21, 3) := by decide +kernel
theorem dX1_partAt_58 : decode cX1_partAt 58 = .ok (.iload_n 1, 1) := by decide +kernel
theorem dX1_partAt_59 : decode cX1_partAt 59 = .ok (.iaload, 1) := by decide +kernel
theorem dX1_partAt_60 : decode cX1_partAt 60 = .ok (.ireturn, 1) := by decide +kernel
theorem dX1_partAt_61 : decode cX1_partAt 61 = .ok (.iconst (-1), 1) := by decide +kernel
theorem dX1_partAt_62 : decode cX1_partAt 62 = .ok (.ireturn, 1) := by decide +kernel
theorem dX1_lengthAt_0 : decode cX1_lengthAt 0 = .ok (.iconst 0, 1) := by decide +kernel
theorem dX1_lengthAt_1 : decode cX1_lengthAt 1 = .ok (.istore_n 2, 1) := by decide +kernel
theorem dX1_lengthAt_2 : decode cX1_lengthAt 2 = .ok (.iload_n 2, 1) := by decide +kernel
theorem dX1_lengthAt_3 : decode cX1_lengthAt 3 = .ok (.iconst 3, 1) := by decide +kernel
theorem dX1_lengthAt_4 : decode cX1_lengthAt 4 = .ok (.if_icmp .ge 19, 3) := by decide +kernel
theorem dX1_lengthAt_7 : decode cX1_lengthAt 7 = .ok (.aload_n 0, 1) := by decide +kernel
theorem dX1_lengthAt_8 : decode cX1_lengthAt 8 = .ok (.iload_n 1, 1) := by decide +kernel
theorem dX1_lengthAt_9 : decode cX1_lengthAt 9 = .ok (.iload_n 2, 1) := by decide +kernel
theorem dX1_lengthAt_10 : decode cX1_lengthAt 10 = .ok (.invokevirtual 32, 3) := by decide +kernel
theorem dX1_lengthAt_13 : decode cX1_lengthAt 13 = .ok (.iconst (-1), 1) := by decide +kernel
theorem dX1_lengthAt_14 : decode cX1_lengthAt 14 = .ok (.if_icmp .eq 9, 3) := by decide +kernel
theorem dX1_lengthAt_17 : decode cX1_lengthAt 17 = .ok (.iinc 2 1, 3) := by decide +kernel
theorem dX1_lengthAt_20 : decode cX1_lengthAt 20 = .ok (.goto (-18), 3) := by decide +kernel
theorem dX1_lengthAt_23 : decode cX1_lengthAt 23 = .ok (.iload_n 2, 1) := by decide +kernel
theorem dX1_lengthAt_24 : decode cX1_lengthAt 24 = .ok (.ireturn, 1) := by decide +kernel
theorem dX1_unitsAt_0 : decode cX1_unitsAt 0 = .ok (.iconst 0, 1) := by decide +kernel
theorem dX1_unitsAt_1 : decode cX1_unitsAt 1 = .ok (.istore_n 2, 1) := by decide +kernel
theorem dX1_unitsAt_2 : decode cX1_unitsAt 2 = .ok (.iconst 0, 1) := by decide +kernel
theorem dX1_unitsAt_3 : decode cX1_unitsAt 3 = .ok (.istore_n 3, 1) := by decide +kernel
theorem dX1_unitsAt_4 : decode cX1_unitsAt 4 = .ok (.iload_n 3, 1) := by decide +kernel
theorem dX1_unitsAt_5 : decode cX1_unitsAt 5 = .ok (.aload_n 0, 1) := by decide +kernel
theorem dX1_unitsAt_6 : decode cX1_unitsAt 6 = .ok (.iload_n 1, 1) := by decide +kernel
theorem dX1_unitsAt_7 : decode cX1_unitsAt 7 = .ok (.invokevirtual 36, 3) := by decide +kernel
theorem dX1_unitsAt_10 : decode cX1_unitsAt 10 = .ok (.if_icmp .ge 21, 3) := by decide +kernel
theorem dX1_unitsAt_13 : decode cX1_unitsAt 13 = .ok (.iload_n 2, 1) := by decide +kernel
theorem dX1_unitsAt_14 : decode cX1_unitsAt 14 = .ok (.aload_n 0, 1) := by decide +kernel
theorem dX1_unitsAt_15 : decode cX1_unitsAt 15 = .ok (.iload_n 1, 1) := by decide +kernel
theorem dX1_unitsAt_16 : decode cX1_unitsAt 16 = .ok (.iload_n 3, 1) := by decide +kernel
theorem dX1_unitsAt_17 : decode cX1_unitsAt 17 = .ok (.invokevirtual 32, 3) := by decide +kernel
theorem dX1_unitsAt_20 : decode cX1_unitsAt 20 = .ok (.invokestatic 39, 3) := by decide +kernel
theorem dX1_unitsAt_23 : decode cX1_unitsAt 23 = .ok (.iadd, 1) := by decide +kernel
theorem dX1_unitsAt_24 : decode cX1_unitsAt 24 = .ok (.istore_n 2, 1) := by decide +kernel
theorem dX1_unitsAt_25 : decode cX1_unitsAt 25 = .ok (.iinc 3 1, 3) := by decide +kernel
theorem dX1_unitsAt_28 : decode cX1_unitsAt 28 = .ok (.goto (-24), 3) := by decide +kernel
theorem dX1_unitsAt_31 : decode cX1_unitsAt 31 = .ok (.iload_n 2, 1) := by decide +kernel
theorem dX1_unitsAt_32 : decode cX1_unitsAt 32 = .ok (.ireturn, 1) := by decide +kernel
theorem dX2_init_0 : decode cX2_init 0 = .ok (.aload_n 0, 1) := by decide +kernel
theorem dX2_init_1 : decode cX2_init 1 = .ok (.invokespecial 3, 3) := by decide +kernel
theorem dX2_init_4 : decode cX2_init 4 = .ok (.aload_n 0, 1) := by decide +kernel
theorem dX2_init_5 : decode cX2_init 5 = .ok (.bipush 20, 2) := by decide +kernel
theorem dX2_init_7 : decode cX2_init 7 = .ok (.newarray .int, 2) := by decide +kernel
theorem dX2_init_9 : decode cX2_init 9 = .ok (.putfield 9, 3) := by decide +kernel
theorem dX2_init_12 : decode cX2_init 12 = .ok (.aload_n 0, 1) := by decide +kernel
theorem dX2_init_13 : decode cX2_init 13 = .ok (.bipush 20, 2) := by decide +kernel
theorem dX2_init_15 : decode cX2_init 15 = .ok (.newarray .int, 2) := by decide +kernel
theorem dX2_init_17 : decode cX2_init 17 = .ok (.putfield 15, 3) := by decide +kernel
theorem dX2_init_20 : decode cX2_init 20 = .ok (.aload_n 0, 1) := by decide +kernel
theorem dX2_init_21 : decode cX2_init 21 = .ok (.bipush 20, 2) := by decide +kernel
theorem dX2_init_23 : decode cX2_init 23 = .ok (.newarray .int, 2) := by decide +kernel
theorem dX2_init_25 : decode cX2_init 25 = .ok (.putfield 18, 3) := by decide +kernel
theorem dX2_init_28 : decode cX2_init 28 = .ok (.aload_n 0, 1) := by decide +kernel
theorem dX2_init_29 : decode cX2_init 29 = .ok (.iconst 0, 1) := by decide +kernel
theorem dX2_init_30 : decode cX2_init 30 = .ok (.putfield 21, 3) := by decide +kernel
theorem dX2_init_33 : decode cX2_init 33 = .ok (.return_, 1) := by decide +kernel
theorem dX2_size_0 : decode cX2_size 0 = .ok (.aload_n 0, 1) := by decide +kernel
theorem dX2_size_1 : decode cX2_size 1 = .ok (.getfield 21, 3) := by decide +kernel
theorem dX2_size_4 : decode cX2_size 4 = .ok (.ireturn, 1) := by decide +kernel
theorem dX2_slotOf_0 : decode cX2_slotOf 0 = .ok (.iconst 0, 1) := by decide +kernel
theorem dX2_slotOf_1 : decode cX2_slotOf 1 = .ok (.istore_n 3, 1) := by decide +kernel
theorem dX2_slotOf_2 : decode cX2_slotOf 2 = .ok (.iload_n 3, 1) := by decide +kernel
theorem dX2_slotOf_3 : decode cX2_slotOf 3 = .ok (.aload_n 0, 1) := by decide +kernel
theorem dX2_slotOf_4 : decode cX2_slotOf 4 = .ok (.getfield 21, 3) := by decide +kernel
theorem dX2_slotOf_7 : decode cX2_slotOf 7 = .ok (.if_icmp .ge 31, 3) := by decide +kernel
theorem dX2_slotOf_10 : decode cX2_slotOf 10 = .ok (.aload_n 0, 1) := by decide +kernel
theorem dX2_slotOf_11 : decode cX2_slotOf 11 = .ok (.getfield 9, 3) := by decide +kernel
theorem dX2_slotOf_14 : decode cX2_slotOf 14 = .ok (.iload_n 3, 1) := by decide +kernel
theorem dX2_slotOf_15 : decode cX2_slotOf 15 = .ok (.iaload, 1) := by decide +kernel
theorem dX2_slotOf_16 : decode cX2_slotOf 16 = .ok (.iload_n 1, 1) := by decide +kernel
theorem dX2_slotOf_17 : decode cX2_slotOf 17 = .ok (.if_icmp .ne 15, 3) := by decide +kernel
theorem dX2_slotOf_20 : decode cX2_slotOf 20 = .ok (.aload_n 0, 1) := by decide +kernel
theorem dX2_slotOf_21 : decode cX2_slotOf 21 = .ok (.getfield 15, 3) := by decide +kernel
theorem dX2_slotOf_24 : decode cX2_slotOf 24 = .ok (.iload_n 3, 1) := by decide +kernel
theorem dX2_slotOf_25 : decode cX2_slotOf 25 = .ok (.iaload, 1) := by decide +kernel
theorem dX2_slotOf_26 : decode cX2_slotOf 26 = .ok (.iload_n 2, 1) := by decide +kernel
theorem dX2_slotOf_27 : decode cX2_slotOf 27 = .ok (.if_icmp .ne 5, 3) := by decide +kernel
theorem dX2_slotOf_30 : decode cX2_slotOf 30 = .ok (.iload_n 3, 1) := by decide +kernel
theorem dX2_slotOf_31 : decode cX2_slotOf 31 = .ok (.ireturn, 1) := by decide +kernel
theorem dX2_slotOf_32 : decode cX2_slotOf 32 = .ok (.iinc 3 1, 3) := by decide +kernel
theorem dX2_slotOf_35 : decode cX2_slotOf 35 = .ok (.goto (-33), 3) := by decide +kernel
theorem dX2_slotOf_38 : decode cX2_slotOf 38 = .ok (.iconst (-1), 1) := by decide +kernel
theorem dX2_slotOf_39 : decode cX2_slotOf 39 = .ok (.ireturn, 1) := by decide +kernel
theorem dX2_signAt_0 : decode cX2_signAt 0 = .ok (.iload_n 1, 1) := by decide +kernel
theorem dX2_signAt_1 : decode cX2_signAt 1 = .ok (.ifCond .lt 20, 3) := by decide +kernel
theorem dX2_signAt_4 : decode cX2_signAt 4 = .ok (.iload_n 1, 1) := by decide +kernel
theorem dX2_signAt_5 : decode cX2_signAt 5 = .ok (.aload_n 0, 1) := by decide +kernel
theorem dX2_signAt_6 : decode cX2_signAt 6 = .ok (.getfield 21, 3) := by decide +kernel
theorem dX2_signAt_9 : decode cX2_signAt 9 = .ok (.if_icmp .ge 12, 3) := by decide +kernel
theorem dX2_signAt_12 : decode cX2_signAt 12 = .ok (.aload_n 0, 1) := by decide +kernel
theorem dX2_signAt_13 : decode cX2_signAt 13 = .ok (.getfield 18, 3) := by decide +kernel
theorem dX2_signAt_16 : decode cX2_signAt 16 = .ok (.iload_n 1, 1) := by decide +kernel
theorem dX2_signAt_17 : decode cX2_signAt 17 = .ok (.iaload, 1) := by decide +kernel
theorem dX2_signAt_18 : decode cX2_signAt 18 = .ok (.goto 4, 3) := by decide +kernel
theorem dX2_signAt_21 : decode cX2_signAt 21 = .ok (.iconst (-1), 1) := by decide +kernel
theorem dX2_signAt_22 : decode cX2_signAt 22 = .ok (.ireturn, 1) := by decide +kernel
theorem dX2_put_0 : decode cX2_put 0 = .ok (.aload_n 0, 1) := by decide +kernel
theorem dX2_put_1 : decode cX2_put 1 = .ok (.iload_n 1, 1) := by decide +kernel
theorem dX2_put_2 : decode cX2_put 2 = .ok (.iload_n 2, 1) := by decide +kernel
theorem dX2_put_3 : decode cX2_put 3 = .ok (.invokevirtual 25, 3) := by decide +kernel
theorem dX2_put_6 : decode cX2_put 6 = .ok (.istore 4, 2) := by decide +kernel
theorem dX2_put_8 : decode cX2_put 8 = .ok (.iload 4, 2) := by decide +kernel
theorem dX2_put_10 : decode cX2_put 10 = .ok (.iconst (-1), 1) := by decide +kernel
theorem dX2_put_11 : decode cX2_put 11 = .ok (.if_icmp .ne 30, 3) := by decide +kernel
theorem dX2_put_14 : decode cX2_put 14 = .ok (.aload_n 0, 1) := by decide +kernel
theorem dX2_put_15 : decode cX2_put 15 = .ok (.getfield 21, 3) := by decide +kernel
theorem dX2_put_18 : decode cX2_put 18 = .ok (.bipush 20, 2) := by decide +kernel
theorem dX2_put_20 : decode cX2_put 20 = .ok (.if_icmp .lt 5, 3) := by decide +kernel
theorem dX2_put_23 : decode cX2_put 23 = .ok (.iconst 0, 1) := by decide +kernel
theorem dX2_put_24 : decode cX2_put 24 = .ok (.ireturn, 1) := by decide +kernel
theorem dX2_put_25 : decode cX2_put 25 = .ok (.aload_n 0, 1) := by decide +kernel
theorem dX2_put_26 : decode cX2_put 26 = .ok (.getfield 21, 3) := by decide +kernel
theorem dX2_put_29 : decode cX2_put 29 = .ok (.istore 4, 2) := by decide +kernel
theorem dX2_put_31 : decode cX2_put 31 = .ok (.aload_n 0, 1) := by decide +kernel
theorem dX2_put_32 : decode cX2_put 32 = .ok (.dup, 1) := by decide +kernel
theorem dX2_put_33 : decode cX2_put 33 = .ok (.getfield 21, 3) := by decide +kernel
theorem dX2_put_36 : decode cX2_put 36 = .ok (.iconst 1, 1) := by decide +kernel
theorem dX2_put_37 : decode cX2_put 37 = .ok (.iadd, 1) := by decide +kernel
theorem dX2_put_38 : decode cX2_put 38 = .ok (.putfield 21, 3) := by decide +kernel
theorem dX2_put_41 : decode cX2_put 41 = .ok (.aload_n 0, 1) := by decide +kernel
theorem dX2_put_42 : decode cX2_put 42 = .ok (.getfield 9, 3) := by decide +kernel
theorem dX2_put_45 : decode cX2_put 45 = .ok (.iload 4, 2) := by decide +kernel
theorem dX2_put_47 : decode cX2_put 47 = .ok (.iload_n 1, 1) := by decide +kernel
theorem dX2_put_48 : decode cX2_put 48 = .ok (.iastore, 1) := by decide +kernel
theorem dX2_put_49 : decode cX2_put 49 = .ok (.aload_n 0, 1) := by decide +kernel
theorem dX2_put_50 : decode cX2_put 50 = .ok (.getfield 15, 3) := by decide +kernel
theorem dX2_put_53 : decode cX2_put 53 = .ok (.iload 4, 2) := by decide +kernel
theorem dX2_put_55 : decode cX2_put 55 = .ok (.iload_n 2, 1) := by decide +kernel
theorem dX2_put_56 : decode cX2_put 56 = .ok (.iastore, 1) := by decide +kernel
theorem dX2_put_57 : decode cX2_put 57 = .ok (.aload_n 0, 1) := by decide +kernel
theorem dX2_put_58 : decode cX2_put 58 = .ok (.getfield 18, 3) := by decide +kernel
theorem dX2_put_61 : decode cX2_put 61 = .ok (.iload 4, 2) := by decide +kernel
theorem dX2_put_63 : decode cX2_put 63 = .ok (.iload_n 3, 1) := by decide +kernel
theorem dX2_put_64 : decode cX2_put 64 = .ok (.iastore, 1) := by decide +kernel
theorem dX2_put_65 : decode cX2_put 65 = .ok (.iconst 1, 1) := by decide +kernel
theorem dX2_put_66 : decode cX2_put 66 = .ok (.ireturn, 1) := by decide +kernel
theorem dX3_init_0 : decode cX3_init 0 = .ok (.aload_n 0, 1) := by decide +kernel
theorem dX3_init_1 : decode cX3_init 1 = .ok (.invokespecial 3, 3) := by decide +kernel
theorem dX3_init_4 : decode cX3_init 4 = .ok (.aload_n 0, 1) := by decide +kernel
theorem dX3_init_5 : decode cX3_init 5 = .ok (.bipush 8, 2) := by decide +kernel
theorem dX3_init_7 : decode cX3_init 7 = .ok (.newarray .int, 2) := by decide +kernel
theorem dX3_init_9 : decode cX3_init 9 = .ok (.putfield 9, 3) := by decide +kernel
theorem dX3_init_12 : decode cX3_init 12 = .ok (.aload_n 0, 1) := by decide +kernel
theorem dX3_init_13 : decode cX3_init 13 = .ok (.bipush 8, 2) := by decide +kernel
theorem dX3_init_15 : decode cX3_init 15 = .ok (.newarray .int, 2) := by decide +kernel
theorem dX3_init_17 : decode cX3_init 17 = .ok (.putfield 15, 3) := by decide +kernel
theorem dX3_init_20 : decode cX3_init 20 = .ok (.aload_n 0, 1) := by decide +kernel
theorem dX3_init_21 : decode cX3_init 21 = .ok (.iconst 0, 1) := by decide +kernel
theorem dX3_init_22 : decode cX3_init 22 = .ok (.putfield 18, 3) := by decide +kernel
theorem dX3_init_25 : decode cX3_init 25 = .ok (.return_, 1) := by decide +kernel
theorem dX3_size_0 : decode cX3_size 0 = .ok (.aload_n 0, 1) := by decide +kernel
theorem dX3_size_1 : decode cX3_size 1 = .ok (.getfield 18, 3) := by decide +kernel
theorem dX3_size_4 : decode cX3_size 4 = .ok (.ireturn, 1) := by decide +kernel
theorem dX3_add_0 : decode cX3_add 0 = .ok (.aload_n 0, 1) := by decide +kernel
theorem dX3_add_1 : decode cX3_add 1 = .ok (.getfield 18, 3) := by decide +kernel
theorem dX3_add_4 : decode cX3_add 4 = .ok (.bipush 8, 2) := by decide +kernel
theorem dX3_add_6 : decode cX3_add 6 = .ok (.if_icmp .lt 5, 3) := by decide +kernel
theorem dX3_add_9 : decode cX3_add 9 = .ok (.iconst 0, 1) := by decide +kernel
theorem dX3_add_10 : decode cX3_add 10 = .ok (.ireturn, 1) := by decide +kernel
theorem dX3_add_11 : decode cX3_add 11 = .ok (.aload_n 0, 1) := by decide +kernel
theorem dX3_add_12 : decode cX3_add 12 = .ok (.getfield 9, 3) := by decide +kernel
theorem dX3_add_15 : decode cX3_add 15 = .ok (.aload_n 0, 1) := by decide +kernel
theorem dX3_add_16 : decode cX3_add 16 = .ok (.getfield 18, 3) := by decide +kernel
theorem dX3_add_19 : decode cX3_add 19 = .ok (.iload_n 1, 1) := by decide +kernel
theorem dX3_add_20 : decode cX3_add 20 = .ok (.iastore, 1) := by decide +kernel
theorem dX3_add_21 : decode cX3_add 21 = .ok (.aload_n 0, 1) := by decide +kernel
theorem dX3_add_22 : decode cX3_add 22 = .ok (.getfield 15, 3) := by decide +kernel
theorem dX3_add_25 : decode cX3_add 25 = .ok (.aload_n 0, 1) := by decide +kernel
theorem dX3_add_26 : decode cX3_add 26 = .ok (.getfield 18, 3) := by decide +kernel
theorem dX3_add_29 : decode cX3_add 29 = .ok (.iload_n 2, 1) := by decide +kernel
theorem dX3_add_30 : decode cX3_add 30 = .ok (.iastore, 1) := by decide +kernel
theorem dX3_add_31 : decode cX3_add 31 = .ok (.aload_n 0, 1) := by decide +kernel
theorem dX3_add_32 : decode cX3_add 32 = .ok (.dup, 1) := by decide +kernel
theorem dX3_add_33 : decode cX3_add 33 = .ok (.getfield 18, 3) := by decide +kernel
theorem dX3_add_36 : decode cX3_add 36 = .ok (.iconst 1, 1) := by decide +kernel
theorem dX3_add_37 : decode cX3_add 37 = .ok (.iadd, 1) := by decide +kernel
theorem dX3_add_38 : decode cX3_add 38 = .ok (.putfield 18, 3) := by decide +kernel
theorem dX3_add_41 : decode cX3_add 41 = .ok (.iconst 1, 1) := by decide +kernel
theorem dX3_add_42 : decode cX3_add 42 = .ok (.ireturn, 1) := by decide +kernel
theorem dX3_holds_0 : decode cX3_holds 0 = .ok (.iconst 0, 1) := by decide +kernel
theorem dX3_holds_1 : decode cX3_holds 1 = .ok (.istore_n 2, 1) := by decide +kernel
theorem dX3_holds_2 : decode cX3_holds 2 = .ok (.iload_n 2, 1) := by decide +kernel
theorem dX3_holds_3 : decode cX3_holds 3 = .ok (.aload_n 0, 1) := by decide +kernel
theorem dX3_holds_4 : decode cX3_holds 4 = .ok (.getfield 18, 3) := by decide +kernel
theorem dX3_holds_7 : decode cX3_holds 7 = .ok (.if_icmp .ge 31, 3) := by decide +kernel
theorem dX3_holds_10 : decode cX3_holds 10 = .ok (.iload_n 1, 1) := by decide +kernel
theorem dX3_holds_11 : decode cX3_holds 11 = .ok (.aload_n 0, 1) := by decide +kernel
theorem dX3_holds_12 : decode cX3_holds 12 = .ok (.getfield 9, 3) := by decide +kernel
theorem dX3_holds_15 : decode cX3_holds 15 = .ok (.iload_n 2, 1) := by decide +kernel
theorem dX3_holds_16 : decode cX3_holds 16 = .ok (.iaload, 1) := by decide +kernel
theorem dX3_holds_17 : decode cX3_holds 17 = .ok (.if_icmp .lt 15, 3) := by decide +kernel
theorem dX3_holds_20 : decode cX3_holds 20 = .ok (.iload_n 1, 1) := by decide +kernel
theorem dX3_holds_21 : decode cX3_holds 21 = .ok (.aload_n 0, 1) := by decide +kernel
theorem dX3_holds_22 : decode cX3_holds 22 = .ok (.getfield 15, 3) := by decide +kernel
theorem dX3_holds_25 : decode cX3_holds 25 = .ok (.iload_n 2, 1) := by decide +kernel
theorem dX3_holds_26 : decode cX3_holds 26 = .ok (.iaload, 1) := by decide +kernel
theorem dX3_holds_27 : decode cX3_holds 27 = .ok (.if_icmp .gt 5, 3) := by decide +kernel
theorem dX3_holds_30 : decode cX3_holds 30 = .ok (.iconst 1, 1) := by decide +kernel
theorem dX3_holds_31 : decode cX3_holds 31 = .ok (.ireturn, 1) := by decide +kernel
theorem dX3_holds_32 : decode cX3_holds 32 = .ok (.iinc 2 1, 3) := by decide +kernel
theorem dX3_holds_35 : decode cX3_holds 35 = .ok (.goto (-33), 3) := by decide +kernel
theorem dX3_holds_38 : decode cX3_holds 38 = .ok (.iconst 0, 1) := by decide +kernel
theorem dX3_holds_39 : decode cX3_holds 39 = .ok (.ireturn, 1) := by decide +kernel
theorem dX4_init_0 : decode cX4_init 0 = .ok (.aload_n 0, 1) := by decide +kernel
theorem dX4_init_1 : decode cX4_init 1 = .ok (.invokespecial 1, 3) := by decide +kernel
theorem dX4_init_4 : decode cX4_init 4 = .ok (.aload_n 0, 1) := by decide +kernel
theorem dX4_init_5 : decode cX4_init 5 = .ok (.aload_n 1, 1) := by decide +kernel
theorem dX4_init_6 : decode cX4_init 6 = .ok (.invokevirtual 7, 3) := by decide +kernel
theorem dX4_init_9 : decode cX4_init 9 = .ok (.putfield 13, 3) := by decide +kernel
theorem dX4_init_12 : decode cX4_init 12 = .ok (.aload_n 0, 1) := by decide +kernel
theorem dX4_init_13 : decode cX4_init 13 = .ok (.aload_n 2, 1) := by decide +kernel
theorem dX4_init_14 : decode cX4_init 14 = .ok (.invokevirtual 7, 3) := by decide +kernel
theorem dX4_init_17 : decode cX4_init 17 = .ok (.putfield 19, 3) := by decide +kernel
theorem dX4_init_20 : decode cX4_init 20 = .ok (.return_, 1) := by decide +kernel
theorem dX4_length_0 : decode cX4_length 0 = .ok (.aload_n 0, 1) := by decide +kernel
theorem dX4_length_1 : decode cX4_length 1 = .ok (.getfield 13, 3) := by decide +kernel
theorem dX4_length_4 : decode cX4_length 4 = .ok (.arraylength, 1) := by decide +kernel
theorem dX4_length_5 : decode cX4_length 5 = .ok (.ireturn, 1) := by decide +kernel
theorem dX4_standsAt_0 : decode cX4_standsAt 0 = .ok (.aload_n 0, 1) := by decide +kernel
theorem dX4_standsAt_1 : decode cX4_standsAt 1 = .ok (.getfield 13, 3) := by decide +kernel
theorem dX4_standsAt_4 : decode cX4_standsAt 4 = .ok (.arraylength, 1) := by decide +kernel
theorem dX4_standsAt_5 : decode cX4_standsAt 5 = .ok (.aload_n 1, 1) := by decide +kernel
theorem dX4_standsAt_6 : decode cX4_standsAt 6 = .ok (.invokevirtual 22, 3) := by decide +kernel
theorem dX4_standsAt_9 : decode cX4_standsAt 9 = .ok (.iload_n 2, 1) := by decide +kernel
theorem dX4_standsAt_10 : decode cX4_standsAt 10 = .ok (.isub, 1) := by decide +kernel
theorem dX4_standsAt_11 : decode cX4_standsAt 11 = .ok (.if_icmp .le 5, 3) := by decide +kernel
theorem dX4_standsAt_14 : decode cX4_standsAt 14 = .ok (.iconst 0, 1) := by decide +kernel
theorem dX4_standsAt_15 : decode cX4_standsAt 15 = .ok (.ireturn, 1) := by decide +kernel
theorem dX4_standsAt_16 : decode cX4_standsAt 16 = .ok (.iconst 0, 1) := by decide +kernel
theorem dX4_standsAt_17 : decode cX4_standsAt 17 = .ok (.istore_n 3, 1) := by decide +kernel
theorem dX4_standsAt_18 : decode cX4_standsAt 18 = .ok (.iload_n 3, 1) := by decide +kernel
theorem dX4_standsAt_19 : decode cX4_standsAt 19 = .ok (.aload_n 0, 1) := by decide +kernel
theorem dX4_standsAt_20 : decode cX4_standsAt 20 = .ok (.getfield 13, 3) := by decide +kernel
theorem dX4_standsAt_23 : decode cX4_standsAt 23 = .ok (.arraylength, 1) := by decide +kernel
theorem dX4_standsAt_24 : decode cX4_standsAt 24 = .ok (.if_icmp .ge 27, 3) := by decide +kernel
theorem dX4_standsAt_27 : decode cX4_standsAt 27 = .ok (.aload_n 1, 1) := by decide +kernel
theorem dX4_standsAt_28 : decode cX4_standsAt 28 = .ok (.iload_n 2, 1) := by decide +kernel
theorem dX4_standsAt_29 : decode cX4_standsAt 29 = .ok (.iload_n 3, 1) := by decide +kernel
theorem dX4_standsAt_30 : decode cX4_standsAt 30 = .ok (.iadd, 1) := by decide +kernel
theorem dX4_standsAt_31 : decode cX4_standsAt 31 = .ok (.invokevirtual 26, 3) := by decide +kernel
theorem dX4_standsAt_34 : decode cX4_standsAt 34 = .ok (.aload_n 0, 1) := by decide +kernel
theorem dX4_standsAt_35 : decode cX4_standsAt 35 = .ok (.getfield 13, 3) := by decide +kernel
theorem dX4_standsAt_38 : decode cX4_standsAt 38 = .ok (.iload_n 3, 1) := by decide +kernel
theorem dX4_standsAt_39 : decode cX4_standsAt 39 = .ok (.iaload, 1) := by decide +kernel
theorem dX4_standsAt_40 : decode cX4_standsAt 40 = .ok (.if_icmp .eq 5, 3) := by decide +kernel
theorem dX4_standsAt_43 : decode cX4_standsAt 43 = .ok (.iconst 0, 1) := by decide +kernel
theorem dX4_standsAt_44 : decode cX4_standsAt 44 = .ok (.ireturn, 1) := by decide +kernel
theorem dX4_standsAt_45 : decode cX4_standsAt 45 = .ok (.iinc 3 1, 3) := by decide +kernel
theorem dX4_standsAt_48 : decode cX4_standsAt 48 = .ok (.goto (-30), 3) := by decide +kernel
theorem dX4_standsAt_51 : decode cX4_standsAt 51 = .ok (.iconst 1, 1) := by decide +kernel
theorem dX4_standsAt_52 : decode cX4_standsAt 52 = .ok (.ireturn, 1) := by decide +kernel
theorem dX4_writeTo_0 : decode cX4_writeTo 0 = .ok (.iconst 1, 1) := by decide +kernel
theorem dX4_writeTo_1 : decode cX4_writeTo 1 = .ok (.istore 4, 2) := by decide +kernel
theorem dX4_writeTo_3 : decode cX4_writeTo 3 = .ok (.iconst 0, 1) := by decide +kernel
theorem dX4_writeTo_4 : decode cX4_writeTo 4 = .ok (.istore 5, 2) := by decide +kernel
theorem dX4_writeTo_6 : decode cX4_writeTo 6 = .ok (.iload 5, 2) := by decide +kernel
theorem dX4_writeTo_8 : decode cX4_writeTo 8 = .ok (.aload_n 0, 1) := by decide +kernel
theorem dX4_writeTo_9 : decode cX4_writeTo 9 = .ok (.getfield 19, 3) := by decide +kernel
theorem dX4_writeTo_12 : decode cX4_writeTo 12 = .ok (.arraylength, 1) := by decide +kernel
theorem dX4_writeTo_13 : decode cX4_writeTo 13 = .ok (.if_icmp .ge 29, 3) := by decide +kernel
theorem dX4_writeTo_16 : decode cX4_writeTo 16 = .ok (.iload 4, 2) := by decide +kernel
theorem dX4_writeTo_18 : decode cX4_writeTo 18 = .ok (.ifCond .eq 24, 3) := by decide +kernel
theorem dX4_writeTo_21 : decode cX4_writeTo 21 = .ok (.aload_n 1, 1) := by decide +kernel
theorem dX4_writeTo_22 : decode cX4_writeTo 22 = .ok (.aload_n 0, 1) := by decide +kernel
theorem dX4_writeTo_23 : decode cX4_writeTo 23 = .ok (.getfield 19, 3) := by decide +kernel
theorem dX4_writeTo_26 : decode cX4_writeTo 26 = .ok (.iload 5, 2) := by decide +kernel
theorem dX4_writeTo_28 : decode cX4_writeTo 28 = .ok (.iaload, 1) := by decide +kernel
theorem dX4_writeTo_29 : decode cX4_writeTo 29 = .ok (.iload_n 2, 1) := by decide +kernel
theorem dX4_writeTo_30 : decode cX4_writeTo 30 = .ok (.iload_n 3, 1) := by decide +kernel
theorem dX4_writeTo_31 : decode cX4_writeTo 31 = .ok (.invokevirtual 30, 3) := by decide +kernel
theorem dX4_writeTo_34 : decode cX4_writeTo 34 = .ok (.istore 4, 2) := by decide +kernel
theorem dX4_writeTo_36 : decode cX4_writeTo 36 = .ok (.iinc 5 1, 3) := by decide +kernel
theorem dX4_writeTo_39 : decode cX4_writeTo 39 = .ok (.goto (-33), 3) := by decide +kernel
theorem dX4_writeTo_42 : decode cX4_writeTo 42 = .ok (.iload 4, 2) := by decide +kernel
theorem dX4_writeTo_44 : decode cX4_writeTo 44 = .ok (.ireturn, 1) := by decide +kernel
theorem dX5_init_0 : decode cX5_init 0 = .ok (.aload_n 0, 1) := by decide +kernel
theorem dX5_init_1 : decode cX5_init 1 = .ok (.invokespecial 3, 3) := by decide +kernel
theorem dX5_init_4 : decode cX5_init 4 = .ok (.aload_n 0, 1) := by decide +kernel
theorem dX5_init_5 : decode cX5_init 5 = .ok (.sipush 300, 3) := by decide +kernel
theorem dX5_init_8 : decode cX5_init 8 = .ok (.newarray .int, 2) := by decide +kernel
theorem dX5_init_10 : decode cX5_init 10 = .ok (.putfield 9, 3) := by decide +kernel
theorem dX5_init_13 : decode cX5_init 13 = .ok (.aload_n 0, 1) := by decide +kernel
theorem dX5_init_14 : decode cX5_init 14 = .ok (.sipush 300, 3) := by decide +kernel
theorem dX5_init_17 : decode cX5_init 17 = .ok (.newarray .int, 2) := by decide +kernel
theorem dX5_init_19 : decode cX5_init 19 = .ok (.putfield 15, 3) := by decide +kernel
theorem dX5_init_22 : decode cX5_init 22 = .ok (.aload_n 0, 1) := by decide +kernel
theorem dX5_init_23 : decode cX5_init 23 = .ok (.sipush 300, 3) := by decide +kernel
theorem dX5_init_26 : decode cX5_init 26 = .ok (.newarray .int, 2) := by decide +kernel
theorem dX5_init_28 : decode cX5_init 28 = .ok (.putfield 18, 3) := by decide +kernel
theorem dX5_init_31 : decode cX5_init 31 = .ok (.aload_n 0, 1) := by decide +kernel
theorem dX5_init_32 : decode cX5_init 32 = .ok (.iconst 0, 1) := by decide +kernel
theorem dX5_init_33 : decode cX5_init 33 = .ok (.putfield 21, 3) := by decide +kernel
theorem dX5_init_36 : decode cX5_init 36 = .ok (.return_, 1) := by decide +kernel
theorem dX5_size_0 : decode cX5_size 0 = .ok (.aload_n 0, 1) := by decide +kernel
theorem dX5_size_1 : decode cX5_size 1 = .ok (.getfield 21, 3) := by decide +kernel
theorem dX5_size_4 : decode cX5_size 4 = .ok (.ireturn, 1) := by decide +kernel
theorem dX5_has_0 : decode cX5_has 0 = .ok (.iload_n 1, 1) := by decide +kernel
theorem dX5_has_1 : decode cX5_has 1 = .ok (.ifCond .lt 15, 3) := by decide +kernel
theorem dX5_has_4 : decode cX5_has 4 = .ok (.iload_n 1, 1) := by decide +kernel
theorem dX5_has_5 : decode cX5_has 5 = .ok (.aload_n 0, 1) := by decide +kernel
theorem dX5_has_6 : decode cX5_has 6 = .ok (.getfield 21, 3) := by decide +kernel
theorem dX5_has_9 : decode cX5_has 9 = .ok (.if_icmp .ge 7, 3) := by decide +kernel
theorem dX5_has_12 : decode cX5_has 12 = .ok (.iconst 1, 1) := by decide +kernel
theorem dX5_has_13 : decode cX5_has 13 = .ok (.goto 4, 3) := by decide +kernel
theorem dX5_has_16 : decode cX5_has 16 = .ok (.iconst 0, 1) := by decide +kernel
theorem dX5_has_17 : decode cX5_has 17 = .ok (.ireturn, 1) := by decide +kernel
theorem dX5_signAt_0 : decode cX5_signAt 0 = .ok (.aload_n 0, 1) := by decide +kernel
theorem dX5_signAt_1 : decode cX5_signAt 1 = .ok (.iload_n 1, 1) := by decide +kernel
theorem dX5_signAt_2 : decode cX5_signAt 2 = .ok (.invokevirtual 25, 3) := by decide +kernel
theorem dX5_signAt_5 : decode cX5_signAt 5 = .ok (.ifCond .eq 12, 3) := by decide +kernel
theorem dX5_signAt_8 : decode cX5_signAt 8 = .ok (.aload_n 0, 1) := by decide +kernel
theorem dX5_signAt_9 : decode cX5_signAt 9 = .ok (.getfield 9, 3) := by decide +kernel
theorem dX5_signAt_12 : decode cX5_signAt 12 = .ok (.iload_n 1, 1) := by decide +kernel
theorem dX5_signAt_13 : decode cX5_signAt 13 = .ok (.iaload, 1) := by decide +kernel
theorem dX5_signAt_14 : decode cX5_signAt 14 = .ok (.goto 4, 3) := by decide +kernel
theorem dX5_signAt_17 : decode cX5_signAt 17 = .ok (.iconst (-1), 1) := by decide +kernel
theorem dX5_signAt_18 : decode cX5_signAt 18 = .ok (.ireturn, 1) := by decide +kernel
theorem dX5_beginAt_0 : decode cX5_beginAt 0 = .ok (.aload_n 0, 1) := by decide +kernel
theorem dX5_beginAt_1 : decode cX5_beginAt 1 = .ok (.iload_n 1, 1) := by decide +kernel
theorem dX5_beginAt_2 : decode cX5_beginAt 2 = .ok (.invokevirtual 25, 3) := by decide +kernel
theorem dX5_beginAt_5 : decode cX5_beginAt 5 = .ok (.ifCond .eq 12, 3) := by decide +kernel
theorem dX5_beginAt_8 : decode cX5_beginAt 8 = .ok (.aload_n 0, 1) := by decide +kernel
theorem dX5_beginAt_9 : decode cX5_beginAt 9 = .ok (.getfield 15, 3) := by decide +kernel
theorem dX5_beginAt_12 : decode cX5_beginAt 12 = .ok (.iload_n 1, 1) := by decide +kernel
theorem dX5_beginAt_13 : decode cX5_beginAt 13 = .ok (.iaload, 1) := by decide +kernel
theorem dX5_beginAt_14 : decode cX5_beginAt 14 = .ok (.goto 4, 3) := by decide +kernel
theorem dX5_beginAt_17 : decode cX5_beginAt 17 = .ok (.iconst 0, 1) := by decide +kernel
theorem dX5_beginAt_18 : decode cX5_beginAt 18 = .ok (.ireturn, 1) := by decide +kernel
theorem dX5_endAt_0 : decode cX5_endAt 0 = .ok (.aload_n 0, 1) := by decide +kernel
theorem dX5_endAt_1 : decode cX5_endAt 1 = .ok (.iload_n 1, 1) := by decide +kernel
theorem dX5_endAt_2 : decode cX5_endAt 2 = .ok (.invokevirtual 25, 3) := by decide +kernel
theorem dX5_endAt_5 : decode cX5_endAt 5 = .ok (.ifCond .eq 12, 3) := by decide +kernel
theorem dX5_endAt_8 : decode cX5_endAt 8 = .ok (.aload_n 0, 1) := by decide +kernel
theorem dX5_endAt_9 : decode cX5_endAt 9 = .ok (.getfield 18, 3) := by decide +kernel
theorem dX5_endAt_12 : decode cX5_endAt 12 = .ok (.iload_n 1, 1) := by decide +kernel
theorem dX5_endAt_13 : decode cX5_endAt 13 = .ok (.iaload, 1) := by decide +kernel
theorem dX5_endAt_14 : decode cX5_endAt 14 = .ok (.goto 4, 3) := by decide +kernel
theorem dX5_endAt_17 : decode cX5_endAt 17 = .ok (.iconst 0, 1) := by decide +kernel
theorem dX5_endAt_18 : decode cX5_endAt 18 = .ok (.ireturn, 1) := by decide +kernel
theorem dX5_clear_0 : decode cX5_clear 0 = .ok (.aload_n 0, 1) := by decide +kernel
theorem dX5_clear_1 : decode cX5_clear 1 = .ok (.iconst 0, 1) := by decide +kernel
theorem dX5_clear_2 : decode cX5_clear 2 = .ok (.putfield 21, 3) := by decide +kernel
theorem dX5_clear_5 : decode cX5_clear 5 = .ok (.return_, 1) := by decide +kernel
theorem dX5_add_0 : decode cX5_add 0 = .ok (.aload_n 0, 1) := by decide +kernel
theorem dX5_add_1 : decode cX5_add 1 = .ok (.getfield 21, 3) := by decide +kernel
theorem dX5_add_4 : decode cX5_add 4 = .ok (.sipush 300, 3) := by decide +kernel
theorem dX5_add_7 : decode cX5_add 7 = .ok (.if_icmp .lt 5, 3) := by decide +kernel
theorem dX5_add_10 : decode cX5_add 10 = .ok (.iconst 0, 1) := by decide +kernel
theorem dX5_add_11 : decode cX5_add 11 = .ok (.ireturn, 1) := by decide +kernel
theorem dX5_add_12 : decode cX5_add 12 = .ok (.aload_n 0, 1) := by decide +kernel
theorem dX5_add_13 : decode cX5_add 13 = .ok (.getfield 9, 3) := by decide +kernel
theorem dX5_add_16 : decode cX5_add 16 = .ok (.aload_n 0, 1) := by decide +kernel
theorem dX5_add_17 : decode cX5_add 17 = .ok (.getfield 21, 3) := by decide +kernel
theorem dX5_add_20 : decode cX5_add 20 = .ok (.iload_n 1, 1) := by decide +kernel
theorem dX5_add_21 : decode cX5_add 21 = .ok (.iastore, 1) := by decide +kernel
theorem dX5_add_22 : decode cX5_add 22 = .ok (.aload_n 0, 1) := by decide +kernel
theorem dX5_add_23 : decode cX5_add 23 = .ok (.getfield 15, 3) := by decide +kernel
theorem dX5_add_26 : decode cX5_add 26 = .ok (.aload_n 0, 1) := by decide +kernel
theorem dX5_add_27 : decode cX5_add 27 = .ok (.getfield 21, 3) := by decide +kernel
theorem dX5_add_30 : decode cX5_add 30 = .ok (.iload_n 2, 1) := by decide +kernel
theorem dX5_add_31 : decode cX5_add 31 = .ok (.iastore, 1) := by decide +kernel
theorem dX5_add_32 : decode cX5_add 32 = .ok (.aload_n 0, 1) := by decide +kernel
theorem dX5_add_33 : decode cX5_add 33 = .ok (.getfield 18, 3) := by decide +kernel
theorem dX5_add_36 : decode cX5_add 36 = .ok (.aload_n 0, 1) := by decide +kernel
theorem dX5_add_37 : decode cX5_add 37 = .ok (.getfield 21, 3) := by decide +kernel
theorem dX5_add_40 : decode cX5_add 40 = .ok (.iload_n 3, 1) := by decide +kernel
theorem dX5_add_41 : decode cX5_add 41 = .ok (.iastore, 1) := by decide +kernel
theorem dX5_add_42 : decode cX5_add 42 = .ok (.aload_n 0, 1) := by decide +kernel
theorem dX5_add_43 : decode cX5_add 43 = .ok (.dup, 1) := by decide +kernel
theorem dX5_add_44 : decode cX5_add 44 = .ok (.getfield 21, 3) := by decide +kernel
theorem dX5_add_47 : decode cX5_add 47 = .ok (.iconst 1, 1) := by decide +kernel
theorem dX5_add_48 : decode cX5_add 48 = .ok (.iadd, 1) := by decide +kernel
theorem dX5_add_49 : decode cX5_add 49 = .ok (.putfield 21, 3) := by decide +kernel
theorem dX5_add_52 : decode cX5_add 52 = .ok (.iconst 1, 1) := by decide +kernel
theorem dX5_add_53 : decode cX5_add 53 = .ok (.ireturn, 1) := by decide +kernel
theorem dX5_changeLast_0 : decode cX5_changeLast 0 = .ok (.aload_n 0, 1) := by decide +kernel
theorem dX5_changeLast_1 : decode cX5_changeLast 1 = .ok (.getfield 21, 3) := by decide +kernel
theorem dX5_changeLast_4 : decode cX5_changeLast 4 = .ok (.ifCond .le 27, 3) := by decide +kernel
theorem dX5_changeLast_7 : decode cX5_changeLast 7 = .ok (.aload_n 0, 1) := by decide +kernel
theorem dX5_changeLast_8 : decode cX5_changeLast 8 = .ok (.getfield 9, 3) := by decide +kernel
theorem dX5_changeLast_11 : decode cX5_changeLast 11 = .ok (.aload_n 0, 1) := by decide +kernel
theorem dX5_changeLast_12 : decode cX5_changeLast 12 = .ok (.getfield 21, 3) := by decide +kernel
theorem dX5_changeLast_15 : decode cX5_changeLast 15 = .ok (.iconst 1, 1) := by decide +kernel
theorem dX5_changeLast_16 : decode cX5_changeLast 16 = .ok (.isub, 1) := by decide +kernel
theorem dX5_changeLast_17 : decode cX5_changeLast 17 = .ok (.iload_n 1, 1) := by decide +kernel
theorem dX5_changeLast_18 : decode cX5_changeLast 18 = .ok (.iastore, 1) := by decide +kernel
theorem dX5_changeLast_19 : decode cX5_changeLast 19 = .ok (.aload_n 0, 1) := by decide +kernel
theorem dX5_changeLast_20 : decode cX5_changeLast 20 = .ok (.getfield 18, 3) := by decide +kernel
theorem dX5_changeLast_23 : decode cX5_changeLast 23 = .ok (.aload_n 0, 1) := by decide +kernel
theorem dX5_changeLast_24 : decode cX5_changeLast 24 = .ok (.getfield 21, 3) := by decide +kernel
theorem dX5_changeLast_27 : decode cX5_changeLast 27 = .ok (.iconst 1, 1) := by decide +kernel
theorem dX5_changeLast_28 : decode cX5_changeLast 28 = .ok (.isub, 1) := by decide +kernel
theorem dX5_changeLast_29 : decode cX5_changeLast 29 = .ok (.iload_n 2, 1) := by decide +kernel
theorem dX5_changeLast_30 : decode cX5_changeLast 30 = .ok (.iastore, 1) := by decide +kernel
theorem dX5_changeLast_31 : decode cX5_changeLast 31 = .ok (.return_, 1) := by decide +kernel
theorem dX5_copyFrom_0 : decode cX5_copyFrom 0 = .ok (.aload_n 0, 1) := by decide +kernel
theorem dX5_copyFrom_1 : decode cX5_copyFrom 1 = .ok (.invokevirtual 29, 3) := by decide +kernel
theorem dX5_copyFrom_4 : decode cX5_copyFrom 4 = .ok (.iconst 0, 1) := by decide +kernel
theorem dX5_copyFrom_5 : decode cX5_copyFrom 5 = .ok (.istore_n 2, 1) := by decide +kernel
theorem dX5_copyFrom_6 : decode cX5_copyFrom 6 = .ok (.iload_n 2, 1) := by decide +kernel
theorem dX5_copyFrom_7 : decode cX5_copyFrom 7 = .ok (.aload_n 1, 1) := by decide +kernel
theorem dX5_copyFrom_8 : decode cX5_copyFrom 8 = .ok (.invokevirtual 32, 3) := by decide +kernel
theorem dX5_copyFrom_11 : decode cX5_copyFrom 11 = .ok (.if_icmp .ge 29, 3) := by decide +kernel
theorem dX5_copyFrom_14 : decode cX5_copyFrom 14 = .ok (.aload_n 0, 1) := by decide +kernel
theorem dX5_copyFrom_15 : decode cX5_copyFrom 15 = .ok (.aload_n 1, 1) := by decide +kernel
theorem dX5_copyFrom_16 : decode cX5_copyFrom 16 = .ok (.iload_n 2, 1) := by decide +kernel
theorem dX5_copyFrom_17 : decode cX5_copyFrom 17 = .ok (.invokevirtual 35, 3) := by decide +kernel
theorem dX5_copyFrom_20 : decode cX5_copyFrom 20 = .ok (.aload_n 1, 1) := by decide +kernel
theorem dX5_copyFrom_21 : decode cX5_copyFrom 21 = .ok (.iload_n 2, 1) := by decide +kernel
theorem dX5_copyFrom_22 : decode cX5_copyFrom 22 = .ok (.invokevirtual 39, 3) := by decide +kernel
theorem dX5_copyFrom_25 : decode cX5_copyFrom 25 = .ok (.aload_n 1, 1) := by decide +kernel
theorem dX5_copyFrom_26 : decode cX5_copyFrom 26 = .ok (.iload_n 2, 1) := by decide +kernel
theorem dX5_copyFrom_27 : decode cX5_copyFrom 27 = .ok (.invokevirtual 42, 3) := by decide +kernel
theorem dX5_copyFrom_30 : decode cX5_copyFrom 30 = .ok (.invokevirtual 45, 3) := by decide +kernel
theorem dX5_copyFrom_33 : decode cX5_copyFrom 33 = .ok (.pop, 1) := by decide +kernel
theorem dX5_copyFrom_34 : decode cX5_copyFrom 34 = .ok (.iinc 2 1, 3) := by decide +kernel
theorem dX5_copyFrom_37 : decode cX5_copyFrom 37 = .ok (.goto (-31), 3) := by decide +kernel
theorem dX5_copyFrom_40 : decode cX5_copyFrom 40 = .ok (.return_, 1) := by decide +kernel
theorem dX5_signsAlone_0 : decode cX5_signsAlone 0 = .ok (.aload_n 0, 1) := by decide +kernel
theorem dX5_signsAlone_1 : decode cX5_signsAlone 1 = .ok (.getfield 9, 3) := by decide +kernel
theorem dX5_signsAlone_4 : decode cX5_signsAlone 4 = .ok (.aload_n 0, 1) := by decide +kernel
theorem dX5_signsAlone_5 : decode cX5_signsAlone 5 = .ok (.getfield 21, 3) := by decide +kernel
theorem dX5_signsAlone_8 : decode cX5_signsAlone 8 = .ok (.invokestatic 49, 3) := by decide +kernel
theorem dX5_signsAlone_11 : decode cX5_signsAlone 11 = .ok (.areturn, 1) := by decide +kernel
theorem dX6_init_0 : decode cX6_init 0 = .ok (.aload_n 0, 1) := by decide +kernel
theorem dX6_init_1 : decode cX6_init 1 = .ok (.invokespecial 3, 3) := by decide +kernel
theorem dX6_init_4 : decode cX6_init 4 = .ok (.aload_n 0, 1) := by decide +kernel
theorem dX6_init_5 : decode cX6_init 5 = .ok (.bipush 20, 2) := by decide +kernel
theorem dX6_init_7 : decode cX6_init 7 = .ok (.anewarray 9, 3) := by decide +kernel
theorem dX6_init_10 : decode cX6_init 10 = .ok (.putfield 11, 3) := by decide +kernel
theorem dX6_init_13 : decode cX6_init 13 = .ok (.aload_n 0, 1) := by decide +kernel
theorem dX6_init_14 : decode cX6_init 14 = .ok (.iconst 0, 1) := by decide +kernel
theorem dX6_init_15 : decode cX6_init 15 = .ok (.putfield 17, 3) := by decide +kernel
theorem dX6_init_18 : decode cX6_init 18 = .ok (.return_, 1) := by decide +kernel
theorem dX6_size_0 : decode cX6_size 0 = .ok (.aload_n 0, 1) := by decide +kernel
theorem dX6_size_1 : decode cX6_size 1 = .ok (.getfield 17, 3) := by decide +kernel
theorem dX6_size_4 : decode cX6_size 4 = .ok (.ireturn, 1) := by decide +kernel
theorem dX6_put_0 : decode cX6_put 0 = .ok (.aload_n 0, 1) := by decide +kernel
theorem dX6_put_1 : decode cX6_put 1 = .ok (.aload_n 1, 1) := by decide +kernel
theorem dX6_put_2 : decode cX6_put 2 = .ok (.invokevirtual 21, 3) := by decide +kernel
theorem dX6_put_5 : decode cX6_put 5 = .ok (.istore_n 3, 1) := by decide +kernel
theorem dX6_put_6 : decode cX6_put 6 = .ok (.iload_n 3, 1) := by decide +kernel
theorem dX6_put_7 : decode cX6_put 7 = .ok (.iconst (-1), 1) := by decide +kernel
theorem dX6_put_8 : decode cX6_put 8 = .ok (.if_icmp .ne 29, 3) := by decide +kernel
theorem dX6_put_11 : decode cX6_put 11 = .ok (.aload_n 0, 1) := by decide +kernel
theorem dX6_put_12 : decode cX6_put 12 = .ok (.getfield 17, 3) := by decide +kernel
theorem dX6_put_15 : decode cX6_put 15 = .ok (.bipush 20, 2) := by decide +kernel
theorem dX6_put_17 : decode cX6_put 17 = .ok (.if_icmp .lt 5, 3) := by decide +kernel
theorem dX6_put_20 : decode cX6_put 20 = .ok (.iconst 0, 1) := by decide +kernel
theorem dX6_put_21 : decode cX6_put 21 = .ok (.ireturn, 1) := by decide +kernel
theorem dX6_put_22 : decode cX6_put 22 = .ok (.aload_n 0, 1) := by decide +kernel
theorem dX6_put_23 : decode cX6_put 23 = .ok (.getfield 17, 3) := by decide +kernel
theorem dX6_put_26 : decode cX6_put 26 = .ok (.istore_n 3, 1) := by decide +kernel
theorem dX6_put_27 : decode cX6_put 27 = .ok (.aload_n 0, 1) := by decide +kernel
theorem dX6_put_28 : decode cX6_put 28 = .ok (.dup, 1) := by decide +kernel
theorem dX6_put_29 : decode cX6_put 29 = .ok (.getfield 17, 3) := by decide +kernel
theorem dX6_put_32 : decode cX6_put 32 = .ok (.iconst 1, 1) := by decide +kernel
theorem dX6_put_33 : decode cX6_put 33 = .ok (.iadd, 1) := by decide +kernel
theorem dX6_put_34 : decode cX6_put 34 = .ok (.putfield 17, 3) := by decide +kernel
theorem dX6_put_37 : decode cX6_put 37 = .ok (.aload_n 0, 1) := by decide +kernel
theorem dX6_put_38 : decode cX6_put 38 = .ok (.getfield 11, 3) := by decide +kernel
theorem dX6_put_41 : decode cX6_put 41 = .ok (.iload_n 3, 1) := by decide +kernel
theorem dX6_put_42 : decode cX6_put 42 = .ok (.new 9, 3) := by decide +kernel
theorem dX6_put_45 : decode cX6_put 45 = .ok (.dup, 1) := by decide +kernel
theorem dX6_put_46 : decode cX6_put 46 = .ok (.aload_n 1, 1) := by decide +kernel
theorem dX6_put_47 : decode cX6_put 47 = .ok (.aload_n 2, 1) := by decide +kernel
theorem dX6_put_48 : decode cX6_put 48 = .ok (.invokespecial 25, 3) := by decide +kernel
theorem dX6_put_51 : decode cX6_put 51 = .ok (.aastore, 1) := by decide +kernel
theorem dX6_put_52 : decode cX6_put 52 = .ok (.iconst 1, 1) := by decide +kernel
theorem dX6_put_53 : decode cX6_put 53 = .ok (.ireturn, 1) := by decide +kernel
theorem dX6_slotOf_0 : decode cX6_slotOf 0 = .ok (.iconst 0, 1) := by decide +kernel
theorem dX6_slotOf_1 : decode cX6_slotOf 1 = .ok (.istore_n 2, 1) := by decide +kernel
theorem dX6_slotOf_2 : decode cX6_slotOf 2 = .ok (.iload_n 2, 1) := by decide +kernel
theorem dX6_slotOf_3 : decode cX6_slotOf 3 = .ok (.aload_n 0, 1) := by decide +kernel
theorem dX6_slotOf_4 : decode cX6_slotOf 4 = .ok (.getfield 17, 3) := by decide +kernel
theorem dX6_slotOf_7 : decode cX6_slotOf 7 = .ok (.if_icmp .ge 42, 3) := by decide +kernel
theorem dX6_slotOf_10 : decode cX6_slotOf 10 = .ok (.aload_n 0, 1) := by decide +kernel
theorem dX6_slotOf_11 : decode cX6_slotOf 11 = .ok (.getfield 11, 3) := by decide +kernel
theorem dX6_slotOf_14 : decode cX6_slotOf 14 = .ok (.iload_n 2, 1) := by decide +kernel
theorem dX6_slotOf_15 : decode cX6_slotOf 15 = .ok (.aaload, 1) := by decide +kernel
theorem dX6_slotOf_16 : decode cX6_slotOf 16 = .ok (.astore_n 3, 1) := by decide +kernel
theorem dX6_slotOf_17 : decode cX6_slotOf 17 = .ok (.aload_n 3, 1) := by decide +kernel
theorem dX6_slotOf_18 : decode cX6_slotOf 18 = .ok (.ifnull 25, 3) := by decide +kernel
theorem dX6_slotOf_21 : decode cX6_slotOf 21 = .ok (.aload_n 3, 1) := by decide +kernel
theorem dX6_slotOf_22 : decode cX6_slotOf 22 = .ok (.invokevirtual 28, 3) := by decide +kernel
theorem dX6_slotOf_25 : decode cX6_slotOf 25 = .ok (.aload_n 1, 1) := by decide +kernel
theorem dX6_slotOf_26 : decode cX6_slotOf 26 = .ok (.invokevirtual 32, 3) := by decide +kernel
theorem dX6_slotOf_29 : decode cX6_slotOf 29 = .ok (.if_icmp .ne 14, 3) := by decide +kernel
theorem dX6_slotOf_32 : decode cX6_slotOf 32 = .ok (.aload_n 3, 1) := by decide +kernel
theorem dX6_slotOf_33 : decode cX6_slotOf 33 = .ok (.aload_n 1, 1) := by decide +kernel
theorem dX6_slotOf_34 : decode cX6_slotOf 34 = .ok (.iconst 0, 1) := by decide +kernel
theorem dX6_slotOf_35 : decode cX6_slotOf 35 = .ok (.invokevirtual 36, 3) := by decide +kernel
theorem dX6_slotOf_38 : decode cX6_slotOf 38 = .ok (.ifCond .eq 5, 3) := by decide +kernel
theorem dX6_slotOf_41 : decode cX6_slotOf 41 = .ok (.iload_n 2, 1) := by decide +kernel
theorem dX6_slotOf_42 : decode cX6_slotOf 42 = .ok (.ireturn, 1) := by decide +kernel
theorem dX6_slotOf_43 : decode cX6_slotOf 43 = .ok (.iinc 2 1, 3) := by decide +kernel
theorem dX6_slotOf_46 : decode cX6_slotOf 46 = .ok (.goto (-44), 3) := by decide +kernel
theorem dX6_slotOf_49 : decode cX6_slotOf 49 = .ok (.iconst (-1), 1) := by decide +kernel
theorem dX6_slotOf_50 : decode cX6_slotOf 50 = .ok (.ireturn, 1) := by decide +kernel
theorem dX6_longestAt_0 : decode cX6_longestAt 0 = .ok (.aconst_null, 1) := by decide +kernel
theorem dX6_longestAt_1 : decode cX6_longestAt 1 = .ok (.astore_n 3, 1) := by decide +kernel
theorem dX6_longestAt_2 : decode cX6_longestAt 2 = .ok (.iconst 0, 1) := by decide +kernel
theorem dX6_longestAt_3 : decode cX6_longestAt 3 = .ok (.istore 4, 2) := by decide +kernel
theorem dX6_longestAt_5 : decode cX6_longestAt 5 = .ok (.iload 4, 2) := by decide +kernel
theorem dX6_longestAt_7 : decode cX6_longestAt 7 = .ok (.aload_n 0, 1) := by decide +kernel
theorem dX6_longestAt_8 : decode cX6_longestAt 8 = .ok (.getfield 17, 3) := by decide +kernel
theorem dX6_longestAt_11 : decode cX6_longestAt 11 = .ok (.if_icmp .ge 52, 3) := by decide +kernel
theorem dX6_longestAt_14 : decode cX6_longestAt 14 = .ok (.aload_n 0, 1) := by decide +kernel
theorem dX6_longestAt_15 : decode cX6_longestAt 15 = .ok (.getfield 11, 3) := by decide +kernel
theorem dX6_longestAt_18 : decode cX6_longestAt 18 = .ok (.iload 4, 2) := by decide +kernel
theorem dX6_longestAt_20 : decode cX6_longestAt 20 = .ok (.aaload, 1) := by decide +kernel
theorem dX6_longestAt_21 : decode cX6_longestAt 21 = .ok (.astore 5, 2) := by decide +kernel
theorem dX6_longestAt_23 : decode cX6_longestAt 23 = .ok (.aload 5, 2) := by decide +kernel
theorem dX6_longestAt_25 : decode cX6_longestAt 25 = .ok (.ifnull 32, 3) := by decide +kernel
theorem dX6_longestAt_28 : decode cX6_longestAt 28 = .ok (.aload 5, 2) := by decide +kernel
theorem dX6_longestAt_30 : decode cX6_longestAt 30 = .ok (.aload_n 1, 1) := by decide +kernel
theorem dX6_longestAt_31 : decode cX6_longestAt 31 = .ok (.iload_n 2, 1) := by decide +kernel
theorem dX6_longestAt_32 : decode cX6_longestAt 32 = .ok (.invokevirtual 36, 3) := by decide +kernel
theorem dX6_longestAt_35 : decode cX6_longestAt 35 = .ok (.ifCond .eq 22, 3) := by decide +kernel
theorem dX6_longestAt_38 : decode cX6_longestAt 38 = .ok (.aload_n 3, 1) := by decide +kernel
theorem dX6_longestAt_39 : decode cX6_longestAt 39 = .ok (.ifnull 15, 3) := by decide +kernel
theorem dX6_longestAt_42 : decode cX6_longestAt 42 = .ok (.aload 5, 2) := by decide +kernel
theorem dX6_longestAt_44 : decode cX6_longestAt 44 = .ok (.invokevirtual 28, 3) := by decide +kernel
theorem dX6_longestAt_47 : decode cX6_longestAt 47 = .ok (.aload_n 3, 1) := by decide +kernel
theorem dX6_longestAt_48 : decode cX6_longestAt 48 = .ok (.invokevirtual 28, 3) := by decide +kernel
theorem dX6_longestAt_51 : decode cX6_longestAt 51 = .ok (.if_icmp .le 6, 3) := by decide +kernel
theorem dX6_longestAt_54 : decode cX6_longestAt 54 = .ok (.aload 5, 2) := by decide +kernel
theorem dX6_longestAt_56 : decode cX6_longestAt 56 = .ok (.astore_n 3, 1) := by decide +kernel
theorem dX6_longestAt_57 : decode cX6_longestAt 57 = .ok (.iinc 4 1, 3) := by decide +kernel
theorem dX6_longestAt_60 : decode cX6_longestAt 60 = .ok (.goto (-55), 3) := by decide +kernel
theorem dX6_longestAt_63 : decode cX6_longestAt 63 = .ok (.aload_n 3, 1) := by decide +kernel
theorem dX6_longestAt_64 : decode cX6_longestAt 64 = .ok (.areturn, 1) := by decide +kernel
theorem dX7_init_0 : decode cX7_init 0 = .ok (.aload_n 0, 1) := by decide +kernel
theorem dX7_init_1 : decode cX7_init 1 = .ok (.invokespecial 3, 3) := by decide +kernel
theorem dX7_init_4 : decode cX7_init 4 = .ok (.aload_n 0, 1) := by decide +kernel
theorem dX7_init_5 : decode cX7_init 5 = .ok (.bipush 10, 2) := by decide +kernel
theorem dX7_init_7 : decode cX7_init 7 = .ok (.newarray .int, 2) := by decide +kernel
theorem dX7_init_9 : decode cX7_init 9 = .ok (.putfield 9, 3) := by decide +kernel
theorem dX7_init_12 : decode cX7_init 12 = .ok (.aload_n 0, 1) := by decide +kernel
theorem dX7_init_13 : decode cX7_init 13 = .ok (.iconst 0, 1) := by decide +kernel
theorem dX7_init_14 : decode cX7_init 14 = .ok (.putfield 15, 3) := by decide +kernel
theorem dX7_init_17 : decode cX7_init 17 = .ok (.return_, 1) := by decide +kernel
theorem dX7_size_0 : decode cX7_size 0 = .ok (.aload_n 0, 1) := by decide +kernel
theorem dX7_size_1 : decode cX7_size 1 = .ok (.getfield 15, 3) := by decide +kernel
theorem dX7_size_4 : decode cX7_size 4 = .ok (.ireturn, 1) := by decide +kernel
theorem dX7_add_0 : decode cX7_add 0 = .ok (.aload_n 0, 1) := by decide +kernel
theorem dX7_add_1 : decode cX7_add 1 = .ok (.getfield 15, 3) := by decide +kernel
theorem dX7_add_4 : decode cX7_add 4 = .ok (.bipush 10, 2) := by decide +kernel
theorem dX7_add_6 : decode cX7_add 6 = .ok (.if_icmp .lt 5, 3) := by decide +kernel
theorem dX7_add_9 : decode cX7_add 9 = .ok (.iconst 0, 1) := by decide +kernel
theorem dX7_add_10 : decode cX7_add 10 = .ok (.ireturn, 1) := by decide +kernel
theorem dX7_add_11 : decode cX7_add 11 = .ok (.aload_n 0, 1) := by decide +kernel
theorem dX7_add_12 : decode cX7_add 12 = .ok (.getfield 9, 3) := by decide +kernel
theorem dX7_add_15 : decode cX7_add 15 = .ok (.aload_n 0, 1) := by decide +kernel
theorem dX7_add_16 : decode cX7_add 16 = .ok (.getfield 15, 3) := by decide +kernel
theorem dX7_add_19 : decode cX7_add 19 = .ok (.iload_n 1, 1) := by decide +kernel
theorem dX7_add_20 : decode cX7_add 20 = .ok (.iastore, 1) := by decide +kernel
theorem dX7_add_21 : decode cX7_add 21 = .ok (.aload_n 0, 1) := by decide +kernel
theorem dX7_add_22 : decode cX7_add 22 = .ok (.dup, 1) := by decide +kernel
theorem dX7_add_23 : decode cX7_add 23 = .ok (.getfield 15, 3) := by decide +kernel
theorem dX7_add_26 : decode cX7_add 26 = .ok (.iconst 1, 1) := by decide +kernel
theorem dX7_add_27 : decode cX7_add 27 = .ok (.iadd, 1) := by decide +kernel
theorem dX7_add_28 : decode cX7_add 28 = .ok (.putfield 15, 3) := by decide +kernel
theorem dX7_add_31 : decode cX7_add 31 = .ok (.iconst 1, 1) := by decide +kernel
theorem dX7_add_32 : decode cX7_add 32 = .ok (.ireturn, 1) := by decide +kernel
theorem dX7_digitOf_0 : decode cX7_digitOf 0 = .ok (.iconst 0, 1) := by decide +kernel
theorem dX7_digitOf_1 : decode cX7_digitOf 1 = .ok (.istore_n 2, 1) := by decide +kernel
theorem dX7_digitOf_2 : decode cX7_digitOf 2 = .ok (.iload_n 2, 1) := by decide +kernel
theorem dX7_digitOf_3 : decode cX7_digitOf 3 = .ok (.aload_n 0, 1) := by decide +kernel
theorem dX7_digitOf_4 : decode cX7_digitOf 4 = .ok (.getfield 15, 3) := by decide +kernel
theorem dX7_digitOf_7 : decode cX7_digitOf 7 = .ok (.if_icmp .ge 41, 3) := by decide +kernel
theorem dX7_digitOf_10 : decode cX7_digitOf 10 = .ok (.iload_n 1, 1) := by decide +kernel
theorem dX7_digitOf_11 : decode cX7_digitOf 11 = .ok (.aload_n 0, 1) := by decide +kernel
theorem dX7_digitOf_12 : decode cX7_digitOf 12 = .ok (.getfield 9, 3) := by decide +kernel
theorem dX7_digitOf_15 : decode cX7_digitOf 15 = .ok (.iload_n 2, 1) := by decide +kernel
theorem dX7_digitOf_16 : decode cX7_digitOf 16 = .ok (.iaload, 1) := by decide +kernel
theorem dX7_digitOf_17 : decode cX7_digitOf 17 = .ok (.if_icmp .lt 25, 3) := by decide +kernel
theorem dX7_digitOf_20 : decode cX7_digitOf 20 = .ok (.iload_n 1, 1) := by decide +kernel
theorem dX7_digitOf_21 : decode cX7_digitOf 21 = .ok (.aload_n 0, 1) := by decide +kernel
theorem dX7_digitOf_22 : decode cX7_digitOf 22 = .ok (.getfield 9, 3) := by decide +kernel
theorem dX7_digitOf_25 : decode cX7_digitOf 25 = .ok (.iload_n 2, 1) := by decide +kernel
theorem dX7_digitOf_26 : decode cX7_digitOf 26 = .ok (.iaload, 1) := by decide +kernel
theorem dX7_digitOf_27 : decode cX7_digitOf 27 = .ok (.bipush 9, 2) := by decide +kernel
theorem dX7_digitOf_29 : decode cX7_digitOf 29 = .ok (.iadd, 1) := by decide +kernel
theorem dX7_digitOf_30 : decode cX7_digitOf 30 = .ok (.if_icmp .gt 12, 3) := by decide +kernel
theorem dX7_digitOf_33 : decode cX7_digitOf 33 = .ok (.iload_n 1, 1) := by decide +kernel
theorem dX7_digitOf_34 : decode cX7_digitOf 34 = .ok (.aload_n 0, 1) := by decide +kernel
theorem dX7_digitOf_35 : decode cX7_digitOf 35 = .ok (.getfield 9, 3) := by decide +kernel
theorem dX7_digitOf_38 : decode cX7_digitOf 38 = .ok (.iload_n 2, 1) := by decide +kernel
theorem dX7_digitOf_39 : decode cX7_digitOf 39 = .ok (.iaload, 1) := by decide +kernel
theorem dX7_digitOf_40 : decode cX7_digitOf 40 = .ok (.isub, 1) := by decide +kernel
theorem dX7_digitOf_41 : decode cX7_digitOf 41 = .ok (.ireturn, 1) := by decide +kernel
theorem dX7_digitOf_42 : decode cX7_digitOf 42 = .ok (.iinc 2 1, 3) := by decide +kernel
theorem dX7_digitOf_45 : decode cX7_digitOf 45 = .ok (.goto (-43), 3) := by decide +kernel
theorem dX7_digitOf_48 : decode cX7_digitOf 48 = .ok (.bipush (-9), 2) := by decide +kernel
theorem dX7_digitOf_50 : decode cX7_digitOf 50 = .ok (.ireturn, 1) := by decide +kernel
theorem dJ9_min_7cf53_0 : decode cJ9_min_7cf53 0 = .ok (.iload_n 0, 1) := by decide +kernel
theorem dJ9_min_7cf53_1 : decode cJ9_min_7cf53 1 = .ok (.iload_n 1, 1) := by decide +kernel
theorem dJ9_min_7cf53_2 : decode cJ9_min_7cf53 2 = .ok (.if_icmp .gt 7, 3) := by decide +kernel
theorem dJ9_min_7cf53_5 : decode cJ9_min_7cf53 5 = .ok (.iload_n 0, 1) := by decide +kernel
theorem dJ9_min_7cf53_6 : decode cJ9_min_7cf53 6 = .ok (.goto 4, 3) := by decide +kernel
theorem dJ9_min_7cf53_9 : decode cJ9_min_7cf53 9 = .ok (.iload_n 1, 1) := by decide +kernel
theorem dJ9_min_7cf53_10 : decode cJ9_min_7cf53 10 = .ok (.ireturn, 1) := by decide +kernel
theorem dJ7_copyOf_59c91_0 : decode cJ7_copyOf_59c91 0 = .ok (.iload_n 1, 1) := by decide +kernel
theorem dJ7_copyOf_59c91_1 : decode cJ7_copyOf_59c91 1 = .ok (.aload_n 0, 1) := by decide +kernel
theorem dJ7_copyOf_59c91_2 : decode cJ7_copyOf_59c91 2 = .ok (.arraylength, 1) := by decide +kernel
theorem dJ7_copyOf_59c91_3 : decode cJ7_copyOf_59c91 3 = .ok (.if_icmp .ne 11, 3) := by decide +kernel
theorem dJ7_copyOf_59c91_6 : decode cJ7_copyOf_59c91 6 = .ok (.aload_n 0, 1) := by decide +kernel
theorem dJ7_copyOf_59c91_7 : decode cJ7_copyOf_59c91 7 = .ok (.invokevirtual 316, 3) := by decide +kernel
theorem dJ7_copyOf_59c91_10 : decode cJ7_copyOf_59c91 10 = .ok (.checkcast 317, 3) := by decide +kernel
theorem dJ7_copyOf_59c91_13 : decode cJ7_copyOf_59c91 13 = .ok (.areturn, 1) := by decide +kernel
theorem dJ7_copyOf_59c91_14 : decode cJ7_copyOf_59c91 14 = .ok (.iload_n 1, 1) := by decide +kernel
theorem dJ7_copyOf_59c91_15 : decode cJ7_copyOf_59c91 15 = .ok (.newarray .int, 2) := by decide +kernel
theorem dJ7_copyOf_59c91_17 : decode cJ7_copyOf_59c91 17 = .ok (.astore_n 2, 1) := by decide +kernel
theorem dJ7_copyOf_59c91_18 : decode cJ7_copyOf_59c91 18 = .ok (.aload_n 0, 1) := by decide +kernel
theorem dJ7_copyOf_59c91_19 : decode cJ7_copyOf_59c91 19 = .ok (.iconst 0, 1) := by decide +kernel
theorem dJ7_copyOf_59c91_20 : decode cJ7_copyOf_59c91 20 = .ok (.aload_n 2, 1) := by decide +kernel
theorem dJ7_copyOf_59c91_21 : decode cJ7_copyOf_59c91 21 = .ok (.iconst 0, 1) := by decide +kernel
theorem dJ7_copyOf_59c91_22 : decode cJ7_copyOf_59c91 22 = .ok (.aload_n 0, 1) := by decide +kernel
theorem dJ7_copyOf_59c91_23 : decode cJ7_copyOf_59c91 23 = .ok (.arraylength, 1) := by decide +kernel
theorem dJ7_copyOf_59c91_24 : decode cJ7_copyOf_59c91 24 = .ok (.iload_n 1, 1) := by decide +kernel
theorem dJ7_copyOf_59c91_25 : decode cJ7_copyOf_59c91 25 = .ok (.invokestatic 304, 3) := by decide +kernel
theorem dJ7_copyOf_59c91_28 : decode cJ7_copyOf_59c91 28 = .ok (.invokestatic 150, 3) := by decide +kernel
theorem dJ7_copyOf_59c91_31 : decode cJ7_copyOf_59c91 31 = .ok (.aload_n 2, 1) := by decide +kernel
theorem dJ7_copyOf_59c91_32 : decode cJ7_copyOf_59c91 32 = .ok (.areturn, 1) := by decide +kernel
