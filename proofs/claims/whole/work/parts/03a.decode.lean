theorem dX0_init_0 : decode cX0_init 0 = .ok (.aload_n 0, 1) := by decide +kernel
theorem dX0_init_1 : decode cX0_init 1 = .ok (.invokespecial 3, 3) := by decide +kernel
theorem dX0_init_4 : decode cX0_init 4 = .ok (.aload_n 0, 1) := by decide +kernel
theorem dX0_init_5 : decode cX0_init 5 = .ok (.iconst 0, 1) := by decide +kernel
theorem dX0_init_6 : decode cX0_init 6 = .ok (.putfield 9, 3) := by decide +kernel
theorem dX0_init_9 : decode cX0_init 9 = .ok (.aload_n 0, 1) := by decide +kernel
theorem dX0_init_10 : decode cX0_init 10 = .ok (.bipush 6, 2) := by decide +kernel
theorem dX0_init_12 : decode cX0_init 12 = .ok (.newarray .int, 2) := by decide +kernel
theorem dX0_init_14 : decode cX0_init 14 = .ok (.putfield 15, 3) := by decide +kernel
theorem dX0_init_17 : decode cX0_init 17 = .ok (.aload_n 0, 1) := by decide +kernel
theorem dX0_init_18 : decode cX0_init 18 = .ok (.bipush 6, 2) := by decide +kernel
theorem dX0_init_20 : decode cX0_init 20 = .ok (.newarray .int, 2) := by decide +kernel
theorem dX0_init_22 : decode cX0_init 22 = .ok (.putfield 19, 3) := by decide +kernel
theorem dX0_init_25 : decode cX0_init 25 = .ok (.aload_n 0, 1) := by decide +kernel
theorem dX0_init_26 : decode cX0_init 26 = .ok (.bipush 6, 2) := by decide +kernel
theorem dX0_init_28 : decode cX0_init 28 = .ok (.newarray .int, 2) := by decide +kernel
theorem dX0_init_30 : decode cX0_init 30 = .ok (.putfield 22, 3) := by decide +kernel
theorem dX0_init_33 : decode cX0_init 33 = .ok (.return_, 1) := by decide +kernel
theorem dX0_takeFrom_0 : decode cX0_takeFrom 0 = .ok (.aload_n 0, 1) := by decide +kernel
theorem dX0_takeFrom_1 : decode cX0_takeFrom 1 = .ok (.aload_n 1, 1) := by decide +kernel
theorem dX0_takeFrom_2 : decode cX0_takeFrom 2 = .ok (.getfield 9, 3) := by decide +kernel
theorem dX0_takeFrom_5 : decode cX0_takeFrom 5 = .ok (.putfield 9, 3) := by decide +kernel
theorem dX0_takeFrom_8 : decode cX0_takeFrom 8 = .ok (.aload_n 1, 1) := by decide +kernel
theorem dX0_takeFrom_9 : decode cX0_takeFrom 9 = .ok (.getfield 15, 3) := by decide +kernel
theorem dX0_takeFrom_12 : decode cX0_takeFrom 12 = .ok (.iconst 0, 1) := by decide +kernel
theorem dX0_takeFrom_13 : decode cX0_takeFrom 13 = .ok (.aload_n 0, 1) := by decide +kernel
theorem dX0_takeFrom_14 : decode cX0_takeFrom 14 = .ok (.getfield 15, 3) := by decide +kernel
theorem dX0_takeFrom_17 : decode cX0_takeFrom 17 = .ok (.iconst 0, 1) := by decide +kernel
theorem dX0_takeFrom_18 : decode cX0_takeFrom 18 = .ok (.bipush 6, 2) := by decide +kernel
theorem dX0_takeFrom_20 : decode cX0_takeFrom 20 = .ok (.invokestatic 25, 3) := by decide +kernel
theorem dX0_takeFrom_23 : decode cX0_takeFrom 23 = .ok (.aload_n 1, 1) := by decide +kernel
theorem dX0_takeFrom_24 : decode cX0_takeFrom 24 = .ok (.getfield 19, 3) := by decide +kernel
theorem dX0_takeFrom_27 : decode cX0_takeFrom 27 = .ok (.iconst 0, 1) := by decide +kernel
theorem dX0_takeFrom_28 : decode cX0_takeFrom 28 = .ok (.aload_n 0, 1) := by decide +kernel
theorem dX0_takeFrom_29 : decode cX0_takeFrom 29 = .ok (.getfield 19, 3) := by decide +kernel
theorem dX0_takeFrom_32 : decode cX0_takeFrom 32 = .ok (.iconst 0, 1) := by decide +kernel
theorem dX0_takeFrom_33 : decode cX0_takeFrom 33 = .ok (.bipush 6, 2) := by decide +kernel
theorem dX0_takeFrom_35 : decode cX0_takeFrom 35 = .ok (.invokestatic 25, 3) := by decide +kernel
theorem dX0_takeFrom_38 : decode cX0_takeFrom 38 = .ok (.aload_n 1, 1) := by decide +kernel
theorem dX0_takeFrom_39 : decode cX0_takeFrom 39 = .ok (.getfield 22, 3) := by decide +kernel
theorem dX0_takeFrom_42 : decode cX0_takeFrom 42 = .ok (.iconst 0, 1) := by decide +kernel
theorem dX0_takeFrom_43 : decode cX0_takeFrom 43 = .ok (.aload_n 0, 1) := by decide +kernel
theorem dX0_takeFrom_44 : decode cX0_takeFrom 44 = .ok (.getfield 22, 3) := by decide +kernel
theorem dX0_takeFrom_47 : decode cX0_takeFrom 47 = .ok (.iconst 0, 1) := by decide +kernel
theorem dX0_takeFrom_48 : decode cX0_takeFrom 48 = .ok (.bipush 6, 2) := by decide +kernel
theorem dX0_takeFrom_50 : decode cX0_takeFrom 50 = .ok (.invokestatic 25, 3) := by decide +kernel
theorem dX0_takeFrom_53 : decode cX0_takeFrom 53 = .ok (.return_, 1) := by decide +kernel
theorem dX0_isRinger_0 : decode cX0_isRinger 0 = .ok (.iload_n 1, 1) := by decide +kernel
theorem dX0_isRinger_1 : decode cX0_isRinger 1 = .ok (.ifCond .lt 15, 3) := by decide +kernel
theorem dX0_isRinger_4 : decode cX0_isRinger 4 = .ok (.iload_n 1, 1) := by decide +kernel
theorem dX0_isRinger_5 : decode cX0_isRinger 5 = .ok (.aload_n 0, 1) := by decide +kernel
theorem dX0_isRinger_6 : decode cX0_isRinger 6 = .ok (.getfield 9, 3) := by decide +kernel
theorem dX0_isRinger_9 : decode cX0_isRinger 9 = .ok (.if_icmp .ge 7, 3) := by decide +kernel
theorem dX0_isRinger_12 : decode cX0_isRinger 12 = .ok (.iconst 1, 1) := by decide +kernel
theorem dX0_isRinger_13 : decode cX0_isRinger 13 = .ok (.goto 4, 3) := by decide +kernel
theorem dX0_isRinger_16 : decode cX0_isRinger 16 = .ok (.iconst 0, 1) := by decide +kernel
theorem dX0_isRinger_17 : decode cX0_isRinger 17 = .ok (.ireturn, 1) := by decide +kernel
theorem dX0_everyRinger_0 : decode cX0_everyRinger 0 = .ok (.iconst 1, 1) := by decide +kernel
theorem dX0_everyRinger_1 : decode cX0_everyRinger 1 = .ok (.aload_n 0, 1) := by decide +kernel
theorem dX0_everyRinger_2 : decode cX0_everyRinger 2 = .ok (.getfield 9, 3) := by decide +kernel
theorem dX0_everyRinger_5 : decode cX0_everyRinger 5 = .ok (.ishl, 1) := by decide +kernel
theorem dX0_everyRinger_6 : decode cX0_everyRinger 6 = .ok (.iconst 1, 1) := by decide +kernel
theorem dX0_everyRinger_7 : decode cX0_everyRinger 7 = .ok (.isub, 1) := by decide +kernel
theorem dX0_everyRinger_8 : decode cX0_everyRinger 8 = .ok (.ireturn, 1) := by decide +kernel
theorem dX0_areRingers_0 : decode cX0_areRingers 0 = .ok (.iload_n 1, 1) := by decide +kernel
theorem dX0_areRingers_1 : decode cX0_areRingers 1 = .ok (.aload_n 0, 1) := by decide +kernel
theorem dX0_areRingers_2 : decode cX0_areRingers 2 = .ok (.invokevirtual 31, 3) := by decide +kernel
theorem dX0_areRingers_5 : decode cX0_areRingers 5 = .ok (.iconst (-1), 1) := by decide +kernel
theorem dX0_areRingers_6 : decode cX0_areRingers 6 = .ok (.ixor, 1) := by decide +kernel
theorem dX0_areRingers_7 : decode cX0_areRingers 7 = .ok (.iand, 1) := by decide +kernel
theorem dX0_areRingers_8 : decode cX0_areRingers 8 = .ok (.ifCond .ne 7, 3) := by decide +kernel
theorem dX0_areRingers_11 : decode cX0_areRingers 11 = .ok (.iconst 1, 1) := by decide +kernel
theorem dX0_areRingers_12 : decode cX0_areRingers 12 = .ok (.goto 4, 3) := by decide +kernel
theorem dX0_areRingers_15 : decode cX0_areRingers 15 = .ok (.iconst 0, 1) := by decide +kernel
theorem dX0_areRingers_16 : decode cX0_areRingers 16 = .ok (.ireturn, 1) := by decide +kernel
theorem dX0_hasRoom_0 : decode cX0_hasRoom 0 = .ok (.aload_n 0, 1) := by decide +kernel
theorem dX0_hasRoom_1 : decode cX0_hasRoom 1 = .ok (.getfield 9, 3) := by decide +kernel
theorem dX0_hasRoom_4 : decode cX0_hasRoom 4 = .ok (.bipush 6, 2) := by decide +kernel
theorem dX0_hasRoom_6 : decode cX0_hasRoom 6 = .ok (.if_icmp .ge 7, 3) := by decide +kernel
theorem dX0_hasRoom_9 : decode cX0_hasRoom 9 = .ok (.iconst 1, 1) := by decide +kernel
theorem dX0_hasRoom_10 : decode cX0_hasRoom 10 = .ok (.goto 4, 3) := by decide +kernel
theorem dX0_hasRoom_13 : decode cX0_hasRoom 13 = .ok (.iconst 0, 1) := by decide +kernel
theorem dX0_hasRoom_14 : decode cX0_hasRoom 14 = .ok (.ireturn, 1) := by decide +kernel
theorem dX0_addRinger_0 : decode cX0_addRinger 0 = .ok (.aload_n 0, 1) := by decide +kernel
theorem dX0_addRinger_1 : decode cX0_addRinger 1 = .ok (.getfield 9, 3) := by decide +kernel
theorem dX0_addRinger_4 : decode cX0_addRinger 4 = .ok (.istore 4, 2) := by decide +kernel
theorem dX0_addRinger_6 : decode cX0_addRinger 6 = .ok (.aload_n 0, 1) := by decide +kernel
theorem dX0_addRinger_7 : decode cX0_addRinger 7 = .ok (.getfield 15, 3) := by decide +kernel
theorem dX0_addRinger_10 : decode cX0_addRinger 10 = .ok (.iload 4, 2) := by decide +kernel
theorem dX0_addRinger_12 : decode cX0_addRinger 12 = .ok (.iload_n 1, 1) := by decide +kernel
theorem dX0_addRinger_13 : decode cX0_addRinger 13 = .ok (.invokestatic 35, 3) := by decide +kernel
theorem dX0_addRinger_16 : decode cX0_addRinger 16 = .ok (.aload_n 0, 1) := by decide +kernel
theorem dX0_addRinger_17 : decode cX0_addRinger 17 = .ok (.getfield 19, 3) := by decide +kernel
theorem dX0_addRinger_20 : decode cX0_addRinger 20 = .ok (.iload 4, 2) := by decide +kernel
theorem dX0_addRinger_22 : decode cX0_addRinger 22 = .ok (.iload_n 2, 1) := by decide +kernel
theorem dX0_addRinger_23 : decode cX0_addRinger 23 = .ok (.invokestatic 35, 3) := by decide +kernel
theorem dX0_addRinger_26 : decode cX0_addRinger 26 = .ok (.aload_n 0, 1) := by decide +kernel
theorem dX0_addRinger_27 : decode cX0_addRinger 27 = .ok (.getfield 22, 3) := by decide +kernel
theorem dX0_addRinger_30 : decode cX0_addRinger 30 = .ok (.iload 4, 2) := by decide +kernel
theorem dX0_addRinger_32 : decode cX0_addRinger 32 = .ok (.iload_n 3, 1) := by decide +kernel
theorem dX0_addRinger_33 : decode cX0_addRinger 33 = .ok (.invokestatic 35, 3) := by decide +kernel
theorem dX0_addRinger_36 : decode cX0_addRinger 36 = .ok (.aload_n 0, 1) := by decide +kernel
theorem dX0_addRinger_37 : decode cX0_addRinger 37 = .ok (.iload 4, 2) := by decide +kernel
theorem dX0_addRinger_39 : decode cX0_addRinger 39 = .ok (.iconst 1, 1) := by decide +kernel
theorem dX0_addRinger_40 : decode cX0_addRinger 40 = .ok (.iadd, 1) := by decide +kernel
theorem dX0_addRinger_41 : decode cX0_addRinger 41 = .ok (.putfield 9, 3) := by decide +kernel
theorem dX0_addRinger_44 : decode cX0_addRinger 44 = .ok (.iload 4, 2) := by decide +kernel
theorem dX0_addRinger_46 : decode cX0_addRinger 46 = .ok (.ireturn, 1) := by decide +kernel
theorem dX0_kindOf_0 : decode cX0_kindOf 0 = .ok (.aload_n 0, 1) := by decide +kernel
theorem dX0_kindOf_1 : decode cX0_kindOf 1 = .ok (.getfield 15, 3) := by decide +kernel
theorem dX0_kindOf_4 : decode cX0_kindOf 4 = .ok (.iload_n 1, 1) := by decide +kernel
theorem dX0_kindOf_5 : decode cX0_kindOf 5 = .ok (.invokestatic 39, 3) := by decide +kernel
theorem dX0_kindOf_8 : decode cX0_kindOf 8 = .ok (.ireturn, 1) := by decide +kernel
theorem dX0_aOf_0 : decode cX0_aOf 0 = .ok (.aload_n 0, 1) := by decide +kernel
theorem dX0_aOf_1 : decode cX0_aOf 1 = .ok (.getfield 19, 3) := by decide +kernel
theorem dX0_aOf_4 : decode cX0_aOf 4 = .ok (.iload_n 1, 1) := by decide +kernel
theorem dX0_aOf_5 : decode cX0_aOf 5 = .ok (.invokestatic 39, 3) := by decide +kernel
theorem dX0_aOf_8 : decode cX0_aOf 8 = .ok (.ireturn, 1) := by decide +kernel
theorem dX0_bellOf_0 : decode cX0_bellOf 0 = .ok (.aload_n 0, 1) := by decide +kernel
theorem dX0_bellOf_1 : decode cX0_bellOf 1 = .ok (.getfield 22, 3) := by decide +kernel
theorem dX0_bellOf_4 : decode cX0_bellOf 4 = .ok (.iload_n 1, 1) := by decide +kernel
theorem dX0_bellOf_5 : decode cX0_bellOf 5 = .ok (.invokestatic 39, 3) := by decide +kernel
theorem dX0_bellOf_8 : decode cX0_bellOf 8 = .ok (.ireturn, 1) := by decide +kernel
theorem dX0_kindAbove_0 : decode cX0_kindAbove 0 = .ok (.iload_n 0, 1) := by decide +kernel
theorem dX0_kindAbove_1 : decode cX0_kindAbove 1 = .ok (.tableswitch 41 0 4 #[39, 41, 41, 35, 37], 35) := by decide +kernel
theorem dX0_kindAbove_36 : decode cX0_kindAbove 36 = .ok (.iconst 1, 1) := by decide +kernel
theorem dX0_kindAbove_37 : decode cX0_kindAbove 37 = .ok (.ireturn, 1) := by decide +kernel
theorem dX0_kindAbove_38 : decode cX0_kindAbove 38 = .ok (.iconst 2, 1) := by decide +kernel
theorem dX0_kindAbove_39 : decode cX0_kindAbove 39 = .ok (.ireturn, 1) := by decide +kernel
theorem dX0_kindAbove_40 : decode cX0_kindAbove 40 = .ok (.iconst (-1), 1) := by decide +kernel
theorem dX0_kindAbove_41 : decode cX0_kindAbove 41 = .ok (.ireturn, 1) := by decide +kernel
theorem dX0_kindAbove_42 : decode cX0_kindAbove 42 = .ok (.iconst 0, 1) := by decide +kernel
theorem dX0_kindAbove_43 : decode cX0_kindAbove 43 = .ok (.ireturn, 1) := by decide +kernel
theorem dX0_isUnder_0 : decode cX0_isUnder 0 = .ok (.iload_n 0, 1) := by decide +kernel
theorem dX0_isUnder_1 : decode cX0_isUnder 1 = .ok (.istore_n 2, 1) := by decide +kernel
theorem dX0_isUnder_2 : decode cX0_isUnder 2 = .ok (.iconst 0, 1) := by decide +kernel
theorem dX0_isUnder_3 : decode cX0_isUnder 3 = .ok (.istore_n 3, 1) := by decide +kernel
theorem dX0_isUnder_4 : decode cX0_isUnder 4 = .ok (.iload_n 3, 1) := by decide +kernel
theorem dX0_isUnder_5 : decode cX0_isUnder 5 = .ok (.bipush 6, 2) := by decide +kernel
theorem dX0_isUnder_7 : decode cX0_isUnder 7 = .ok (.if_icmp .ge 26, 3) := by decide +kernel
theorem dX0_isUnder_10 : decode cX0_isUnder 10 = .ok (.iload_n 2, 1) := by decide +kernel
theorem dX0_isUnder_11 : decode cX0_isUnder 11 = .ok (.iconst (-1), 1) := by decide +kernel
theorem dX0_isUnder_12 : decode cX0_isUnder 12 = .ok (.if_icmp .eq 21, 3) := by decide +kernel
theorem dX0_isUnder_15 : decode cX0_isUnder 15 = .ok (.iload_n 2, 1) := by decide +kernel
theorem dX0_isUnder_16 : decode cX0_isUnder 16 = .ok (.iload_n 1, 1) := by decide +kernel
theorem dX0_isUnder_17 : decode cX0_isUnder 17 = .ok (.if_icmp .ne 5, 3) := by decide +kernel
theorem dX0_isUnder_20 : decode cX0_isUnder 20 = .ok (.iconst 1, 1) := by decide +kernel
theorem dX0_isUnder_21 : decode cX0_isUnder 21 = .ok (.ireturn, 1) := by decide +kernel
theorem dX0_isUnder_22 : decode cX0_isUnder 22 = .ok (.iload_n 2, 1) := by decide +kernel
theorem dX0_isUnder_23 : decode cX0_isUnder 23 = .ok (.invokestatic 43, 3) := by decide +kernel
theorem dX0_isUnder_26 : decode cX0_isUnder 26 = .ok (.istore_n 2, 1) := by decide +kernel
theorem dX0_isUnder_27 : decode cX0_isUnder 27 = .ok (.iinc 3 1, 3) := by decide +kernel
theorem dX0_isUnder_30 : decode cX0_isUnder 30 = .ok (.goto (-26), 3) := by decide +kernel
theorem dX0_isUnder_33 : decode cX0_isUnder 33 = .ok (.iconst 0, 1) := by decide +kernel
theorem dX0_isUnder_34 : decode cX0_isUnder 34 = .ok (.ireturn, 1) := by decide +kernel
theorem dX0_slipWithin_0 : decode cX0_slipWithin 0 = .ok (.iconst 0, 1) := by decide +kernel
theorem dX0_slipWithin_1 : decode cX0_slipWithin 1 = .ok (.bipush 99, 2) := by decide +kernel
theorem dX0_slipWithin_3 : decode cX0_slipWithin 3 = .ok (.iload_n 0, 1) := by decide +kernel
theorem dX0_slipWithin_4 : decode cX0_slipWithin 4 = .ok (.invokestatic 47, 3) := by decide +kernel
theorem dX0_slipWithin_7 : decode cX0_slipWithin 7 = .ok (.invokestatic 53, 3) := by decide +kernel
theorem dX0_slipWithin_10 : decode cX0_slipWithin 10 = .ok (.ireturn, 1) := by decide +kernel
theorem dX0_slipAs_0 : decode cX0_slipAs 0 = .ok (.bipush 10, 2) := by decide +kernel
theorem dX0_slipAs_2 : decode cX0_slipAs 2 = .ok (.aload_n 0, 1) := by decide +kernel
theorem dX0_slipAs_3 : decode cX0_slipAs 3 = .ok (.iload_n 2, 1) := by decide +kernel
theorem dX0_slipAs_4 : decode cX0_slipAs 4 = .ok (.invokevirtual 56, 3) := by decide +kernel
theorem dX0_slipAs_7 : decode cX0_slipAs 7 = .ok (.iadd, 1) := by decide +kernel
theorem dX0_slipAs_8 : decode cX0_slipAs 8 = .ok (.invokestatic 59, 3) := by decide +kernel
theorem dX0_slipAs_11 : decode cX0_slipAs 11 = .ok (.istore 4, 2) := by decide +kernel
theorem dX0_slipAs_13 : decode cX0_slipAs 13 = .ok (.iconst 3, 1) := by decide +kernel
theorem dX0_slipAs_14 : decode cX0_slipAs 14 = .ok (.iload 4, 2) := by decide +kernel
theorem dX0_slipAs_16 : decode cX0_slipAs 16 = .ok (.imul, 1) := by decide +kernel
theorem dX0_slipAs_17 : decode cX0_slipAs 17 = .ok (.invokestatic 59, 3) := by decide +kernel
theorem dX0_slipAs_20 : decode cX0_slipAs 20 = .ok (.istore 5, 2) := by decide +kernel
theorem dX0_slipAs_22 : decode cX0_slipAs 22 = .ok (.iload 4, 2) := by decide +kernel
theorem dX0_slipAs_24 : decode cX0_slipAs 24 = .ok (.aload_n 0, 1) := by decide +kernel
theorem dX0_slipAs_25 : decode cX0_slipAs 25 = .ok (.iload_n 2, 1) := by decide +kernel
theorem dX0_slipAs_26 : decode cX0_slipAs 26 = .ok (.invokevirtual 56, 3) := by decide +kernel
theorem dX0_slipAs_29 : decode cX0_slipAs 29 = .ok (.isub, 1) := by decide +kernel
theorem dX0_slipAs_30 : decode cX0_slipAs 30 = .ok (.invokestatic 59, 3) := by decide +kernel
theorem dX0_slipAs_33 : decode cX0_slipAs 33 = .ok (.istore 6, 2) := by decide +kernel
theorem dX0_slipAs_35 : decode cX0_slipAs 35 = .ok (.iload_n 1, 1) := by decide +kernel
theorem dX0_slipAs_36 : decode cX0_slipAs 36 = .ok (.tableswitch 80 1 5 #[36, 49, 39, 52, 60], 36) := by decide +kernel
theorem dX0_slipAs_72 : decode cX0_slipAs 72 = .ok (.iload 5, 2) := by decide +kernel
theorem dX0_slipAs_74 : decode cX0_slipAs 74 = .ok (.ireturn, 1) := by decide +kernel
theorem dX0_slipAs_75 : decode cX0_slipAs 75 = .ok (.iload 5, 2) := by decide +kernel
theorem dX0_slipAs_77 : decode cX0_slipAs 77 = .ok (.iconst 1, 1) := by decide +kernel
theorem dX0_slipAs_78 : decode cX0_slipAs 78 = .ok (.iadd, 1) := by decide +kernel
theorem dX0_slipAs_79 : decode cX0_slipAs 79 = .ok (.iconst 2, 1) := by decide +kernel
theorem dX0_slipAs_80 : decode cX0_slipAs 80 = .ok (.idiv, 1) := by decide +kernel
theorem dX0_slipAs_81 : decode cX0_slipAs 81 = .ok (.invokestatic 59, 3) := by decide +kernel
theorem dX0_slipAs_84 : decode cX0_slipAs 84 = .ok (.ireturn, 1) := by decide +kernel
theorem dX0_slipAs_85 : decode cX0_slipAs 85 = .ok (.iload 6, 2) := by decide +kernel
theorem dX0_slipAs_87 : decode cX0_slipAs 87 = .ok (.ireturn, 1) := by decide +kernel
theorem dX0_slipAs_88 : decode cX0_slipAs 88 = .ok (.iload 6, 2) := by decide +kernel
theorem dX0_slipAs_90 : decode cX0_slipAs 90 = .ok (.iconst 5, 1) := by decide +kernel
theorem dX0_slipAs_91 : decode cX0_slipAs 91 = .ok (.isub, 1) := by decide +kernel
theorem dX0_slipAs_92 : decode cX0_slipAs 92 = .ok (.invokestatic 59, 3) := by decide +kernel
theorem dX0_slipAs_95 : decode cX0_slipAs 95 = .ok (.ireturn, 1) := by decide +kernel
theorem dX0_slipAs_96 : decode cX0_slipAs 96 = .ok (.iload_n 3, 1) := by decide +kernel
theorem dX0_slipAs_97 : decode cX0_slipAs 97 = .ok (.aload_n 0, 1) := by decide +kernel
theorem dX0_slipAs_98 : decode cX0_slipAs 98 = .ok (.iload_n 2, 1) := by decide +kernel
theorem dX0_slipAs_99 : decode cX0_slipAs 99 = .ok (.invokevirtual 62, 3) := by decide +kernel
theorem dX0_slipAs_102 : decode cX0_slipAs 102 = .ok (.invokestatic 65, 3) := by decide +kernel
theorem dX0_slipAs_105 : decode cX0_slipAs 105 = .ok (.ifCond .eq 8, 3) := by decide +kernel
theorem dX0_slipAs_108 : decode cX0_slipAs 108 = .ok (.bipush 50, 2) := by decide +kernel
theorem dX0_slipAs_110 : decode cX0_slipAs 110 = .ok (.goto 5, 3) := by decide +kernel
theorem dX0_slipAs_113 : decode cX0_slipAs 113 = .ok (.iload 4, 2) := by decide +kernel
theorem dX0_slipAs_115 : decode cX0_slipAs 115 = .ok (.ireturn, 1) := by decide +kernel
theorem dX0_slipAs_116 : decode cX0_slipAs 116 = .ok (.iload 4, 2) := by decide +kernel
theorem dX0_slipAs_118 : decode cX0_slipAs 118 = .ok (.ireturn, 1) := by decide +kernel
theorem dX0_slipOf_0 : decode cX0_slipOf 0 = .ok (.aload_n 0, 1) := by decide +kernel
theorem dX0_slipOf_1 : decode cX0_slipOf 1 = .ok (.aload_n 0, 1) := by decide +kernel
theorem dX0_slipOf_2 : decode cX0_slipOf 2 = .ok (.iload_n 1, 1) := by decide +kernel
theorem dX0_slipOf_3 : decode cX0_slipOf 3 = .ok (.invokevirtual 69, 3) := by decide +kernel
theorem dX0_slipOf_6 : decode cX0_slipOf 6 = .ok (.iload_n 1, 1) := by decide +kernel
theorem dX0_slipOf_7 : decode cX0_slipOf 7 = .ok (.iload_n 2, 1) := by decide +kernel
theorem dX0_slipOf_8 : decode cX0_slipOf 8 = .ok (.invokevirtual 72, 3) := by decide +kernel
theorem dX0_slipOf_11 : decode cX0_slipOf 11 = .ok (.ireturn, 1) := by decide +kernel
theorem dX0_wellOf_0 : decode cX0_wellOf 0 = .ok (.ldc 76, 2) := by decide +kernel
theorem dX0_wellOf_2 : decode cX0_wellOf 2 = .ok (.istore_n 3, 1) := by decide +kernel
theorem dX0_wellOf_3 : decode cX0_wellOf 3 = .ok (.iconst 0, 1) := by decide +kernel
theorem dX0_wellOf_4 : decode cX0_wellOf 4 = .ok (.istore 4, 2) := by decide +kernel
theorem dX0_wellOf_6 : decode cX0_wellOf 6 = .ok (.iload 4, 2) := by decide +kernel
theorem dX0_wellOf_8 : decode cX0_wellOf 8 = .ok (.aload_n 0, 1) := by decide +kernel
theorem dX0_wellOf_9 : decode cX0_wellOf 9 = .ok (.getfield 9, 3) := by decide +kernel
theorem dX0_wellOf_12 : decode cX0_wellOf 12 = .ok (.if_icmp .ge 34, 3) := by decide +kernel
theorem dX0_wellOf_15 : decode cX0_wellOf 15 = .ok (.iload_n 1, 1) := by decide +kernel
theorem dX0_wellOf_16 : decode cX0_wellOf 16 = .ok (.iload 4, 2) := by decide +kernel
theorem dX0_wellOf_18 : decode cX0_wellOf 18 = .ok (.invokestatic 65, 3) := by decide +kernel
theorem dX0_wellOf_21 : decode cX0_wellOf 21 = .ok (.ifCond .eq 19, 3) := by decide +kernel
theorem dX0_wellOf_24 : decode cX0_wellOf 24 = .ok (.iload_n 3, 1) := by decide +kernel
theorem dX0_wellOf_25 : decode cX0_wellOf 25 = .ok (.bipush 100, 2) := by decide +kernel
theorem dX0_wellOf_27 : decode cX0_wellOf 27 = .ok (.aload_n 0, 1) := by decide +kernel
theorem dX0_wellOf_28 : decode cX0_wellOf 28 = .ok (.iload 4, 2) := by decide +kernel
theorem dX0_wellOf_30 : decode cX0_wellOf 30 = .ok (.iload_n 2, 1) := by decide +kernel
theorem dX0_wellOf_31 : decode cX0_wellOf 31 = .ok (.invokevirtual 77, 3) := by decide +kernel
theorem dX0_wellOf_34 : decode cX0_wellOf 34 = .ok (.isub, 1) := by decide +kernel
theorem dX0_wellOf_35 : decode cX0_wellOf 35 = .ok (.imul, 1) := by decide +kernel
theorem dX0_wellOf_36 : decode cX0_wellOf 36 = .ok (.bipush 100, 2) := by decide +kernel
theorem dX0_wellOf_38 : decode cX0_wellOf 38 = .ok (.idiv, 1) := by decide +kernel
theorem dX0_wellOf_39 : decode cX0_wellOf 39 = .ok (.istore_n 3, 1) := by decide +kernel
theorem dX0_wellOf_40 : decode cX0_wellOf 40 = .ok (.iinc 4 1, 3) := by decide +kernel
theorem dX0_wellOf_43 : decode cX0_wellOf 43 = .ok (.goto (-37), 3) := by decide +kernel
theorem dX0_wellOf_46 : decode cX0_wellOf 46 = .ok (.iload_n 3, 1) := by decide +kernel
theorem dX0_wellOf_47 : decode cX0_wellOf 47 = .ok (.ireturn, 1) := by decide +kernel
theorem dX0_onceOf_0 : decode cX0_onceOf 0 = .ok (.iconst 0, 1) := by decide +kernel
theorem dX0_onceOf_1 : decode cX0_onceOf 1 = .ok (.istore_n 3, 1) := by decide +kernel
theorem dX0_onceOf_2 : decode cX0_onceOf 2 = .ok (.iconst 0, 1) := by decide +kernel
theorem dX0_onceOf_3 : decode cX0_onceOf 3 = .ok (.istore 4, 2) := by decide +kernel
theorem dX0_onceOf_5 : decode cX0_onceOf 5 = .ok (.iload 4, 2) := by decide +kernel
theorem dX0_onceOf_7 : decode cX0_onceOf 7 = .ok (.aload_n 0, 1) := by decide +kernel
theorem dX0_onceOf_8 : decode cX0_onceOf 8 = .ok (.getfield 9, 3) := by decide +kernel
theorem dX0_onceOf_11 : decode cX0_onceOf 11 = .ok (.if_icmp .ge 45, 3) := by decide +kernel
theorem dX0_onceOf_14 : decode cX0_onceOf 14 = .ok (.iload_n 1, 1) := by decide +kernel
theorem dX0_onceOf_15 : decode cX0_onceOf 15 = .ok (.iload 4, 2) := by decide +kernel
theorem dX0_onceOf_17 : decode cX0_onceOf 17 = .ok (.invokestatic 65, 3) := by decide +kernel
theorem dX0_onceOf_20 : decode cX0_onceOf 20 = .ok (.ifCond .eq 30, 3) := by decide +kernel
theorem dX0_onceOf_23 : decode cX0_onceOf 23 = .ok (.iload_n 3, 1) := by decide +kernel
theorem dX0_onceOf_24 : decode cX0_onceOf 24 = .ok (.aload_n 0, 1) := by decide +kernel
theorem dX0_onceOf_25 : decode cX0_onceOf 25 = .ok (.iload 4, 2) := by decide +kernel
theorem dX0_onceOf_27 : decode cX0_onceOf 27 = .ok (.iload_n 2, 1) := by decide +kernel
theorem dX0_onceOf_28 : decode cX0_onceOf 28 = .ok (.invokevirtual 77, 3) := by decide +kernel
theorem dX0_onceOf_31 : decode cX0_onceOf 31 = .ok (.aload_n 0, 1) := by decide +kernel
theorem dX0_onceOf_32 : decode cX0_onceOf 32 = .ok (.iload_n 1, 1) := by decide +kernel
theorem dX0_onceOf_33 : decode cX0_onceOf 33 = .ok (.iconst 1, 1) := by decide +kernel
theorem dX0_onceOf_34 : decode cX0_onceOf 34 = .ok (.iload 4, 2) := by decide +kernel
theorem dX0_onceOf_36 : decode cX0_onceOf 36 = .ok (.ishl, 1) := by decide +kernel
theorem dX0_onceOf_37 : decode cX0_onceOf 37 = .ok (.iconst (-1), 1) := by decide +kernel
theorem dX0_onceOf_38 : decode cX0_onceOf 38 = .ok (.ixor, 1) := by decide +kernel
theorem dX0_onceOf_39 : decode cX0_onceOf 39 = .ok (.iand, 1) := by decide +kernel
theorem dX0_onceOf_40 : decode cX0_onceOf 40 = .ok (.iload_n 2, 1) := by decide +kernel
theorem dX0_onceOf_41 : decode cX0_onceOf 41 = .ok (.invokevirtual 80, 3) := by decide +kernel
theorem dX0_onceOf_44 : decode cX0_onceOf 44 = .ok (.imul, 1) := by decide +kernel
theorem dX0_onceOf_45 : decode cX0_onceOf 45 = .ok (.bipush 100, 2) := by decide +kernel
theorem dX0_onceOf_47 : decode cX0_onceOf 47 = .ok (.idiv, 1) := by decide +kernel
theorem dX0_onceOf_48 : decode cX0_onceOf 48 = .ok (.iadd, 1) := by decide +kernel
theorem dX0_onceOf_49 : decode cX0_onceOf 49 = .ok (.istore_n 3, 1) := by decide +kernel
theorem dX0_onceOf_50 : decode cX0_onceOf 50 = .ok (.iinc 4 1, 3) := by decide +kernel
theorem dX0_onceOf_53 : decode cX0_onceOf 53 = .ok (.goto (-48), 3) := by decide +kernel
theorem dX0_onceOf_56 : decode cX0_onceOf 56 = .ok (.iload_n 3, 1) := by decide +kernel
theorem dX0_onceOf_57 : decode cX0_onceOf 57 = .ok (.ireturn, 1) := by decide +kernel
theorem dX0_slippingBy_0 : decode cX0_slippingBy 0 = .ok (.iconst 0, 1) := by decide +kernel
theorem dX0_slippingBy_1 : decode cX0_slippingBy 1 = .ok (.istore_n 3, 1) := by decide +kernel
theorem dX0_slippingBy_2 : decode cX0_slippingBy 2 = .ok (.iconst 0, 1) := by decide +kernel
theorem dX0_slippingBy_3 : decode cX0_slippingBy 3 = .ok (.istore 4, 2) := by decide +kernel
theorem dX0_slippingBy_5 : decode cX0_slippingBy 5 = .ok (.iload 4, 2) := by decide +kernel
theorem dX0_slippingBy_7 : decode cX0_slippingBy 7 = .ok (.aload_n 0, 1) := by decide +kernel
theorem dX0_slippingBy_8 : decode cX0_slippingBy 8 = .ok (.getfield 9, 3) := by decide +kernel
theorem dX0_slippingBy_11 : decode cX0_slippingBy 11 = .ok (.if_icmp .ge 27, 3) := by decide +kernel
theorem dX0_slippingBy_14 : decode cX0_slippingBy 14 = .ok (.aload_n 0, 1) := by decide +kernel
theorem dX0_slippingBy_15 : decode cX0_slippingBy 15 = .ok (.iload 4, 2) := by decide +kernel
theorem dX0_slippingBy_17 : decode cX0_slippingBy 17 = .ok (.iload_n 2, 1) := by decide +kernel
theorem dX0_slippingBy_18 : decode cX0_slippingBy 18 = .ok (.invokevirtual 77, 3) := by decide +kernel
theorem dX0_slippingBy_21 : decode cX0_slippingBy 21 = .ok (.iload_n 1, 1) := by decide +kernel
theorem dX0_slippingBy_22 : decode cX0_slippingBy 22 = .ok (.if_icmp .lt 10, 3) := by decide +kernel
theorem dX0_slippingBy_25 : decode cX0_slippingBy 25 = .ok (.iload_n 3, 1) := by decide +kernel
theorem dX0_slippingBy_26 : decode cX0_slippingBy 26 = .ok (.iconst 1, 1) := by decide +kernel
theorem dX0_slippingBy_27 : decode cX0_slippingBy 27 = .ok (.iload 4, 2) := by decide +kernel
theorem dX0_slippingBy_29 : decode cX0_slippingBy 29 = .ok (.ishl, 1) := by decide +kernel
theorem dX0_slippingBy_30 : decode cX0_slippingBy 30 = .ok (.ior, 1) := by decide +kernel
theorem dX0_slippingBy_31 : decode cX0_slippingBy 31 = .ok (.istore_n 3, 1) := by decide +kernel
theorem dX0_slippingBy_32 : decode cX0_slippingBy 32 = .ok (.iinc 4 1, 3) := by decide +kernel
theorem dX0_slippingBy_35 : decode cX0_slippingBy 35 = .ok (.goto (-30), 3) := by decide +kernel
theorem dX0_slippingBy_38 : decode cX0_slippingBy 38 = .ok (.iload_n 3, 1) := by decide +kernel
theorem dX0_slippingBy_39 : decode cX0_slippingBy 39 = .ok (.ireturn, 1) := by decide +kernel
theorem dX0_kindsSlippingBy_0 : decode cX0_kindsSlippingBy 0 = .ok (.iconst 0, 1) := by decide +kernel
theorem dX0_kindsSlippingBy_1 : decode cX0_kindsSlippingBy 1 = .ok (.istore 4, 2) := by decide +kernel
theorem dX0_kindsSlippingBy_3 : decode cX0_kindsSlippingBy 3 = .ok (.iconst 0, 1) := by decide +kernel
theorem dX0_kindsSlippingBy_4 : decode cX0_kindsSlippingBy 4 = .ok (.istore 5, 2) := by decide +kernel
theorem dX0_kindsSlippingBy_6 : decode cX0_kindsSlippingBy 6 = .ok (.iload 5, 2) := by decide +kernel
theorem dX0_kindsSlippingBy_8 : decode cX0_kindsSlippingBy 8 = .ok (.iconst 5, 1) := by decide +kernel
theorem dX0_kindsSlippingBy_9 : decode cX0_kindsSlippingBy 9 = .ok (.if_icmp .gt 30, 3) := by decide +kernel
theorem dX0_kindsSlippingBy_12 : decode cX0_kindsSlippingBy 12 = .ok (.aload_n 0, 1) := by decide +kernel
theorem dX0_kindsSlippingBy_13 : decode cX0_kindsSlippingBy 13 = .ok (.iload 5, 2) := by decide +kernel
theorem dX0_kindsSlippingBy_15 : decode cX0_kindsSlippingBy 15 = .ok (.iload_n 1, 1) := by decide +kernel
theorem dX0_kindsSlippingBy_16 : decode cX0_kindsSlippingBy 16 = .ok (.iload_n 3, 1) := by decide +kernel
theorem dX0_kindsSlippingBy_17 : decode cX0_kindsSlippingBy 17 = .ok (.invokevirtual 72, 3) := by decide +kernel
theorem dX0_kindsSlippingBy_20 : decode cX0_kindsSlippingBy 20 = .ok (.iload_n 2, 1) := by decide +kernel
theorem dX0_kindsSlippingBy_21 : decode cX0_kindsSlippingBy 21 = .ok (.if_icmp .ne 12, 3) := by decide +kernel
theorem dX0_kindsSlippingBy_24 : decode cX0_kindsSlippingBy 24 = .ok (.iload 4, 2) := by decide +kernel
theorem dX0_kindsSlippingBy_26 : decode cX0_kindsSlippingBy 26 = .ok (.iconst 1, 1) := by decide +kernel
theorem dX0_kindsSlippingBy_27 : decode cX0_kindsSlippingBy 27 = .ok (.iload 5, 2) := by decide +kernel
theorem dX0_kindsSlippingBy_29 : decode cX0_kindsSlippingBy 29 = .ok (.ishl, 1) := by decide +kernel
theorem dX0_kindsSlippingBy_30 : decode cX0_kindsSlippingBy 30 = .ok (.ior, 1) := by decide +kernel
theorem dX0_kindsSlippingBy_31 : decode cX0_kindsSlippingBy 31 = .ok (.istore 4, 2) := by decide +kernel
theorem dX0_kindsSlippingBy_33 : decode cX0_kindsSlippingBy 33 = .ok (.iinc 5 1, 3) := by decide +kernel
theorem dX0_kindsSlippingBy_36 : decode cX0_kindsSlippingBy 36 = .ok (.goto (-30), 3) := by decide +kernel
theorem dX0_kindsSlippingBy_39 : decode cX0_kindsSlippingBy 39 = .ok (.iload 4, 2) := by decide +kernel
theorem dX0_kindsSlippingBy_41 : decode cX0_kindsSlippingBy 41 = .ok (.ireturn, 1) := by decide +kernel
theorem dX0_bestCrew_0 : decode cX0_bestCrew 0 = .ok (.iconst (-1), 1) := by decide +kernel
theorem dX0_bestCrew_1 : decode cX0_bestCrew 1 = .ok (.istore_n 3, 1) := by decide +kernel
theorem dX0_bestCrew_2 : decode cX0_bestCrew 2 = .ok (.iconst (-1), 1) := by decide +kernel
theorem dX0_bestCrew_3 : decode cX0_bestCrew 3 = .ok (.istore 4, 2) := by decide +kernel
theorem dX0_bestCrew_5 : decode cX0_bestCrew 5 = .ok (.iconst 0, 1) := by decide +kernel
theorem dX0_bestCrew_6 : decode cX0_bestCrew 6 = .ok (.istore 5, 2) := by decide +kernel
theorem dX0_bestCrew_8 : decode cX0_bestCrew 8 = .ok (.iload 5, 2) := by decide +kernel
theorem dX0_bestCrew_10 : decode cX0_bestCrew 10 = .ok (.aload_n 0, 1) := by decide +kernel
theorem dX0_bestCrew_11 : decode cX0_bestCrew 11 = .ok (.invokevirtual 31, 3) := by decide +kernel
theorem dX0_bestCrew_14 : decode cX0_bestCrew 14 = .ok (.if_icmp .gt 41, 3) := by decide +kernel
theorem dX0_bestCrew_17 : decode cX0_bestCrew 17 = .ok (.iload 5, 2) := by decide +kernel
theorem dX0_bestCrew_19 : decode cX0_bestCrew 19 = .ok (.invokestatic 83, 3) := by decide +kernel
theorem dX0_bestCrew_22 : decode cX0_bestCrew 22 = .ok (.iload_n 1, 1) := by decide +kernel
theorem dX0_bestCrew_23 : decode cX0_bestCrew 23 = .ok (.if_icmp .ne 26, 3) := by decide +kernel
theorem dX0_bestCrew_26 : decode cX0_bestCrew 26 = .ok (.aload_n 0, 1) := by decide +kernel
theorem dX0_bestCrew_27 : decode cX0_bestCrew 27 = .ok (.iload 5, 2) := by decide +kernel
theorem dX0_bestCrew_29 : decode cX0_bestCrew 29 = .ok (.iload_n 2, 1) := by decide +kernel
theorem dX0_bestCrew_30 : decode cX0_bestCrew 30 = .ok (.invokevirtual 80, 3) := by decide +kernel
theorem dX0_bestCrew_33 : decode cX0_bestCrew 33 = .ok (.istore 6, 2) := by decide +kernel
theorem dX0_bestCrew_35 : decode cX0_bestCrew 35 = .ok (.iload 6, 2) := by decide +kernel
theorem dX0_bestCrew_37 : decode cX0_bestCrew 37 = .ok (.iload 4, 2) := by decide +kernel
theorem dX0_bestCrew_39 : decode cX0_bestCrew 39 = .ok (.if_icmp .le 10, 3) := by decide +kernel
theorem dX0_bestCrew_42 : decode cX0_bestCrew 42 = .ok (.iload 5, 2) := by decide +kernel
theorem dX0_bestCrew_44 : decode cX0_bestCrew 44 = .ok (.istore_n 3, 1) := by decide +kernel
theorem dX0_bestCrew_45 : decode cX0_bestCrew 45 = .ok (.iload 6, 2) := by decide +kernel
theorem dX0_bestCrew_47 : decode cX0_bestCrew 47 = .ok (.istore 4, 2) := by decide +kernel
theorem dX0_bestCrew_49 : decode cX0_bestCrew 49 = .ok (.iinc 5 1, 3) := by decide +kernel
theorem dX0_bestCrew_52 : decode cX0_bestCrew 52 = .ok (.goto (-44), 3) := by decide +kernel
theorem dX0_bestCrew_55 : decode cX0_bestCrew 55 = .ok (.iload_n 3, 1) := by decide +kernel
theorem dX0_bestCrew_56 : decode cX0_bestCrew 56 = .ok (.ireturn, 1) := by decide +kernel
theorem dX0_countOfKind_0 : decode cX0_countOfKind 0 = .ok (.iconst 0, 1) := by decide +kernel
theorem dX0_countOfKind_1 : decode cX0_countOfKind 1 = .ok (.istore_n 2, 1) := by decide +kernel
theorem dX0_countOfKind_2 : decode cX0_countOfKind 2 = .ok (.iconst 0, 1) := by decide +kernel
theorem dX0_countOfKind_3 : decode cX0_countOfKind 3 = .ok (.istore_n 3, 1) := by decide +kernel
theorem dX0_countOfKind_4 : decode cX0_countOfKind 4 = .ok (.iload_n 3, 1) := by decide +kernel
theorem dX0_countOfKind_5 : decode cX0_countOfKind 5 = .ok (.aload_n 0, 1) := by decide +kernel
theorem dX0_countOfKind_6 : decode cX0_countOfKind 6 = .ok (.getfield 9, 3) := by decide +kernel
theorem dX0_countOfKind_9 : decode cX0_countOfKind 9 = .ok (.if_icmp .ge 21, 3) := by decide +kernel
theorem dX0_countOfKind_12 : decode cX0_countOfKind 12 = .ok (.aload_n 0, 1) := by decide +kernel
theorem dX0_countOfKind_13 : decode cX0_countOfKind 13 = .ok (.iload_n 3, 1) := by decide +kernel
theorem dX0_countOfKind_14 : decode cX0_countOfKind 14 = .ok (.invokevirtual 69, 3) := by decide +kernel
theorem dX0_countOfKind_17 : decode cX0_countOfKind 17 = .ok (.iload_n 1, 1) := by decide +kernel
theorem dX0_countOfKind_18 : decode cX0_countOfKind 18 = .ok (.if_icmp .ne 6, 3) := by decide +kernel
theorem dX0_countOfKind_21 : decode cX0_countOfKind 21 = .ok (.iinc 2 1, 3) := by decide +kernel
theorem dX0_countOfKind_24 : decode cX0_countOfKind 24 = .ok (.iinc 3 1, 3) := by decide +kernel
theorem dX0_countOfKind_27 : decode cX0_countOfKind 27 = .ok (.goto (-23), 3) := by decide +kernel
theorem dX0_countOfKind_30 : decode cX0_countOfKind 30 = .ok (.iload_n 2, 1) := by decide +kernel
theorem dX0_countOfKind_31 : decode cX0_countOfKind 31 = .ok (.ireturn, 1) := by decide +kernel
theorem dX1_isFewer_0 : decode cX1_isFewer 0 = .ok (.iload_n 1, 1) := by decide +kernel
theorem dX1_isFewer_1 : decode cX1_isFewer 1 = .ok (.iconst (-1), 1) := by decide +kernel
theorem dX1_isFewer_2 : decode cX1_isFewer 2 = .ok (.if_icmp .eq 14, 3) := by decide +kernel
theorem dX1_isFewer_5 : decode cX1_isFewer 5 = .ok (.iload_n 0, 1) := by decide +kernel
theorem dX1_isFewer_6 : decode cX1_isFewer 6 = .ok (.invokestatic 9, 3) := by decide +kernel
theorem dX1_isFewer_9 : decode cX1_isFewer 9 = .ok (.iload_n 1, 1) := by decide +kernel
theorem dX1_isFewer_10 : decode cX1_isFewer 10 = .ok (.invokestatic 9, 3) := by decide +kernel
theorem dX1_isFewer_13 : decode cX1_isFewer 13 = .ok (.if_icmp .ge 7, 3) := by decide +kernel
theorem dX1_isFewer_16 : decode cX1_isFewer 16 = .ok (.iconst 1, 1) := by decide +kernel
theorem dX1_isFewer_17 : decode cX1_isFewer 17 = .ok (.goto 4, 3) := by decide +kernel
theorem dX1_isFewer_20 : decode cX1_isFewer 20 = .ok (.iconst 0, 1) := by decide +kernel
theorem dX1_isFewer_21 : decode cX1_isFewer 21 = .ok (.ireturn, 1) := by decide +kernel
theorem dX1_leastLeaving_0 : decode cX1_leastLeaving 0 = .ok (.iconst (-1), 1) := by decide +kernel
theorem dX1_leastLeaving_1 : decode cX1_leastLeaving 1 = .ok (.istore_n 2, 1) := by decide +kernel
theorem dX1_leastLeaving_2 : decode cX1_leastLeaving 2 = .ok (.iconst 0, 1) := by decide +kernel
theorem dX1_leastLeaving_3 : decode cX1_leastLeaving 3 = .ok (.istore_n 3, 1) := by decide +kernel
theorem dX1_leastLeaving_4 : decode cX1_leastLeaving 4 = .ok (.iload_n 3, 1) := by decide +kernel
theorem dX1_leastLeaving_5 : decode cX1_leastLeaving 5 = .ok (.aload_n 0, 1) := by decide +kernel
theorem dX1_leastLeaving_6 : decode cX1_leastLeaving 6 = .ok (.getfield 15, 3) := by decide +kernel
theorem dX1_leastLeaving_9 : decode cX1_leastLeaving 9 = .ok (.if_icmp .gt 46, 3) := by decide +kernel
theorem dX1_leastLeaving_12 : decode cX1_leastLeaving 12 = .ok (.iload_n 3, 1) := by decide +kernel
theorem dX1_leastLeaving_13 : decode cX1_leastLeaving 13 = .ok (.aload_n 0, 1) := by decide +kernel
theorem dX1_leastLeaving_14 : decode cX1_leastLeaving 14 = .ok (.getfield 15, 3) := by decide +kernel
theorem dX1_leastLeaving_17 : decode cX1_leastLeaving 17 = .ok (.iconst (-1), 1) := by decide +kernel
theorem dX1_leastLeaving_18 : decode cX1_leastLeaving 18 = .ok (.ixor, 1) := by decide +kernel
theorem dX1_leastLeaving_19 : decode cX1_leastLeaving 19 = .ok (.iand, 1) := by decide +kernel
theorem dX1_leastLeaving_20 : decode cX1_leastLeaving 20 = .ok (.ifCond .ne 29, 3) := by decide +kernel
theorem dX1_leastLeaving_23 : decode cX1_leastLeaving 23 = .ok (.iload_n 3, 1) := by decide +kernel
theorem dX1_leastLeaving_24 : decode cX1_leastLeaving 24 = .ok (.iload_n 2, 1) := by decide +kernel
theorem dX1_leastLeaving_25 : decode cX1_leastLeaving 25 = .ok (.invokestatic 21, 3) := by decide +kernel
theorem dX1_leastLeaving_28 : decode cX1_leastLeaving 28 = .ok (.ifCond .eq 21, 3) := by decide +kernel
theorem dX1_leastLeaving_31 : decode cX1_leastLeaving 31 = .ok (.aload_n 0, 1) := by decide +kernel
theorem dX1_leastLeaving_32 : decode cX1_leastLeaving 32 = .ok (.aload_n 0, 1) := by decide +kernel
theorem dX1_leastLeaving_33 : decode cX1_leastLeaving 33 = .ok (.getfield 15, 3) := by decide +kernel
theorem dX1_leastLeaving_36 : decode cX1_leastLeaving 36 = .ok (.iload_n 3, 1) := by decide +kernel
theorem dX1_leastLeaving_37 : decode cX1_leastLeaving 37 = .ok (.iconst (-1), 1) := by decide +kernel
theorem dX1_leastLeaving_38 : decode cX1_leastLeaving 38 = .ok (.ixor, 1) := by decide +kernel
theorem dX1_leastLeaving_39 : decode cX1_leastLeaving 39 = .ok (.iand, 1) := by decide +kernel
theorem dX1_leastLeaving_40 : decode cX1_leastLeaving 40 = .ok (.invokevirtual 27, 3) := by decide +kernel
theorem dX1_leastLeaving_43 : decode cX1_leastLeaving 43 = .ok (.iload_n 1, 1) := by decide +kernel
theorem dX1_leastLeaving_44 : decode cX1_leastLeaving 44 = .ok (.if_icmp .ne 5, 3) := by decide +kernel
theorem dX1_leastLeaving_47 : decode cX1_leastLeaving 47 = .ok (.iload_n 3, 1) := by decide +kernel
theorem dX1_leastLeaving_48 : decode cX1_leastLeaving 48 = .ok (.istore_n 2, 1) := by decide +kernel
theorem dX1_leastLeaving_49 : decode cX1_leastLeaving 49 = .ok (.iinc 3 1, 3) := by decide +kernel
theorem dX1_leastLeaving_52 : decode cX1_leastLeaving 52 = .ok (.goto (-48), 3) := by decide +kernel
theorem dX1_leastLeaving_55 : decode cX1_leastLeaving 55 = .ok (.iload_n 2, 1) := by decide +kernel
theorem dX1_leastLeaving_56 : decode cX1_leastLeaving 56 = .ok (.ireturn, 1) := by decide +kernel
theorem dX1_leastUnsaying_0 : decode cX1_leastUnsaying 0 = .ok (.iconst (-1), 1) := by decide +kernel
theorem dX1_leastUnsaying_1 : decode cX1_leastUnsaying 1 = .ok (.istore_n 2, 1) := by decide +kernel
theorem dX1_leastUnsaying_2 : decode cX1_leastUnsaying 2 = .ok (.iconst (-1), 1) := by decide +kernel
theorem dX1_leastUnsaying_3 : decode cX1_leastUnsaying 3 = .ok (.istore_n 3, 1) := by decide +kernel
theorem dX1_leastUnsaying_4 : decode cX1_leastUnsaying 4 = .ok (.iconst 0, 1) := by decide +kernel
theorem dX1_leastUnsaying_5 : decode cX1_leastUnsaying 5 = .ok (.istore 4, 2) := by decide +kernel
theorem dX1_leastUnsaying_7 : decode cX1_leastUnsaying 7 = .ok (.iload 4, 2) := by decide +kernel
theorem dX1_leastUnsaying_9 : decode cX1_leastUnsaying 9 = .ok (.aload_n 0, 1) := by decide +kernel
theorem dX1_leastUnsaying_10 : decode cX1_leastUnsaying 10 = .ok (.getfield 15, 3) := by decide +kernel
theorem dX1_leastUnsaying_13 : decode cX1_leastUnsaying 13 = .ok (.if_icmp .gt 92, 3) := by decide +kernel
theorem dX1_leastUnsaying_16 : decode cX1_leastUnsaying 16 = .ok (.iload 4, 2) := by decide +kernel
theorem dX1_leastUnsaying_18 : decode cX1_leastUnsaying 18 = .ok (.aload_n 0, 1) := by decide +kernel
theorem dX1_leastUnsaying_19 : decode cX1_leastUnsaying 19 = .ok (.getfield 15, 3) := by decide +kernel
theorem dX1_leastUnsaying_22 : decode cX1_leastUnsaying 22 = .ok (.iconst (-1), 1) := by decide +kernel
theorem dX1_leastUnsaying_23 : decode cX1_leastUnsaying 23 = .ok (.ixor, 1) := by decide +kernel
theorem dX1_leastUnsaying_24 : decode cX1_leastUnsaying 24 = .ok (.iand, 1) := by decide +kernel
theorem dX1_leastUnsaying_25 : decode cX1_leastUnsaying 25 = .ok (.ifCond .eq 6, 3) := by decide +kernel
theorem dX1_leastUnsaying_28 : decode cX1_leastUnsaying 28 = .ok (.goto 71, 3) := by decide +kernel
theorem dX1_leastUnsaying_31 : decode cX1_leastUnsaying 31 = .ok (.aload_n 0, 1) := by decide +kernel
theorem dX1_leastUnsaying_32 : decode cX1_leastUnsaying 32 = .ok (.aload_n 0, 1) := by decide +kernel
theorem dX1_leastUnsaying_33 : decode cX1_leastUnsaying 33 = .ok (.getfield 15, 3) := by decide +kernel
theorem dX1_leastUnsaying_36 : decode cX1_leastUnsaying 36 = .ok (.iload 4, 2) := by decide +kernel
theorem dX1_leastUnsaying_38 : decode cX1_leastUnsaying 38 = .ok (.iconst (-1), 1) := by decide +kernel
theorem dX1_leastUnsaying_39 : decode cX1_leastUnsaying 39 = .ok (.ixor, 1) := by decide +kernel
theorem dX1_leastUnsaying_40 : decode cX1_leastUnsaying 40 = .ok (.iand, 1) := by decide +kernel
theorem dX1_leastUnsaying_41 : decode cX1_leastUnsaying 41 = .ok (.invokevirtual 27, 3) := by decide +kernel
theorem dX1_leastUnsaying_44 : decode cX1_leastUnsaying 44 = .ok (.istore 5, 2) := by decide +kernel
theorem dX1_leastUnsaying_46 : decode cX1_leastUnsaying 46 = .ok (.iload 5, 2) := by decide +kernel
theorem dX1_leastUnsaying_48 : decode cX1_leastUnsaying 48 = .ok (.invokestatic 9, 3) := by decide +kernel
theorem dX1_leastUnsaying_51 : decode cX1_leastUnsaying 51 = .ok (.istore 6, 2) := by decide +kernel
theorem dX1_leastUnsaying_53 : decode cX1_leastUnsaying 53 = .ok (.iload 6, 2) := by decide +kernel
theorem dX1_leastUnsaying_55 : decode cX1_leastUnsaying 55 = .ok (.iload_n 3, 1) := by decide +kernel
theorem dX1_leastUnsaying_56 : decode cX1_leastUnsaying 56 = .ok (.if_icmp .gt 18, 3) := by decide +kernel
theorem dX1_leastUnsaying_59 : decode cX1_leastUnsaying 59 = .ok (.iload 6, 2) := by decide +kernel
theorem dX1_leastUnsaying_61 : decode cX1_leastUnsaying 61 = .ok (.iload_n 3, 1) := by decide +kernel
theorem dX1_leastUnsaying_62 : decode cX1_leastUnsaying 62 = .ok (.if_icmp .ne 16, 3) := by decide +kernel
theorem dX1_leastUnsaying_65 : decode cX1_leastUnsaying 65 = .ok (.iload 4, 2) := by decide +kernel
theorem dX1_leastUnsaying_67 : decode cX1_leastUnsaying 67 = .ok (.iload_n 2, 1) := by decide +kernel
theorem dX1_leastUnsaying_68 : decode cX1_leastUnsaying 68 = .ok (.invokestatic 21, 3) := by decide +kernel
theorem dX1_leastUnsaying_71 : decode cX1_leastUnsaying 71 = .ok (.ifCond .eq 7, 3) := by decide +kernel
theorem dX1_leastUnsaying_74 : decode cX1_leastUnsaying 74 = .ok (.iconst 1, 1) := by decide +kernel
theorem dX1_leastUnsaying_75 : decode cX1_leastUnsaying 75 = .ok (.goto 4, 3) := by decide +kernel
theorem dX1_leastUnsaying_78 : decode cX1_leastUnsaying 78 = .ok (.iconst 0, 1) := by decide +kernel
theorem dX1_leastUnsaying_79 : decode cX1_leastUnsaying 79 = .ok (.istore 7, 2) := by decide +kernel
theorem dX1_leastUnsaying_81 : decode cX1_leastUnsaying 81 = .ok (.iload 5, 2) := by decide +kernel
theorem dX1_leastUnsaying_83 : decode cX1_leastUnsaying 83 = .ok (.iload_n 1, 1) := by decide +kernel
theorem dX1_leastUnsaying_84 : decode cX1_leastUnsaying 84 = .ok (.iand, 1) := by decide +kernel
theorem dX1_leastUnsaying_85 : decode cX1_leastUnsaying 85 = .ok (.ifCond .ne 14, 3) := by decide +kernel
theorem dX1_leastUnsaying_88 : decode cX1_leastUnsaying 88 = .ok (.iload 7, 2) := by decide +kernel
theorem dX1_leastUnsaying_90 : decode cX1_leastUnsaying 90 = .ok (.ifCond .eq 9, 3) := by decide +kernel
theorem dX1_leastUnsaying_93 : decode cX1_leastUnsaying 93 = .ok (.iload 4, 2) := by decide +kernel
theorem dX1_leastUnsaying_95 : decode cX1_leastUnsaying 95 = .ok (.istore_n 2, 1) := by decide +kernel
theorem dX1_leastUnsaying_96 : decode cX1_leastUnsaying 96 = .ok (.iload 6, 2) := by decide +kernel
theorem dX1_leastUnsaying_98 : decode cX1_leastUnsaying 98 = .ok (.istore_n 3, 1) := by decide +kernel
theorem dX1_leastUnsaying_99 : decode cX1_leastUnsaying 99 = .ok (.iinc 4 1, 3) := by decide +kernel
theorem dX1_leastUnsaying_102 : decode cX1_leastUnsaying 102 = .ok (.goto (-95), 3) := by decide +kernel
theorem dX1_leastUnsaying_105 : decode cX1_leastUnsaying 105 = .ok (.iload_n 2, 1) := by decide +kernel
theorem dX1_leastUnsaying_106 : decode cX1_leastUnsaying 106 = .ok (.ireturn, 1) := by decide +kernel
theorem dX1_leastUnder_0 : decode cX1_leastUnder 0 = .ok (.iconst (-1), 1) := by decide +kernel
theorem dX1_leastUnder_1 : decode cX1_leastUnder 1 = .ok (.istore_n 2, 1) := by decide +kernel
theorem dX1_leastUnder_2 : decode cX1_leastUnder 2 = .ok (.iconst 0, 1) := by decide +kernel
theorem dX1_leastUnder_3 : decode cX1_leastUnder 3 = .ok (.istore_n 3, 1) := by decide +kernel
theorem dX1_leastUnder_4 : decode cX1_leastUnder 4 = .ok (.iload_n 3, 1) := by decide +kernel
theorem dX1_leastUnder_5 : decode cX1_leastUnder 5 = .ok (.aload_n 0, 1) := by decide +kernel
theorem dX1_leastUnder_6 : decode cX1_leastUnder 6 = .ok (.getfield 15, 3) := by decide +kernel
theorem dX1_leastUnder_9 : decode cX1_leastUnder 9 = .ok (.if_icmp .gt 46, 3) := by decide +kernel
theorem dX1_leastUnder_12 : decode cX1_leastUnder 12 = .ok (.iload_n 3, 1) := by decide +kernel
theorem dX1_leastUnder_13 : decode cX1_leastUnder 13 = .ok (.aload_n 0, 1) := by decide +kernel
theorem dX1_leastUnder_14 : decode cX1_leastUnder 14 = .ok (.getfield 15, 3) := by decide +kernel
theorem dX1_leastUnder_17 : decode cX1_leastUnder 17 = .ok (.iconst (-1), 1) := by decide +kernel
theorem dX1_leastUnder_18 : decode cX1_leastUnder 18 = .ok (.ixor, 1) := by decide +kernel
theorem dX1_leastUnder_19 : decode cX1_leastUnder 19 = .ok (.iand, 1) := by decide +kernel
theorem dX1_leastUnder_20 : decode cX1_leastUnder 20 = .ok (.ifCond .ne 29, 3) := by decide +kernel
theorem dX1_leastUnder_23 : decode cX1_leastUnder 23 = .ok (.iload_n 3, 1) := by decide +kernel
theorem dX1_leastUnder_24 : decode cX1_leastUnder 24 = .ok (.iload_n 2, 1) := by decide +kernel
theorem dX1_leastUnder_25 : decode cX1_leastUnder 25 = .ok (.invokestatic 21, 3) := by decide +kernel
theorem dX1_leastUnder_28 : decode cX1_leastUnder 28 = .ok (.ifCond .eq 21, 3) := by decide +kernel
theorem dX1_leastUnder_31 : decode cX1_leastUnder 31 = .ok (.aload_n 0, 1) := by decide +kernel
theorem dX1_leastUnder_32 : decode cX1_leastUnder 32 = .ok (.aload_n 0, 1) := by decide +kernel
theorem dX1_leastUnder_33 : decode cX1_leastUnder 33 = .ok (.getfield 15, 3) := by decide +kernel
theorem dX1_leastUnder_36 : decode cX1_leastUnder 36 = .ok (.iload_n 3, 1) := by decide +kernel
theorem dX1_leastUnder_37 : decode cX1_leastUnder 37 = .ok (.iconst (-1), 1) := by decide +kernel
theorem dX1_leastUnder_38 : decode cX1_leastUnder 38 = .ok (.ixor, 1) := by decide +kernel
theorem dX1_leastUnder_39 : decode cX1_leastUnder 39 = .ok (.iand, 1) := by decide +kernel
theorem dX1_leastUnder_40 : decode cX1_leastUnder 40 = .ok (.invokevirtual 30, 3) := by decide +kernel
theorem dX1_leastUnder_43 : decode cX1_leastUnder 43 = .ok (.iload_n 1, 1) := by decide +kernel
theorem dX1_leastUnder_44 : decode cX1_leastUnder 44 = .ok (.if_icmp .gt 5, 3) := by decide +kernel
theorem dX1_leastUnder_47 : decode cX1_leastUnder 47 = .ok (.iload_n 3, 1) := by decide +kernel
theorem dX1_leastUnder_48 : decode cX1_leastUnder 48 = .ok (.istore_n 2, 1) := by decide +kernel
theorem dX1_leastUnder_49 : decode cX1_leastUnder 49 = .ok (.iinc 3 1, 3) := by decide +kernel
theorem dX1_leastUnder_52 : decode cX1_leastUnder 52 = .ok (.goto (-48), 3) := by decide +kernel
theorem dX1_leastUnder_55 : decode cX1_leastUnder 55 = .ok (.iload_n 2, 1) := by decide +kernel
theorem dX1_leastUnder_56 : decode cX1_leastUnder 56 = .ok (.ireturn, 1) := by decide +kernel
theorem dX1_countLeaving_0 : decode cX1_countLeaving 0 = .ok (.iconst 0, 1) := by decide +kernel
theorem dX1_countLeaving_1 : decode cX1_countLeaving 1 = .ok (.istore_n 2, 1) := by decide +kernel
theorem dX1_countLeaving_2 : decode cX1_countLeaving 2 = .ok (.iconst 0, 1) := by decide +kernel
theorem dX1_countLeaving_3 : decode cX1_countLeaving 3 = .ok (.istore_n 3, 1) := by decide +kernel
theorem dX1_countLeaving_4 : decode cX1_countLeaving 4 = .ok (.iload_n 3, 1) := by decide +kernel
theorem dX1_countLeaving_5 : decode cX1_countLeaving 5 = .ok (.aload_n 0, 1) := by decide +kernel
theorem dX1_countLeaving_6 : decode cX1_countLeaving 6 = .ok (.invokevirtual 33, 3) := by decide +kernel
theorem dX1_countLeaving_9 : decode cX1_countLeaving 9 = .ok (.if_icmp .gt 21, 3) := by decide +kernel
theorem dX1_countLeaving_12 : decode cX1_countLeaving 12 = .ok (.aload_n 0, 1) := by decide +kernel
theorem dX1_countLeaving_13 : decode cX1_countLeaving 13 = .ok (.iload_n 3, 1) := by decide +kernel
theorem dX1_countLeaving_14 : decode cX1_countLeaving 14 = .ok (.invokevirtual 27, 3) := by decide +kernel
theorem dX1_countLeaving_17 : decode cX1_countLeaving 17 = .ok (.iload_n 1, 1) := by decide +kernel
theorem dX1_countLeaving_18 : decode cX1_countLeaving 18 = .ok (.if_icmp .ne 6, 3) := by decide +kernel
theorem dX1_countLeaving_21 : decode cX1_countLeaving 21 = .ok (.iinc 2 1, 3) := by decide +kernel
theorem dX1_countLeaving_24 : decode cX1_countLeaving 24 = .ok (.iinc 3 1, 3) := by decide +kernel
theorem dX1_countLeaving_27 : decode cX1_countLeaving 27 = .ok (.goto (-23), 3) := by decide +kernel
theorem dX1_countLeaving_30 : decode cX1_countLeaving 30 = .ok (.iload_n 2, 1) := by decide +kernel
theorem dX1_countLeaving_31 : decode cX1_countLeaving 31 = .ok (.ireturn, 1) := by decide +kernel
theorem dX1_isRemembered_0 : decode cX1_isRemembered 0 = .ok (.iload_n 2, 1) := by decide +kernel
theorem dX1_isRemembered_1 : decode cX1_isRemembered 1 = .ok (.aload_n 0, 1) := by decide +kernel
theorem dX1_isRemembered_2 : decode cX1_isRemembered 2 = .ok (.getfield 15, 3) := by decide +kernel
theorem dX1_isRemembered_5 : decode cX1_isRemembered 5 = .ok (.iand, 1) := by decide +kernel
theorem dX1_isRemembered_6 : decode cX1_isRemembered 6 = .ok (.ifCond .ne 30, 3) := by decide +kernel
theorem dX1_isRemembered_9 : decode cX1_isRemembered 9 = .ok (.aload_n 0, 1) := by decide +kernel
theorem dX1_isRemembered_10 : decode cX1_isRemembered 10 = .ok (.aload_n 0, 1) := by decide +kernel
theorem dX1_isRemembered_11 : decode cX1_isRemembered 11 = .ok (.getfield 15, 3) := by decide +kernel
theorem dX1_isRemembered_14 : decode cX1_isRemembered 14 = .ok (.iload_n 2, 1) := by decide +kernel
theorem dX1_isRemembered_15 : decode cX1_isRemembered 15 = .ok (.ior, 1) := by decide +kernel
theorem dX1_isRemembered_16 : decode cX1_isRemembered 16 = .ok (.invokevirtual 27, 3) := by decide +kernel
theorem dX1_isRemembered_19 : decode cX1_isRemembered 19 = .ok (.aload_n 0, 1) := by decide +kernel
theorem dX1_isRemembered_20 : decode cX1_isRemembered 20 = .ok (.aload_n 0, 1) := by decide +kernel
theorem dX1_isRemembered_21 : decode cX1_isRemembered 21 = .ok (.getfield 15, 3) := by decide +kernel
theorem dX1_isRemembered_24 : decode cX1_isRemembered 24 = .ok (.invokevirtual 27, 3) := by decide +kernel
theorem dX1_isRemembered_27 : decode cX1_isRemembered 27 = .ok (.iload_n 1, 1) := by decide +kernel
theorem dX1_isRemembered_28 : decode cX1_isRemembered 28 = .ok (.ior, 1) := by decide +kernel
theorem dX1_isRemembered_29 : decode cX1_isRemembered 29 = .ok (.if_icmp .ne 7, 3) := by decide +kernel
theorem dX1_isRemembered_32 : decode cX1_isRemembered 32 = .ok (.iconst 1, 1) := by decide +kernel
theorem dX1_isRemembered_33 : decode cX1_isRemembered 33 = .ok (.goto 4, 3) := by decide +kernel
theorem dX1_isRemembered_36 : decode cX1_isRemembered 36 = .ok (.iconst 0, 1) := by decide +kernel
theorem dX1_isRemembered_37 : decode cX1_isRemembered 37 = .ok (.ireturn, 1) := by decide +kernel
theorem dX1_countRemembered_0 : decode cX1_countRemembered 0 = .ok (.iconst 0, 1) := by decide +kernel
theorem dX1_countRemembered_1 : decode cX1_countRemembered 1 = .ok (.istore_n 2, 1) := by decide +kernel
theorem dX1_countRemembered_2 : decode cX1_countRemembered 2 = .ok (.iconst 0, 1) := by decide +kernel
theorem dX1_countRemembered_3 : decode cX1_countRemembered 3 = .ok (.istore_n 3, 1) := by decide +kernel
theorem dX1_countRemembered_4 : decode cX1_countRemembered 4 = .ok (.iload_n 3, 1) := by decide +kernel
theorem dX1_countRemembered_5 : decode cX1_countRemembered 5 = .ok (.aload_n 0, 1) := by decide +kernel
theorem dX1_countRemembered_6 : decode cX1_countRemembered 6 = .ok (.invokevirtual 33, 3) := by decide +kernel
theorem dX1_countRemembered_9 : decode cX1_countRemembered 9 = .ok (.if_icmp .gt 21, 3) := by decide +kernel
theorem dX1_countRemembered_12 : decode cX1_countRemembered 12 = .ok (.aload_n 0, 1) := by decide +kernel
theorem dX1_countRemembered_13 : decode cX1_countRemembered 13 = .ok (.iload_n 1, 1) := by decide +kernel
theorem dX1_countRemembered_14 : decode cX1_countRemembered 14 = .ok (.iload_n 3, 1) := by decide +kernel
theorem dX1_countRemembered_15 : decode cX1_countRemembered 15 = .ok (.invokestatic 37, 3) := by decide +kernel
theorem dX1_countRemembered_18 : decode cX1_countRemembered 18 = .ok (.ifCond .eq 6, 3) := by decide +kernel
theorem dX1_countRemembered_21 : decode cX1_countRemembered 21 = .ok (.iinc 2 1, 3) := by decide +kernel
theorem dX1_countRemembered_24 : decode cX1_countRemembered 24 = .ok (.iinc 3 1, 3) := by decide +kernel
theorem dX1_countRemembered_27 : decode cX1_countRemembered 27 = .ok (.goto (-23), 3) := by decide +kernel
theorem dX1_countRemembered_30 : decode cX1_countRemembered 30 = .ok (.iload_n 2, 1) := by decide +kernel
theorem dX1_countRemembered_31 : decode cX1_countRemembered 31 = .ok (.ireturn, 1) := by decide +kernel
theorem dX1_leastRemembered_0 : decode cX1_leastRemembered 0 = .ok (.iconst 0, 1) := by decide +kernel
theorem dX1_leastRemembered_1 : decode cX1_leastRemembered 1 = .ok (.istore_n 2, 1) := by decide +kernel
theorem dX1_leastRemembered_2 : decode cX1_leastRemembered 2 = .ok (.iload_n 2, 1) := by decide +kernel
theorem dX1_leastRemembered_3 : decode cX1_leastRemembered 3 = .ok (.aload_n 0, 1) := by decide +kernel
theorem dX1_leastRemembered_4 : decode cX1_leastRemembered 4 = .ok (.invokevirtual 33, 3) := by decide +kernel
theorem dX1_leastRemembered_7 : decode cX1_leastRemembered 7 = .ok (.if_icmp .gt 20, 3) := by decide +kernel
theorem dX1_leastRemembered_10 : decode cX1_leastRemembered 10 = .ok (.aload_n 0, 1) := by decide +kernel
theorem dX1_leastRemembered_11 : decode cX1_leastRemembered 11 = .ok (.iload_n 1, 1) := by decide +kernel
theorem dX1_leastRemembered_12 : decode cX1_leastRemembered 12 = .ok (.iload_n 2, 1) := by decide +kernel
theorem dX1_leastRemembered_13 : decode cX1_leastRemembered 13 = .ok (.invokestatic 37, 3) := by decide +kernel
theorem dX1_leastRemembered_16 : decode cX1_leastRemembered 16 = .ok (.ifCond .eq 5, 3) := by decide +kernel
theorem dX1_leastRemembered_19 : decode cX1_leastRemembered 19 = .ok (.iload_n 2, 1) := by decide +kernel
theorem dX1_leastRemembered_20 : decode cX1_leastRemembered 20 = .ok (.ireturn, 1) := by decide +kernel
theorem dX1_leastRemembered_21 : decode cX1_leastRemembered 21 = .ok (.iinc 2 1, 3) := by decide +kernel
theorem dX1_leastRemembered_24 : decode cX1_leastRemembered 24 = .ok (.goto (-22), 3) := by decide +kernel
theorem dX1_leastRemembered_27 : decode cX1_leastRemembered 27 = .ok (.iconst (-1), 1) := by decide +kernel
theorem dX1_leastRemembered_28 : decode cX1_leastRemembered 28 = .ok (.ireturn, 1) := by decide +kernel
theorem dX1_worstBack_0 : decode cX1_worstBack 0 = .ok (.iconst (-1), 1) := by decide +kernel
theorem dX1_worstBack_1 : decode cX1_worstBack 1 = .ok (.istore_n 2, 1) := by decide +kernel
theorem dX1_worstBack_2 : decode cX1_worstBack 2 = .ok (.iconst 0, 1) := by decide +kernel
theorem dX1_worstBack_3 : decode cX1_worstBack 3 = .ok (.istore_n 3, 1) := by decide +kernel
theorem dX1_worstBack_4 : decode cX1_worstBack 4 = .ok (.iconst 0, 1) := by decide +kernel
theorem dX1_worstBack_5 : decode cX1_worstBack 5 = .ok (.istore 4, 2) := by decide +kernel
theorem dX1_worstBack_7 : decode cX1_worstBack 7 = .ok (.iload 4, 2) := by decide +kernel
theorem dX1_worstBack_9 : decode cX1_worstBack 9 = .ok (.aload_n 0, 1) := by decide +kernel
theorem dX1_worstBack_10 : decode cX1_worstBack 10 = .ok (.getfield 41, 3) := by decide +kernel
theorem dX1_worstBack_13 : decode cX1_worstBack 13 = .ok (.if_icmp .ge 52, 3) := by decide +kernel
theorem dX1_worstBack_16 : decode cX1_worstBack 16 = .ok (.iload_n 1, 1) := by decide +kernel
theorem dX1_worstBack_17 : decode cX1_worstBack 17 = .ok (.iload 4, 2) := by decide +kernel
theorem dX1_worstBack_19 : decode cX1_worstBack 19 = .ok (.invokestatic 44, 3) := by decide +kernel
theorem dX1_worstBack_22 : decode cX1_worstBack 22 = .ok (.ifCond .eq 37, 3) := by decide +kernel
theorem dX1_worstBack_25 : decode cX1_worstBack 25 = .ok (.aload_n 0, 1) := by decide +kernel
theorem dX1_worstBack_26 : decode cX1_worstBack 26 = .ok (.aload_n 0, 1) := by decide +kernel
theorem dX1_worstBack_27 : decode cX1_worstBack 27 = .ok (.getfield 15, 3) := by decide +kernel
theorem dX1_worstBack_30 : decode cX1_worstBack 30 = .ok (.iconst 1, 1) := by decide +kernel
theorem dX1_worstBack_31 : decode cX1_worstBack 31 = .ok (.iload 4, 2) := by decide +kernel
theorem dX1_worstBack_33 : decode cX1_worstBack 33 = .ok (.ishl, 1) := by decide +kernel
theorem dX1_worstBack_34 : decode cX1_worstBack 34 = .ok (.iconst (-1), 1) := by decide +kernel
theorem dX1_worstBack_35 : decode cX1_worstBack 35 = .ok (.ixor, 1) := by decide +kernel
theorem dX1_worstBack_36 : decode cX1_worstBack 36 = .ok (.iand, 1) := by decide +kernel
theorem dX1_worstBack_37 : decode cX1_worstBack 37 = .ok (.invokevirtual 30, 3) := by decide +kernel
theorem dX1_worstBack_40 : decode cX1_worstBack 40 = .ok (.istore 5, 2) := by decide +kernel
theorem dX1_worstBack_42 : decode cX1_worstBack 42 = .ok (.iload_n 2, 1) := by decide +kernel
theorem dX1_worstBack_43 : decode cX1_worstBack 43 = .ok (.iconst (-1), 1) := by decide +kernel
theorem dX1_worstBack_44 : decode cX1_worstBack 44 = .ok (.if_icmp .eq 9, 3) := by decide +kernel
theorem dX1_worstBack_47 : decode cX1_worstBack 47 = .ok (.iload 5, 2) := by decide +kernel
theorem dX1_worstBack_49 : decode cX1_worstBack 49 = .ok (.iload_n 3, 1) := by decide +kernel
theorem dX1_worstBack_50 : decode cX1_worstBack 50 = .ok (.if_icmp .ge 9, 3) := by decide +kernel
theorem dX1_worstBack_53 : decode cX1_worstBack 53 = .ok (.iload 4, 2) := by decide +kernel
theorem dX1_worstBack_55 : decode cX1_worstBack 55 = .ok (.istore_n 2, 1) := by decide +kernel
theorem dX1_worstBack_56 : decode cX1_worstBack 56 = .ok (.iload 5, 2) := by decide +kernel
theorem dX1_worstBack_58 : decode cX1_worstBack 58 = .ok (.istore_n 3, 1) := by decide +kernel
theorem dX1_worstBack_59 : decode cX1_worstBack 59 = .ok (.iinc 4 1, 3) := by decide +kernel
theorem dX1_worstBack_62 : decode cX1_worstBack 62 = .ok (.goto (-55), 3) := by decide +kernel
theorem dX1_worstBack_65 : decode cX1_worstBack 65 = .ok (.iload_n 2, 1) := by decide +kernel
theorem dX1_worstBack_66 : decode cX1_worstBack 66 = .ok (.ireturn, 1) := by decide +kernel
theorem dX1_bestForwards_0 : decode cX1_bestForwards 0 = .ok (.iconst (-1), 1) := by decide +kernel
theorem dX1_bestForwards_1 : decode cX1_bestForwards 1 = .ok (.istore_n 1, 1) := by decide +kernel
theorem dX1_bestForwards_2 : decode cX1_bestForwards 2 = .ok (.iconst (-1), 1) := by decide +kernel
theorem dX1_bestForwards_3 : decode cX1_bestForwards 3 = .ok (.istore_n 2, 1) := by decide +kernel
theorem dX1_bestForwards_4 : decode cX1_bestForwards 4 = .ok (.iconst 0, 1) := by decide +kernel
theorem dX1_bestForwards_5 : decode cX1_bestForwards 5 = .ok (.istore_n 3, 1) := by decide +kernel
theorem dX1_bestForwards_6 : decode cX1_bestForwards 6 = .ok (.iload_n 3, 1) := by decide +kernel
theorem dX1_bestForwards_7 : decode cX1_bestForwards 7 = .ok (.aload_n 0, 1) := by decide +kernel
theorem dX1_bestForwards_8 : decode cX1_bestForwards 8 = .ok (.getfield 41, 3) := by decide +kernel
theorem dX1_bestForwards_11 : decode cX1_bestForwards 11 = .ok (.if_icmp .ge 45, 3) := by decide +kernel
theorem dX1_bestForwards_14 : decode cX1_bestForwards 14 = .ok (.aload_n 0, 1) := by decide +kernel
theorem dX1_bestForwards_15 : decode cX1_bestForwards 15 = .ok (.getfield 15, 3) := by decide +kernel
theorem dX1_bestForwards_18 : decode cX1_bestForwards 18 = .ok (.iload_n 3, 1) := by decide +kernel
theorem dX1_bestForwards_19 : decode cX1_bestForwards 19 = .ok (.invokestatic 44, 3) := by decide +kernel
theorem dX1_bestForwards_22 : decode cX1_bestForwards 22 = .ok (.ifCond .ne 28, 3) := by decide +kernel
theorem dX1_bestForwards_25 : decode cX1_bestForwards 25 = .ok (.aload_n 0, 1) := by decide +kernel
theorem dX1_bestForwards_26 : decode cX1_bestForwards 26 = .ok (.aload_n 0, 1) := by decide +kernel
theorem dX1_bestForwards_27 : decode cX1_bestForwards 27 = .ok (.getfield 15, 3) := by decide +kernel
theorem dX1_bestForwards_30 : decode cX1_bestForwards 30 = .ok (.iconst 1, 1) := by decide +kernel
theorem dX1_bestForwards_31 : decode cX1_bestForwards 31 = .ok (.iload_n 3, 1) := by decide +kernel
theorem dX1_bestForwards_32 : decode cX1_bestForwards 32 = .ok (.ishl, 1) := by decide +kernel
theorem dX1_bestForwards_33 : decode cX1_bestForwards 33 = .ok (.ior, 1) := by decide +kernel
theorem dX1_bestForwards_34 : decode cX1_bestForwards 34 = .ok (.invokevirtual 30, 3) := by decide +kernel
theorem dX1_bestForwards_37 : decode cX1_bestForwards 37 = .ok (.istore 4, 2) := by decide +kernel
theorem dX1_bestForwards_39 : decode cX1_bestForwards 39 = .ok (.iload 4, 2) := by decide +kernel
theorem dX1_bestForwards_41 : decode cX1_bestForwards 41 = .ok (.iload_n 2, 1) := by decide +kernel
theorem dX1_bestForwards_42 : decode cX1_bestForwards 42 = .ok (.if_icmp .le 8, 3) := by decide +kernel
theorem dX1_bestForwards_45 : decode cX1_bestForwards 45 = .ok (.iload_n 3, 1) := by decide +kernel
theorem dX1_bestForwards_46 : decode cX1_bestForwards 46 = .ok (.istore_n 1, 1) := by decide +kernel
theorem dX1_bestForwards_47 : decode cX1_bestForwards 47 = .ok (.iload 4, 2) := by decide +kernel
theorem dX1_bestForwards_49 : decode cX1_bestForwards 49 = .ok (.istore_n 2, 1) := by decide +kernel
theorem dX1_bestForwards_50 : decode cX1_bestForwards 50 = .ok (.iinc 3 1, 3) := by decide +kernel
theorem dX1_bestForwards_53 : decode cX1_bestForwards 53 = .ok (.goto (-47), 3) := by decide +kernel
theorem dX1_bestForwards_56 : decode cX1_bestForwards 56 = .ok (.iload_n 1, 1) := by decide +kernel
theorem dX1_bestForwards_57 : decode cX1_bestForwards 57 = .ok (.ireturn, 1) := by decide +kernel
theorem dX1_worstPair_0 : decode cX1_worstPair 0 = .ok (.iconst (-1), 1) := by decide +kernel
theorem dX1_worstPair_1 : decode cX1_worstPair 1 = .ok (.istore_n 1, 1) := by decide +kernel
theorem dX1_worstPair_2 : decode cX1_worstPair 2 = .ok (.iconst 0, 1) := by decide +kernel
theorem dX1_worstPair_3 : decode cX1_worstPair 3 = .ok (.istore_n 2, 1) := by decide +kernel
theorem dX1_worstPair_4 : decode cX1_worstPair 4 = .ok (.iconst 0, 1) := by decide +kernel
theorem dX1_worstPair_5 : decode cX1_worstPair 5 = .ok (.istore_n 3, 1) := by decide +kernel
theorem dX1_worstPair_6 : decode cX1_worstPair 6 = .ok (.iload_n 3, 1) := by decide +kernel
theorem dX1_worstPair_7 : decode cX1_worstPair 7 = .ok (.aload_n 0, 1) := by decide +kernel
theorem dX1_worstPair_8 : decode cX1_worstPair 8 = .ok (.getfield 41, 3) := by decide +kernel
theorem dX1_worstPair_11 : decode cX1_worstPair 11 = .ok (.if_icmp .ge 88, 3) := by decide +kernel
theorem dX1_worstPair_14 : decode cX1_worstPair 14 = .ok (.iload_n 3, 1) := by decide +kernel
theorem dX1_worstPair_15 : decode cX1_worstPair 15 = .ok (.iconst 1, 1) := by decide +kernel
theorem dX1_worstPair_16 : decode cX1_worstPair 16 = .ok (.iadd, 1) := by decide +kernel
theorem dX1_worstPair_17 : decode cX1_worstPair 17 = .ok (.istore 4, 2) := by decide +kernel
theorem dX1_worstPair_19 : decode cX1_worstPair 19 = .ok (.iload 4, 2) := by decide +kernel
theorem dX1_worstPair_21 : decode cX1_worstPair 21 = .ok (.aload_n 0, 1) := by decide +kernel
theorem dX1_worstPair_22 : decode cX1_worstPair 22 = .ok (.getfield 41, 3) := by decide +kernel
theorem dX1_worstPair_25 : decode cX1_worstPair 25 = .ok (.if_icmp .ge 68, 3) := by decide +kernel
theorem dX1_worstPair_28 : decode cX1_worstPair 28 = .ok (.iconst 1, 1) := by decide +kernel
theorem dX1_worstPair_29 : decode cX1_worstPair 29 = .ok (.iload 4, 2) := by decide +kernel
theorem dX1_worstPair_31 : decode cX1_worstPair 31 = .ok (.ishl, 1) := by decide +kernel
theorem dX1_worstPair_32 : decode cX1_worstPair 32 = .ok (.iconst 1, 1) := by decide +kernel
theorem dX1_worstPair_33 : decode cX1_worstPair 33 = .ok (.iload_n 3, 1) := by decide +kernel
theorem dX1_worstPair_34 : decode cX1_worstPair 34 = .ok (.ishl, 1) := by decide +kernel
theorem dX1_worstPair_35 : decode cX1_worstPair 35 = .ok (.ior, 1) := by decide +kernel
theorem dX1_worstPair_36 : decode cX1_worstPair 36 = .ok (.istore 5, 2) := by decide +kernel
theorem dX1_worstPair_38 : decode cX1_worstPair 38 = .ok (.iload 5, 2) := by decide +kernel
theorem dX1_worstPair_40 : decode cX1_worstPair 40 = .ok (.aload_n 0, 1) := by decide +kernel
theorem dX1_worstPair_41 : decode cX1_worstPair 41 = .ok (.getfield 15, 3) := by decide +kernel
theorem dX1_worstPair_44 : decode cX1_worstPair 44 = .ok (.iconst (-1), 1) := by decide +kernel
theorem dX1_worstPair_45 : decode cX1_worstPair 45 = .ok (.ixor, 1) := by decide +kernel
theorem dX1_worstPair_46 : decode cX1_worstPair 46 = .ok (.iand, 1) := by decide +kernel
theorem dX1_worstPair_47 : decode cX1_worstPair 47 = .ok (.ifCond .ne 40, 3) := by decide +kernel
theorem dX1_worstPair_50 : decode cX1_worstPair 50 = .ok (.aload_n 0, 1) := by decide +kernel
theorem dX1_worstPair_51 : decode cX1_worstPair 51 = .ok (.aload_n 0, 1) := by decide +kernel
theorem dX1_worstPair_52 : decode cX1_worstPair 52 = .ok (.getfield 15, 3) := by decide +kernel
theorem dX1_worstPair_55 : decode cX1_worstPair 55 = .ok (.iload 5, 2) := by decide +kernel
theorem dX1_worstPair_57 : decode cX1_worstPair 57 = .ok (.iconst (-1), 1) := by decide +kernel
theorem dX1_worstPair_58 : decode cX1_worstPair 58 = .ok (.ixor, 1) := by decide +kernel
theorem dX1_worstPair_59 : decode cX1_worstPair 59 = .ok (.iand, 1) := by decide +kernel
theorem dX1_worstPair_60 : decode cX1_worstPair 60 = .ok (.invokevirtual 30, 3) := by decide +kernel
theorem dX1_worstPair_63 : decode cX1_worstPair 63 = .ok (.istore 6, 2) := by decide +kernel
theorem dX1_worstPair_65 : decode cX1_worstPair 65 = .ok (.iload_n 1, 1) := by decide +kernel
theorem dX1_worstPair_66 : decode cX1_worstPair 66 = .ok (.iconst (-1), 1) := by decide +kernel
theorem dX1_worstPair_67 : decode cX1_worstPair 67 = .ok (.if_icmp .eq 9, 3) := by decide +kernel
theorem dX1_worstPair_70 : decode cX1_worstPair 70 = .ok (.iload 6, 2) := by decide +kernel
theorem dX1_worstPair_72 : decode cX1_worstPair 72 = .ok (.iload_n 2, 1) := by decide +kernel
theorem dX1_worstPair_73 : decode cX1_worstPair 73 = .ok (.if_icmp .ge 14, 3) := by decide +kernel
theorem dX1_worstPair_76 : decode cX1_worstPair 76 = .ok (.bipush 10, 2) := by decide +kernel
theorem dX1_worstPair_78 : decode cX1_worstPair 78 = .ok (.iload_n 3, 1) := by decide +kernel
theorem dX1_worstPair_79 : decode cX1_worstPair 79 = .ok (.imul, 1) := by decide +kernel
theorem dX1_worstPair_80 : decode cX1_worstPair 80 = .ok (.iload 4, 2) := by decide +kernel
theorem dX1_worstPair_82 : decode cX1_worstPair 82 = .ok (.iadd, 1) := by decide +kernel
theorem dX1_worstPair_83 : decode cX1_worstPair 83 = .ok (.istore_n 1, 1) := by decide +kernel
theorem dX1_worstPair_84 : decode cX1_worstPair 84 = .ok (.iload 6, 2) := by decide +kernel
theorem dX1_worstPair_86 : decode cX1_worstPair 86 = .ok (.istore_n 2, 1) := by decide +kernel
theorem dX1_worstPair_87 : decode cX1_worstPair 87 = .ok (.iinc 4 1, 3) := by decide +kernel
theorem dX1_worstPair_90 : decode cX1_worstPair 90 = .ok (.goto (-71), 3) := by decide +kernel
theorem dX1_worstPair_93 : decode cX1_worstPair 93 = .ok (.iinc 3 1, 3) := by decide +kernel
theorem dX1_worstPair_96 : decode cX1_worstPair 96 = .ok (.goto (-90), 3) := by decide +kernel
theorem dX1_worstPair_99 : decode cX1_worstPair 99 = .ok (.iload_n 1, 1) := by decide +kernel
theorem dX1_worstPair_100 : decode cX1_worstPair 100 = .ok (.ireturn, 1) := by decide +kernel
theorem dX1_playedOut_0 : decode cX1_playedOut 0 = .ok (.iload_n 2, 1) := by decide +kernel
theorem dX1_playedOut_1 : decode cX1_playedOut 1 = .ok (.ifCond .gt 9, 3) := by decide +kernel
theorem dX1_playedOut_4 : decode cX1_playedOut 4 = .ok (.aload_n 0, 1) := by decide +kernel
theorem dX1_playedOut_5 : decode cX1_playedOut 5 = .ok (.iload_n 1, 1) := by decide +kernel
theorem dX1_playedOut_6 : decode cX1_playedOut 6 = .ok (.invokevirtual 30, 3) := by decide +kernel
theorem dX1_playedOut_9 : decode cX1_playedOut 9 = .ok (.ireturn, 1) := by decide +kernel
theorem dX1_playedOut_10 : decode cX1_playedOut 10 = .ok (.iload_n 3, 1) := by decide +kernel
theorem dX1_playedOut_11 : decode cX1_playedOut 11 = .ok (.ifCond .eq 7, 3) := by decide +kernel
theorem dX1_playedOut_14 : decode cX1_playedOut 14 = .ok (.iload_n 1, 1) := by decide +kernel
theorem dX1_playedOut_15 : decode cX1_playedOut 15 = .ok (.goto 11, 3) := by decide +kernel
theorem dX1_playedOut_18 : decode cX1_playedOut 18 = .ok (.aload_n 0, 1) := by decide +kernel
theorem dX1_playedOut_19 : decode cX1_playedOut 19 = .ok (.invokevirtual 33, 3) := by decide +kernel
theorem dX1_playedOut_22 : decode cX1_playedOut 22 = .ok (.iload_n 1, 1) := by decide +kernel
theorem dX1_playedOut_23 : decode cX1_playedOut 23 = .ok (.iconst (-1), 1) := by decide +kernel
theorem dX1_playedOut_24 : decode cX1_playedOut 24 = .ok (.ixor, 1) := by decide +kernel
theorem dX1_playedOut_25 : decode cX1_playedOut 25 = .ok (.iand, 1) := by decide +kernel
theorem dX1_playedOut_26 : decode cX1_playedOut 26 = .ok (.istore 6, 2) := by decide +kernel
theorem dX1_playedOut_28 : decode cX1_playedOut 28 = .ok (.iload 6, 2) := by decide +kernel
theorem dX1_playedOut_30 : decode cX1_playedOut 30 = .ok (.ifCond .ne 25, 3) := by decide +kernel
theorem dX1_playedOut_33 : decode cX1_playedOut 33 = .ok (.aload_n 0, 1) := by decide +kernel
theorem dX1_playedOut_34 : decode cX1_playedOut 34 = .ok (.iload_n 1, 1) := by decide +kernel
theorem dX1_playedOut_35 : decode cX1_playedOut 35 = .ok (.iload_n 2, 1) := by decide +kernel
theorem dX1_playedOut_36 : decode cX1_playedOut 36 = .ok (.iconst 1, 1) := by decide +kernel
theorem dX1_playedOut_37 : decode cX1_playedOut 37 = .ok (.isub, 1) := by decide +kernel
theorem dX1_playedOut_38 : decode cX1_playedOut 38 = .ok (.iload_n 3, 1) := by decide +kernel
theorem dX1_playedOut_39 : decode cX1_playedOut 39 = .ok (.ifCond .ne 7, 3) := by decide +kernel
theorem dX1_playedOut_42 : decode cX1_playedOut 42 = .ok (.iconst 1, 1) := by decide +kernel
theorem dX1_playedOut_43 : decode cX1_playedOut 43 = .ok (.goto 4, 3) := by decide +kernel
theorem dX1_playedOut_46 : decode cX1_playedOut 46 = .ok (.iconst 0, 1) := by decide +kernel
theorem dX1_playedOut_47 : decode cX1_playedOut 47 = .ok (.iload 4, 2) := by decide +kernel
theorem dX1_playedOut_49 : decode cX1_playedOut 49 = .ok (.iload 5, 2) := by decide +kernel
theorem dX1_playedOut_51 : decode cX1_playedOut 51 = .ok (.invokestatic 47, 3) := by decide +kernel
theorem dX1_playedOut_54 : decode cX1_playedOut 54 = .ok (.ireturn, 1) := by decide +kernel
theorem dX1_playedOut_55 : decode cX1_playedOut 55 = .ok (.iload 4, 2) := by decide +kernel
theorem dX1_playedOut_57 : decode cX1_playedOut 57 = .ok (.istore 7, 2) := by decide +kernel
theorem dX1_playedOut_59 : decode cX1_playedOut 59 = .ok (.iload 5, 2) := by decide +kernel
theorem dX1_playedOut_61 : decode cX1_playedOut 61 = .ok (.istore 8, 2) := by decide +kernel
theorem dX1_playedOut_63 : decode cX1_playedOut 63 = .ok (.iconst 0, 1) := by decide +kernel
theorem dX1_playedOut_64 : decode cX1_playedOut 64 = .ok (.istore 9, 2) := by decide +kernel
theorem dX1_playedOut_66 : decode cX1_playedOut 66 = .ok (.iload 9, 2) := by decide +kernel
theorem dX1_playedOut_68 : decode cX1_playedOut 68 = .ok (.aload_n 0, 1) := by decide +kernel
theorem dX1_playedOut_69 : decode cX1_playedOut 69 = .ok (.getfield 41, 3) := by decide +kernel
theorem dX1_playedOut_72 : decode cX1_playedOut 72 = .ok (.if_icmp .ge 79, 3) := by decide +kernel
theorem dX1_playedOut_75 : decode cX1_playedOut 75 = .ok (.iload 7, 2) := by decide +kernel
theorem dX1_playedOut_77 : decode cX1_playedOut 77 = .ok (.iload 8, 2) := by decide +kernel
theorem dX1_playedOut_79 : decode cX1_playedOut 79 = .ok (.if_icmp .ge 72, 3) := by decide +kernel
theorem dX1_playedOut_82 : decode cX1_playedOut 82 = .ok (.iload 6, 2) := by decide +kernel
theorem dX1_playedOut_84 : decode cX1_playedOut 84 = .ok (.iload 9, 2) := by decide +kernel
theorem dX1_playedOut_86 : decode cX1_playedOut 86 = .ok (.invokestatic 44, 3) := by decide +kernel
theorem dX1_playedOut_89 : decode cX1_playedOut 89 = .ok (.ifCond .eq 56, 3) := by decide +kernel
theorem dX1_playedOut_92 : decode cX1_playedOut 92 = .ok (.aload_n 0, 1) := by decide +kernel
theorem dX1_playedOut_93 : decode cX1_playedOut 93 = .ok (.iload_n 1, 1) := by decide +kernel
theorem dX1_playedOut_94 : decode cX1_playedOut 94 = .ok (.iconst 1, 1) := by decide +kernel
theorem dX1_playedOut_95 : decode cX1_playedOut 95 = .ok (.iload 9, 2) := by decide +kernel
theorem dX1_playedOut_97 : decode cX1_playedOut 97 = .ok (.ishl, 1) := by decide +kernel
theorem dX1_playedOut_98 : decode cX1_playedOut 98 = .ok (.ixor, 1) := by decide +kernel
theorem dX1_playedOut_99 : decode cX1_playedOut 99 = .ok (.iload_n 2, 1) := by decide +kernel
theorem dX1_playedOut_100 : decode cX1_playedOut 100 = .ok (.iconst 1, 1) := by decide +kernel
theorem dX1_playedOut_101 : decode cX1_playedOut 101 = .ok (.isub, 1) := by decide +kernel
theorem dX1_playedOut_102 : decode cX1_playedOut 102 = .ok (.iload_n 3, 1) := by decide +kernel
theorem dX1_playedOut_103 : decode cX1_playedOut 103 = .ok (.ifCond .ne 7, 3) := by decide +kernel
theorem dX1_playedOut_106 : decode cX1_playedOut 106 = .ok (.iconst 1, 1) := by decide +kernel
theorem dX1_playedOut_107 : decode cX1_playedOut 107 = .ok (.goto 4, 3) := by decide +kernel
theorem dX1_playedOut_110 : decode cX1_playedOut 110 = .ok (.iconst 0, 1) := by decide +kernel
theorem dX1_playedOut_111 : decode cX1_playedOut 111 = .ok (.iload 7, 2) := by decide +kernel
theorem dX1_playedOut_113 : decode cX1_playedOut 113 = .ok (.iload 8, 2) := by decide +kernel
theorem dX1_playedOut_115 : decode cX1_playedOut 115 = .ok (.invokestatic 47, 3) := by decide +kernel
theorem dX1_playedOut_118 : decode cX1_playedOut 118 = .ok (.istore 10, 2) := by decide +kernel
theorem dX1_playedOut_120 : decode cX1_playedOut 120 = .ok (.iload_n 3, 1) := by decide +kernel
theorem dX1_playedOut_121 : decode cX1_playedOut 121 = .ok (.ifCond .eq 15, 3) := by decide +kernel
theorem dX1_playedOut_124 : decode cX1_playedOut 124 = .ok (.iload 8, 2) := by decide +kernel
theorem dX1_playedOut_126 : decode cX1_playedOut 126 = .ok (.iload 10, 2) := by decide +kernel
theorem dX1_playedOut_128 : decode cX1_playedOut 128 = .ok (.invokestatic 51, 3) := by decide +kernel
theorem dX1_playedOut_131 : decode cX1_playedOut 131 = .ok (.istore 8, 2) := by decide +kernel
theorem dX1_playedOut_133 : decode cX1_playedOut 133 = .ok (.goto 12, 3) := by decide +kernel
theorem dX1_playedOut_136 : decode cX1_playedOut 136 = .ok (.iload 7, 2) := by decide +kernel
theorem dX1_playedOut_138 : decode cX1_playedOut 138 = .ok (.iload 10, 2) := by decide +kernel
theorem dX1_playedOut_140 : decode cX1_playedOut 140 = .ok (.invokestatic 57, 3) := by decide +kernel
theorem dX1_playedOut_143 : decode cX1_playedOut 143 = .ok (.istore 7, 2) := by decide +kernel
theorem dX1_playedOut_145 : decode cX1_playedOut 145 = .ok (.iinc 9 1, 3) := by decide +kernel
theorem dX1_playedOut_148 : decode cX1_playedOut 148 = .ok (.goto (-82), 3) := by decide +kernel
theorem dX1_playedOut_151 : decode cX1_playedOut 151 = .ok (.iload_n 3, 1) := by decide +kernel
theorem dX1_playedOut_152 : decode cX1_playedOut 152 = .ok (.ifCond .eq 8, 3) := by decide +kernel
theorem dX1_playedOut_155 : decode cX1_playedOut 155 = .ok (.iload 8, 2) := by decide +kernel
theorem dX1_playedOut_157 : decode cX1_playedOut 157 = .ok (.goto 5, 3) := by decide +kernel
theorem dX1_playedOut_160 : decode cX1_playedOut 160 = .ok (.iload 7, 2) := by decide +kernel
theorem dX1_playedOut_162 : decode cX1_playedOut 162 = .ok (.ireturn, 1) := by decide +kernel
theorem dX1_valuePlayed_0 : decode cX1_valuePlayed 0 = .ok (.aload_n 0, 1) := by decide +kernel
theorem dX1_valuePlayed_1 : decode cX1_valuePlayed 1 = .ok (.aload_n 0, 1) := by decide +kernel
theorem dX1_valuePlayed_2 : decode cX1_valuePlayed 2 = .ok (.getfield 15, 3) := by decide +kernel
theorem dX1_valuePlayed_5 : decode cX1_valuePlayed 5 = .ok (.iload_n 1, 1) := by decide +kernel
theorem dX1_valuePlayed_6 : decode cX1_valuePlayed 6 = .ok (.iconst 1, 1) := by decide +kernel
theorem dX1_valuePlayed_7 : decode cX1_valuePlayed 7 = .ok (.iconst (-1), 1) := by decide +kernel
theorem dX1_valuePlayed_8 : decode cX1_valuePlayed 8 = .ok (.sipush 1000, 3) := by decide +kernel
theorem dX1_valuePlayed_11 : decode cX1_valuePlayed 11 = .ok (.invokestatic 47, 3) := by decide +kernel
theorem dX1_valuePlayed_14 : decode cX1_valuePlayed 14 = .ok (.ireturn, 1) := by decide +kernel
theorem dX1_firstPlayed_0 : decode cX1_firstPlayed 0 = .ok (.iconst (-1), 1) := by decide +kernel
theorem dX1_firstPlayed_1 : decode cX1_firstPlayed 1 = .ok (.istore_n 2, 1) := by decide +kernel
theorem dX1_firstPlayed_2 : decode cX1_firstPlayed 2 = .ok (.sipush 1000, 3) := by decide +kernel
theorem dX1_firstPlayed_5 : decode cX1_firstPlayed 5 = .ok (.istore_n 3, 1) := by decide +kernel
theorem dX1_firstPlayed_6 : decode cX1_firstPlayed 6 = .ok (.iconst 0, 1) := by decide +kernel
theorem dX1_firstPlayed_7 : decode cX1_firstPlayed 7 = .ok (.istore 4, 2) := by decide +kernel
theorem dX1_firstPlayed_9 : decode cX1_firstPlayed 9 = .ok (.iload 4, 2) := by decide +kernel
theorem dX1_firstPlayed_11 : decode cX1_firstPlayed 11 = .ok (.aload_n 0, 1) := by decide +kernel
theorem dX1_firstPlayed_12 : decode cX1_firstPlayed 12 = .ok (.getfield 41, 3) := by decide +kernel
theorem dX1_firstPlayed_15 : decode cX1_firstPlayed 15 = .ok (.if_icmp .ge 58, 3) := by decide +kernel
theorem dX1_firstPlayed_18 : decode cX1_firstPlayed 18 = .ok (.iload_n 1, 1) := by decide +kernel
theorem dX1_firstPlayed_19 : decode cX1_firstPlayed 19 = .ok (.ifCond .le 54, 3) := by decide +kernel
theorem dX1_firstPlayed_22 : decode cX1_firstPlayed 22 = .ok (.aload_n 0, 1) := by decide +kernel
theorem dX1_firstPlayed_23 : decode cX1_firstPlayed 23 = .ok (.getfield 15, 3) := by decide +kernel
theorem dX1_firstPlayed_26 : decode cX1_firstPlayed 26 = .ok (.iload 4, 2) := by decide +kernel
theorem dX1_firstPlayed_28 : decode cX1_firstPlayed 28 = .ok (.invokestatic 44, 3) := by decide +kernel
theorem dX1_firstPlayed_31 : decode cX1_firstPlayed 31 = .ok (.ifCond .eq 36, 3) := by decide +kernel
theorem dX1_firstPlayed_34 : decode cX1_firstPlayed 34 = .ok (.aload_n 0, 1) := by decide +kernel
theorem dX1_firstPlayed_35 : decode cX1_firstPlayed 35 = .ok (.aload_n 0, 1) := by decide +kernel
theorem dX1_firstPlayed_36 : decode cX1_firstPlayed 36 = .ok (.getfield 15, 3) := by decide +kernel
theorem dX1_firstPlayed_39 : decode cX1_firstPlayed 39 = .ok (.iconst 1, 1) := by decide +kernel
theorem dX1_firstPlayed_40 : decode cX1_firstPlayed 40 = .ok (.iload 4, 2) := by decide +kernel
theorem dX1_firstPlayed_42 : decode cX1_firstPlayed 42 = .ok (.ishl, 1) := by decide +kernel
theorem dX1_firstPlayed_43 : decode cX1_firstPlayed 43 = .ok (.ixor, 1) := by decide +kernel
theorem dX1_firstPlayed_44 : decode cX1_firstPlayed 44 = .ok (.iload_n 1, 1) := by decide +kernel
theorem dX1_firstPlayed_45 : decode cX1_firstPlayed 45 = .ok (.iconst 1, 1) := by decide +kernel
theorem dX1_firstPlayed_46 : decode cX1_firstPlayed 46 = .ok (.isub, 1) := by decide +kernel
theorem dX1_firstPlayed_47 : decode cX1_firstPlayed 47 = .ok (.iconst 0, 1) := by decide +kernel
theorem dX1_firstPlayed_48 : decode cX1_firstPlayed 48 = .ok (.iconst (-1), 1) := by decide +kernel
theorem dX1_firstPlayed_49 : decode cX1_firstPlayed 49 = .ok (.iload_n 3, 1) := by decide +kernel
theorem dX1_firstPlayed_50 : decode cX1_firstPlayed 50 = .ok (.invokestatic 47, 3) := by decide +kernel
theorem dX1_firstPlayed_53 : decode cX1_firstPlayed 53 = .ok (.istore 5, 2) := by decide +kernel
theorem dX1_firstPlayed_55 : decode cX1_firstPlayed 55 = .ok (.iload 5, 2) := by decide +kernel
theorem dX1_firstPlayed_57 : decode cX1_firstPlayed 57 = .ok (.iload_n 3, 1) := by decide +kernel
theorem dX1_firstPlayed_58 : decode cX1_firstPlayed 58 = .ok (.if_icmp .ge 9, 3) := by decide +kernel
theorem dX1_firstPlayed_61 : decode cX1_firstPlayed 61 = .ok (.iload 4, 2) := by decide +kernel
theorem dX1_firstPlayed_63 : decode cX1_firstPlayed 63 = .ok (.istore_n 2, 1) := by decide +kernel
theorem dX1_firstPlayed_64 : decode cX1_firstPlayed 64 = .ok (.iload 5, 2) := by decide +kernel
theorem dX1_firstPlayed_66 : decode cX1_firstPlayed 66 = .ok (.istore_n 3, 1) := by decide +kernel
theorem dX1_firstPlayed_67 : decode cX1_firstPlayed 67 = .ok (.iinc 4 1, 3) := by decide +kernel
theorem dX1_firstPlayed_70 : decode cX1_firstPlayed 70 = .ok (.goto (-61), 3) := by decide +kernel
theorem dX1_firstPlayed_73 : decode cX1_firstPlayed 73 = .ok (.iload_n 2, 1) := by decide +kernel
theorem dX1_firstPlayed_74 : decode cX1_firstPlayed 74 = .ok (.ireturn, 1) := by decide +kernel
theorem dX2_init_0 : decode cX2_init 0 = .ok (.aload_n 0, 1) := by decide +kernel
theorem dX2_init_1 : decode cX2_init 1 = .ok (.invokespecial 3, 3) := by decide +kernel
theorem dX2_init_4 : decode cX2_init 4 = .ok (.aload_n 0, 1) := by decide +kernel
theorem dX2_init_5 : decode cX2_init 5 = .ok (.iconst (-1), 1) := by decide +kernel
theorem dX2_init_6 : decode cX2_init 6 = .ok (.putfield 9, 3) := by decide +kernel
theorem dX2_init_9 : decode cX2_init 9 = .ok (.aload_n 0, 1) := by decide +kernel
theorem dX2_init_10 : decode cX2_init 10 = .ok (.iconst 0, 1) := by decide +kernel
theorem dX2_init_11 : decode cX2_init 11 = .ok (.putfield 15, 3) := by decide +kernel
theorem dX2_init_14 : decode cX2_init 14 = .ok (.aload_n 0, 1) := by decide +kernel
theorem dX2_init_15 : decode cX2_init 15 = .ok (.iconst 0, 1) := by decide +kernel
theorem dX2_init_16 : decode cX2_init 16 = .ok (.putfield 18, 3) := by decide +kernel
theorem dX2_init_19 : decode cX2_init 19 = .ok (.aload_n 0, 1) := by decide +kernel
theorem dX2_init_20 : decode cX2_init 20 = .ok (.iconst 0, 1) := by decide +kernel
theorem dX2_init_21 : decode cX2_init 21 = .ok (.putfield 21, 3) := by decide +kernel
theorem dX2_init_24 : decode cX2_init 24 = .ok (.aload_n 0, 1) := by decide +kernel
theorem dX2_init_25 : decode cX2_init 25 = .ok (.iconst 0, 1) := by decide +kernel
theorem dX2_init_26 : decode cX2_init 26 = .ok (.putfield 24, 3) := by decide +kernel
theorem dX2_init_29 : decode cX2_init 29 = .ok (.aload_n 0, 1) := by decide +kernel
theorem dX2_init_30 : decode cX2_init 30 = .ok (.iconst 3, 1) := by decide +kernel
theorem dX2_init_31 : decode cX2_init 31 = .ok (.newarray .int, 2) := by decide +kernel
theorem dX2_init_33 : decode cX2_init 33 = .ok (.putfield 27, 3) := by decide +kernel
theorem dX2_init_36 : decode cX2_init 36 = .ok (.return_, 1) := by decide +kernel
theorem dX2_readTower_0 : decode cX2_readTower 0 = .ok (.aload_n 0, 1) := by decide +kernel
theorem dX2_readTower_1 : decode cX2_readTower 1 = .ok (.iconst (-1), 1) := by decide +kernel
theorem dX2_readTower_2 : decode cX2_readTower 2 = .ok (.putfield 9, 3) := by decide +kernel
theorem dX2_readTower_5 : decode cX2_readTower 5 = .ok (.aload_n 0, 1) := by decide +kernel
theorem dX2_readTower_6 : decode cX2_readTower 6 = .ok (.iconst 0, 1) := by decide +kernel
theorem dX2_readTower_7 : decode cX2_readTower 7 = .ok (.putfield 21, 3) := by decide +kernel
theorem dX2_readTower_10 : decode cX2_readTower 10 = .ok (.aload_n 0, 1) := by decide +kernel
theorem dX2_readTower_11 : decode cX2_readTower 11 = .ok (.aload_n 1, 1) := by decide +kernel
theorem dX2_readTower_12 : decode cX2_readTower 12 = .ok (.invokevirtual 31, 3) := by decide +kernel
theorem dX2_readTower_15 : decode cX2_readTower 15 = .ok (.iconst 1, 1) := by decide +kernel
theorem dX2_readTower_16 : decode cX2_readTower 16 = .ok (.istore_n 3, 1) := by decide +kernel
theorem dX2_readTower_17 : decode cX2_readTower 17 = .ok (.iload_n 3, 1) := by decide +kernel
theorem dX2_readTower_18 : decode cX2_readTower 18 = .ok (.sipush 250, 3) := by decide +kernel
theorem dX2_readTower_21 : decode cX2_readTower 21 = .ok (.if_icmp .gt 60, 3) := by decide +kernel
theorem dX2_readTower_24 : decode cX2_readTower 24 = .ok (.aload_n 0, 1) := by decide +kernel
theorem dX2_readTower_25 : decode cX2_readTower 25 = .ok (.aload_n 1, 1) := by decide +kernel
theorem dX2_readTower_26 : decode cX2_readTower 26 = .ok (.aload_n 2, 1) := by decide +kernel
theorem dX2_readTower_27 : decode cX2_readTower 27 = .ok (.invokevirtual 37, 3) := by decide +kernel
theorem dX2_readTower_30 : decode cX2_readTower 30 = .ok (.ifCond .ne 13, 3) := by decide +kernel
theorem dX2_readTower_33 : decode cX2_readTower 33 = .ok (.aload_n 0, 1) := by decide +kernel
theorem dX2_readTower_34 : decode cX2_readTower 34 = .ok (.aload_n 0, 1) := by decide +kernel
theorem dX2_readTower_35 : decode cX2_readTower 35 = .ok (.getfield 18, 3) := by decide +kernel
theorem dX2_readTower_38 : decode cX2_readTower 38 = .ok (.putfield 9, 3) := by decide +kernel
theorem dX2_readTower_41 : decode cX2_readTower 41 = .ok (.iconst 0, 1) := by decide +kernel
theorem dX2_readTower_42 : decode cX2_readTower 42 = .ok (.ireturn, 1) := by decide +kernel
theorem dX2_readTower_43 : decode cX2_readTower 43 = .ok (.aload_n 0, 1) := by decide +kernel
theorem dX2_readTower_44 : decode cX2_readTower 44 = .ok (.getfield 15, 3) := by decide +kernel
theorem dX2_readTower_47 : decode cX2_readTower 47 = .ok (.ifCond .ne 5, 3) := by decide +kernel
theorem dX2_readTower_50 : decode cX2_readTower 50 = .ok (.iload_n 3, 1) := by decide +kernel
theorem dX2_readTower_51 : decode cX2_readTower 51 = .ok (.ireturn, 1) := by decide +kernel
theorem dX2_readTower_52 : decode cX2_readTower 52 = .ok (.aload_n 0, 1) := by decide +kernel
theorem dX2_readTower_53 : decode cX2_readTower 53 = .ok (.getfield 15, 3) := by decide +kernel
theorem dX2_readTower_56 : decode cX2_readTower 56 = .ok (.iconst 3, 1) := by decide +kernel
theorem dX2_readTower_57 : decode cX2_readTower 57 = .ok (.if_icmp .eq 13, 3) := by decide +kernel
theorem dX2_readTower_60 : decode cX2_readTower 60 = .ok (.aload_n 0, 1) := by decide +kernel
theorem dX2_readTower_61 : decode cX2_readTower 61 = .ok (.aload_n 0, 1) := by decide +kernel
theorem dX2_readTower_62 : decode cX2_readTower 62 = .ok (.getfield 18, 3) := by decide +kernel
theorem dX2_readTower_65 : decode cX2_readTower 65 = .ok (.putfield 9, 3) := by decide +kernel
theorem dX2_readTower_68 : decode cX2_readTower 68 = .ok (.iconst 0, 1) := by decide +kernel
theorem dX2_readTower_69 : decode cX2_readTower 69 = .ok (.ireturn, 1) := by decide +kernel
theorem dX2_readTower_70 : decode cX2_readTower 70 = .ok (.aload_n 0, 1) := by decide +kernel
theorem dX2_readTower_71 : decode cX2_readTower 71 = .ok (.aload_n 1, 1) := by decide +kernel
theorem dX2_readTower_72 : decode cX2_readTower 72 = .ok (.invokevirtual 31, 3) := by decide +kernel
theorem dX2_readTower_75 : decode cX2_readTower 75 = .ok (.iinc 3 1, 3) := by decide +kernel
theorem dX2_readTower_78 : decode cX2_readTower 78 = .ok (.goto (-61), 3) := by decide +kernel
theorem dX2_readTower_81 : decode cX2_readTower 81 = .ok (.aload_n 0, 1) := by decide +kernel
theorem dX2_readTower_82 : decode cX2_readTower 82 = .ok (.aload_n 0, 1) := by decide +kernel
theorem dX2_readTower_83 : decode cX2_readTower 83 = .ok (.getfield 18, 3) := by decide +kernel
theorem dX2_readTower_86 : decode cX2_readTower 86 = .ok (.putfield 9, 3) := by decide +kernel
theorem dX2_readTower_89 : decode cX2_readTower 89 = .ok (.iconst 0, 1) := by decide +kernel
theorem dX2_readTower_90 : decode cX2_readTower 90 = .ok (.ireturn, 1) := by decide +kernel
theorem dX2_readStatement_0 : decode cX2_readStatement 0 = .ok (.aload_n 0, 1) := by decide +kernel
theorem dX2_readStatement_1 : decode cX2_readStatement 1 = .ok (.getfield 15, 3) := by decide +kernel
theorem dX2_readStatement_4 : decode cX2_readStatement 4 = .ok (.iconst 1, 1) := by decide +kernel
theorem dX2_readStatement_5 : decode cX2_readStatement 5 = .ok (.if_icmp .ne 11, 3) := by decide +kernel
theorem dX2_readStatement_8 : decode cX2_readStatement 8 = .ok (.aload_n 0, 1) := by decide +kernel
theorem dX2_readStatement_9 : decode cX2_readStatement 9 = .ok (.aload_n 1, 1) := by decide +kernel
theorem dX2_readStatement_10 : decode cX2_readStatement 10 = .ok (.invokevirtual 41, 3) := by decide +kernel
theorem dX2_readStatement_13 : decode cX2_readStatement 13 = .ok (.goto 4, 3) := by decide +kernel
theorem dX2_readStatement_16 : decode cX2_readStatement 16 = .ok (.iconst (-1), 1) := by decide +kernel
theorem dX2_readStatement_17 : decode cX2_readStatement 17 = .ok (.istore_n 3, 1) := by decide +kernel
theorem dX2_readStatement_18 : decode cX2_readStatement 18 = .ok (.iload_n 3, 1) := by decide +kernel
theorem dX2_readStatement_19 : decode cX2_readStatement 19 = .ok (.iconst (-1), 1) := by decide +kernel
theorem dX2_readStatement_20 : decode cX2_readStatement 20 = .ok (.if_icmp .eq 11, 3) := by decide +kernel
theorem dX2_readStatement_23 : decode cX2_readStatement 23 = .ok (.aload_n 2, 1) := by decide +kernel
theorem dX2_readStatement_24 : decode cX2_readStatement 24 = .ok (.iload_n 3, 1) := by decide +kernel
theorem dX2_readStatement_25 : decode cX2_readStatement 25 = .ok (.invokestatic 45, 3) := by decide +kernel
theorem dX2_readStatement_28 : decode cX2_readStatement 28 = .ok (.ifCond .eq 5, 3) := by decide +kernel
theorem dX2_readStatement_31 : decode cX2_readStatement 31 = .ok (.iconst 0, 1) := by decide +kernel
theorem dX2_readStatement_32 : decode cX2_readStatement 32 = .ok (.ireturn, 1) := by decide +kernel
theorem dX2_readStatement_33 : decode cX2_readStatement 33 = .ok (.aload_n 0, 1) := by decide +kernel
theorem dX2_readStatement_34 : decode cX2_readStatement 34 = .ok (.aload_n 1, 1) := by decide +kernel
theorem dX2_readStatement_35 : decode cX2_readStatement 35 = .ok (.invokevirtual 31, 3) := by decide +kernel
theorem dX2_readStatement_38 : decode cX2_readStatement 38 = .ok (.iconst 0, 1) := by decide +kernel
theorem dX2_readStatement_39 : decode cX2_readStatement 39 = .ok (.istore 4, 2) := by decide +kernel
theorem dX2_readStatement_41 : decode cX2_readStatement 41 = .ok (.iload 4, 2) := by decide +kernel
theorem dX2_readStatement_43 : decode cX2_readStatement 43 = .ok (.iload_n 3, 1) := by decide +kernel
theorem dX2_readStatement_44 : decode cX2_readStatement 44 = .ok (.invokestatic 49, 3) := by decide +kernel
theorem dX2_readStatement_47 : decode cX2_readStatement 47 = .ok (.if_icmp .ge 52, 3) := by decide +kernel
theorem dX2_readStatement_50 : decode cX2_readStatement 50 = .ok (.aload_n 0, 1) := by decide +kernel
theorem dX2_readStatement_51 : decode cX2_readStatement 51 = .ok (.getfield 15, 3) := by decide +kernel
theorem dX2_readStatement_54 : decode cX2_readStatement 54 = .ok (.iconst 2, 1) := by decide +kernel
theorem dX2_readStatement_55 : decode cX2_readStatement 55 = .ok (.if_icmp .ne 18, 3) := by decide +kernel
theorem dX2_readStatement_58 : decode cX2_readStatement 58 = .ok (.aload_n 0, 1) := by decide +kernel
theorem dX2_readStatement_59 : decode cX2_readStatement 59 = .ok (.getfield 24, 3) := by decide +kernel
theorem dX2_readStatement_62 : decode cX2_readStatement 62 = .ok (.aload_n 0, 1) := by decide +kernel
theorem dX2_readStatement_63 : decode cX2_readStatement 63 = .ok (.aload_n 2, 1) := by decide +kernel
theorem dX2_readStatement_64 : decode cX2_readStatement 64 = .ok (.iload_n 3, 1) := by decide +kernel
theorem dX2_readStatement_65 : decode cX2_readStatement 65 = .ok (.iload 4, 2) := by decide +kernel
theorem dX2_readStatement_67 : decode cX2_readStatement 67 = .ok (.invokevirtual 53, 3) := by decide +kernel
theorem dX2_readStatement_70 : decode cX2_readStatement 70 = .ok (.if_icmp .le 5, 3) := by decide +kernel
theorem dX2_readStatement_73 : decode cX2_readStatement 73 = .ok (.iconst 0, 1) := by decide +kernel
theorem dX2_readStatement_74 : decode cX2_readStatement 74 = .ok (.ireturn, 1) := by decide +kernel
theorem dX2_readStatement_75 : decode cX2_readStatement 75 = .ok (.aload_n 0, 1) := by decide +kernel
theorem dX2_readStatement_76 : decode cX2_readStatement 76 = .ok (.getfield 27, 3) := by decide +kernel
theorem dX2_readStatement_79 : decode cX2_readStatement 79 = .ok (.iload 4, 2) := by decide +kernel
theorem dX2_readStatement_81 : decode cX2_readStatement 81 = .ok (.aload_n 0, 1) := by decide +kernel
theorem dX2_readStatement_82 : decode cX2_readStatement 82 = .ok (.getfield 24, 3) := by decide +kernel
theorem dX2_readStatement_85 : decode cX2_readStatement 85 = .ok (.invokestatic 57, 3) := by decide +kernel
theorem dX2_readStatement_88 : decode cX2_readStatement 88 = .ok (.aload_n 0, 1) := by decide +kernel
theorem dX2_readStatement_89 : decode cX2_readStatement 89 = .ok (.aload_n 1, 1) := by decide +kernel
theorem dX2_readStatement_90 : decode cX2_readStatement 90 = .ok (.invokevirtual 31, 3) := by decide +kernel
theorem dX2_readStatement_93 : decode cX2_readStatement 93 = .ok (.iinc 4 1, 3) := by decide +kernel
theorem dX2_readStatement_96 : decode cX2_readStatement 96 = .ok (.goto (-55), 3) := by decide +kernel
theorem dX2_readStatement_99 : decode cX2_readStatement 99 = .ok (.aload_n 0, 1) := by decide +kernel
theorem dX2_readStatement_100 : decode cX2_readStatement 100 = .ok (.aload_n 2, 1) := by decide +kernel
theorem dX2_readStatement_101 : decode cX2_readStatement 101 = .ok (.iload_n 3, 1) := by decide +kernel
theorem dX2_readStatement_102 : decode cX2_readStatement 102 = .ok (.invokevirtual 61, 3) := by decide +kernel
theorem dX2_readStatement_105 : decode cX2_readStatement 105 = .ok (.iconst 1, 1) := by decide +kernel
theorem dX2_readStatement_106 : decode cX2_readStatement 106 = .ok (.ireturn, 1) := by decide +kernel
theorem dX2_hasNoRoom_0 : decode cX2_hasNoRoom 0 = .ok (.iload_n 1, 1) := by decide +kernel
theorem dX2_hasNoRoom_1 : decode cX2_hasNoRoom 1 = .ok (.ifCond .ne 10, 3) := by decide +kernel
theorem dX2_hasNoRoom_4 : decode cX2_hasNoRoom 4 = .ok (.aload_n 0, 1) := by decide +kernel
theorem dX2_hasNoRoom_5 : decode cX2_hasNoRoom 5 = .ok (.invokevirtual 65, 3) := by decide +kernel
theorem dX2_hasNoRoom_8 : decode cX2_hasNoRoom 8 = .ok (.ifCond .eq 18, 3) := by decide +kernel
theorem dX2_hasNoRoom_11 : decode cX2_hasNoRoom 11 = .ok (.iload_n 1, 1) := by decide +kernel
theorem dX2_hasNoRoom_12 : decode cX2_hasNoRoom 12 = .ok (.iconst 5, 1) := by decide +kernel
theorem dX2_hasNoRoom_13 : decode cX2_hasNoRoom 13 = .ok (.if_icmp .ne 17, 3) := by decide +kernel
theorem dX2_hasNoRoom_16 : decode cX2_hasNoRoom 16 = .ok (.aload_n 0, 1) := by decide +kernel
theorem dX2_hasNoRoom_17 : decode cX2_hasNoRoom 17 = .ok (.getfield 71, 3) := by decide +kernel
theorem dX2_hasNoRoom_20 : decode cX2_hasNoRoom 20 = .ok (.invokevirtual 75, 3) := by decide +kernel
theorem dX2_hasNoRoom_23 : decode cX2_hasNoRoom 23 = .ok (.ifCond .ne 7, 3) := by decide +kernel
theorem dX2_hasNoRoom_26 : decode cX2_hasNoRoom 26 = .ok (.iconst 1, 1) := by decide +kernel
theorem dX2_hasNoRoom_27 : decode cX2_hasNoRoom 27 = .ok (.goto 4, 3) := by decide +kernel
theorem dX2_hasNoRoom_30 : decode cX2_hasNoRoom 30 = .ok (.iconst 0, 1) := by decide +kernel
theorem dX2_hasNoRoom_31 : decode cX2_hasNoRoom 31 = .ok (.ireturn, 1) := by decide +kernel
theorem dX2_countOf_0 : decode cX2_countOf 0 = .ok (.iload_n 0, 1) := by decide +kernel
theorem dX2_countOf_1 : decode cX2_countOf 1 = .ok (.lookupswitch 39 #[(0, 37), (1, 37), (5, 35)], 35) := by decide +kernel
theorem dX2_countOf_36 : decode cX2_countOf 36 = .ok (.iconst 3, 1) := by decide +kernel
theorem dX2_countOf_37 : decode cX2_countOf 37 = .ok (.ireturn, 1) := by decide +kernel
theorem dX2_countOf_38 : decode cX2_countOf 38 = .ok (.iconst 2, 1) := by decide +kernel
theorem dX2_countOf_39 : decode cX2_countOf 39 = .ok (.ireturn, 1) := by decide +kernel
theorem dX2_countOf_40 : decode cX2_countOf 40 = .ok (.iconst 1, 1) := by decide +kernel
theorem dX2_countOf_41 : decode cX2_countOf 41 = .ok (.ireturn, 1) := by decide +kernel
theorem dX2_mostOf_0 : decode cX2_mostOf 0 = .ok (.iload_n 2, 1) := by decide +kernel
theorem dX2_mostOf_1 : decode cX2_mostOf 1 = .ok (.tableswitch 122 0 9 #[55, 68, 122, 122, 122, 92, 113, 119, 119, 115], 55) := by decide +kernel
theorem dX2_mostOf_56 : decode cX2_mostOf 56 = .ok (.iload_n 3, 1) := by decide +kernel
theorem dX2_mostOf_57 : decode cX2_mostOf 57 = .ok (.ifCond .ne 10, 3) := by decide +kernel
theorem dX2_mostOf_60 : decode cX2_mostOf 60 = .ok (.iconst 0, 1) := by decide +kernel
theorem dX2_mostOf_61 : decode cX2_mostOf 61 = .ok (.invokestatic 78, 3) := by decide +kernel
theorem dX2_mostOf_64 : decode cX2_mostOf 64 = .ok (.goto 4, 3) := by decide +kernel
theorem dX2_mostOf_67 : decode cX2_mostOf 67 = .ok (.iconst 3, 1) := by decide +kernel
theorem dX2_mostOf_68 : decode cX2_mostOf 68 = .ok (.ireturn, 1) := by decide +kernel
theorem dX2_mostOf_69 : decode cX2_mostOf 69 = .ok (.iload_n 3, 1) := by decide +kernel
theorem dX2_mostOf_70 : decode cX2_mostOf 70 = .ok (.ifCond .ne 12, 3) := by decide +kernel
theorem dX2_mostOf_73 : decode cX2_mostOf 73 = .ok (.aload_n 1, 1) := by decide +kernel
theorem dX2_mostOf_74 : decode cX2_mostOf 74 = .ok (.getfield 81, 3) := by decide +kernel
theorem dX2_mostOf_77 : decode cX2_mostOf 77 = .ok (.iconst 1, 1) := by decide +kernel
theorem dX2_mostOf_78 : decode cX2_mostOf 78 = .ok (.isub, 1) := by decide +kernel
theorem dX2_mostOf_79 : decode cX2_mostOf 79 = .ok (.goto 13, 3) := by decide +kernel
theorem dX2_mostOf_82 : decode cX2_mostOf 82 = .ok (.aload_n 0, 1) := by decide +kernel
theorem dX2_mostOf_83 : decode cX2_mostOf 83 = .ok (.getfield 27, 3) := by decide +kernel
theorem dX2_mostOf_86 : decode cX2_mostOf 86 = .ok (.iconst 0, 1) := by decide +kernel
theorem dX2_mostOf_87 : decode cX2_mostOf 87 = .ok (.invokestatic 84, 3) := by decide +kernel
theorem dX2_mostOf_90 : decode cX2_mostOf 90 = .ok (.iconst 1, 1) := by decide +kernel
theorem dX2_mostOf_91 : decode cX2_mostOf 91 = .ok (.isub, 1) := by decide +kernel
theorem dX2_mostOf_92 : decode cX2_mostOf 92 = .ok (.ireturn, 1) := by decide +kernel
theorem dX2_mostOf_93 : decode cX2_mostOf 93 = .ok (.iload_n 3, 1) := by decide +kernel
theorem dX2_mostOf_94 : decode cX2_mostOf 94 = .ok (.ifCond .ne 7, 3) := by decide +kernel
theorem dX2_mostOf_97 : decode cX2_mostOf 97 = .ok (.iconst 5, 1) := by decide +kernel
theorem dX2_mostOf_98 : decode cX2_mostOf 98 = .ok (.goto 15, 3) := by decide +kernel
theorem dX2_mostOf_101 : decode cX2_mostOf 101 = .ok (.iload_n 3, 1) := by decide +kernel
theorem dX2_mostOf_102 : decode cX2_mostOf 102 = .ok (.iconst 1, 1) := by decide +kernel
theorem dX2_mostOf_103 : decode cX2_mostOf 103 = .ok (.if_icmp .ne 8, 3) := by decide +kernel
theorem dX2_mostOf_106 : decode cX2_mostOf 106 = .ok (.bipush 9, 2) := by decide +kernel
theorem dX2_mostOf_108 : decode cX2_mostOf 108 = .ok (.goto 5, 3) := by decide +kernel
theorem dX2_mostOf_111 : decode cX2_mostOf 111 = .ok (.bipush 7, 2) := by decide +kernel
theorem dX2_mostOf_113 : decode cX2_mostOf 113 = .ok (.ireturn, 1) := by decide +kernel
theorem dX2_mostOf_114 : decode cX2_mostOf 114 = .ok (.iconst 3, 1) := by decide +kernel
theorem dX2_mostOf_115 : decode cX2_mostOf 115 = .ok (.ireturn, 1) := by decide +kernel
theorem dX2_mostOf_116 : decode cX2_mostOf 116 = .ok (.sipush 999, 3) := by decide +kernel
theorem dX2_mostOf_119 : decode cX2_mostOf 119 = .ok (.ireturn, 1) := by decide +kernel
theorem dX2_mostOf_120 : decode cX2_mostOf 120 = .ok (.bipush 7, 2) := by decide +kernel
theorem dX2_mostOf_122 : decode cX2_mostOf 122 = .ok (.ireturn, 1) := by decide +kernel
theorem dX2_mostOf_123 : decode cX2_mostOf 123 = .ok (.aload_n 1, 1) := by decide +kernel
theorem dX2_mostOf_124 : decode cX2_mostOf 124 = .ok (.getfield 81, 3) := by decide +kernel
theorem dX2_mostOf_127 : decode cX2_mostOf 127 = .ok (.iconst 1, 1) := by decide +kernel
theorem dX2_mostOf_128 : decode cX2_mostOf 128 = .ok (.isub, 1) := by decide +kernel
theorem dX2_mostOf_129 : decode cX2_mostOf 129 = .ok (.ireturn, 1) := by decide +kernel
theorem dX2_carryOut_0 : decode cX2_carryOut 0 = .ok (.aload_n 0, 1) := by decide +kernel
theorem dX2_carryOut_1 : decode cX2_carryOut 1 = .ok (.getfield 27, 3) := by decide +kernel
theorem dX2_carryOut_4 : decode cX2_carryOut 4 = .ok (.iconst 0, 1) := by decide +kernel
theorem dX2_carryOut_5 : decode cX2_carryOut 5 = .ok (.invokestatic 84, 3) := by decide +kernel
theorem dX2_carryOut_8 : decode cX2_carryOut 8 = .ok (.istore_n 3, 1) := by decide +kernel
theorem dX2_carryOut_9 : decode cX2_carryOut 9 = .ok (.aload_n 0, 1) := by decide +kernel
theorem dX2_carryOut_10 : decode cX2_carryOut 10 = .ok (.getfield 27, 3) := by decide +kernel
theorem dX2_carryOut_13 : decode cX2_carryOut 13 = .ok (.iconst 1, 1) := by decide +kernel
theorem dX2_carryOut_14 : decode cX2_carryOut 14 = .ok (.invokestatic 84, 3) := by decide +kernel
theorem dX2_carryOut_17 : decode cX2_carryOut 17 = .ok (.istore 4, 2) := by decide +kernel
theorem dX2_carryOut_19 : decode cX2_carryOut 19 = .ok (.iload_n 2, 1) := by decide +kernel
theorem dX2_carryOut_20 : decode cX2_carryOut 20 = .ok (.tableswitch 162 0 8 #[52, 63, 74, 82, 91, 100, 122, 130, 145], 52) := by decide +kernel
theorem dX2_carryOut_72 : decode cX2_carryOut 72 = .ok (.aload_n 1, 1) := by decide +kernel
theorem dX2_carryOut_73 : decode cX2_carryOut 73 = .ok (.iload_n 3, 1) := by decide +kernel
theorem dX2_carryOut_74 : decode cX2_carryOut 74 = .ok (.iload 4, 2) := by decide +kernel
theorem dX2_carryOut_76 : decode cX2_carryOut 76 = .ok (.invokevirtual 88, 3) := by decide +kernel
theorem dX2_carryOut_79 : decode cX2_carryOut 79 = .ok (.pop, 1) := by decide +kernel
theorem dX2_carryOut_80 : decode cX2_carryOut 80 = .ok (.goto 107, 3) := by decide +kernel
theorem dX2_carryOut_83 : decode cX2_carryOut 83 = .ok (.aload_n 1, 1) := by decide +kernel
theorem dX2_carryOut_84 : decode cX2_carryOut 84 = .ok (.iload_n 3, 1) := by decide +kernel
theorem dX2_carryOut_85 : decode cX2_carryOut 85 = .ok (.iload 4, 2) := by decide +kernel
theorem dX2_carryOut_87 : decode cX2_carryOut 87 = .ok (.iconst 1, 1) := by decide +kernel
theorem dX2_carryOut_88 : decode cX2_carryOut 88 = .ok (.invokevirtual 92, 3) := by decide +kernel
theorem dX2_carryOut_91 : decode cX2_carryOut 91 = .ok (.goto 96, 3) := by decide +kernel
theorem dX2_carryOut_94 : decode cX2_carryOut 94 = .ok (.aload_n 1, 1) := by decide +kernel
theorem dX2_carryOut_95 : decode cX2_carryOut 95 = .ok (.iload_n 3, 1) := by decide +kernel
theorem dX2_carryOut_96 : decode cX2_carryOut 96 = .ok (.invokevirtual 96, 3) := by decide +kernel
theorem dX2_carryOut_99 : decode cX2_carryOut 99 = .ok (.goto 88, 3) := by decide +kernel
theorem dX2_carryOut_102 : decode cX2_carryOut 102 = .ok (.aload_n 1, 1) := by decide +kernel
theorem dX2_carryOut_103 : decode cX2_carryOut 103 = .ok (.iload_n 3, 1) := by decide +kernel
theorem dX2_carryOut_104 : decode cX2_carryOut 104 = .ok (.iconst 0, 1) := by decide +kernel
theorem dX2_carryOut_105 : decode cX2_carryOut 105 = .ok (.invokevirtual 100, 3) := by decide +kernel
theorem dX2_carryOut_108 : decode cX2_carryOut 108 = .ok (.goto 79, 3) := by decide +kernel
theorem dX2_carryOut_111 : decode cX2_carryOut 111 = .ok (.aload_n 1, 1) := by decide +kernel
theorem dX2_carryOut_112 : decode cX2_carryOut 112 = .ok (.iload_n 3, 1) := by decide +kernel
theorem dX2_carryOut_113 : decode cX2_carryOut 113 = .ok (.iconst 1, 1) := by decide +kernel
theorem dX2_carryOut_114 : decode cX2_carryOut 114 = .ok (.invokevirtual 100, 3) := by decide +kernel
theorem dX2_carryOut_117 : decode cX2_carryOut 117 = .ok (.goto 70, 3) := by decide +kernel
theorem dX2_carryOut_120 : decode cX2_carryOut 120 = .ok (.aload_n 1, 1) := by decide +kernel
theorem dX2_carryOut_121 : decode cX2_carryOut 121 = .ok (.getfield 71, 3) := by decide +kernel
theorem dX2_carryOut_124 : decode cX2_carryOut 124 = .ok (.iload_n 3, 1) := by decide +kernel
theorem dX2_carryOut_125 : decode cX2_carryOut 125 = .ok (.iload 4, 2) := by decide +kernel
theorem dX2_carryOut_127 : decode cX2_carryOut 127 = .ok (.aload_n 0, 1) := by decide +kernel
theorem dX2_carryOut_128 : decode cX2_carryOut 128 = .ok (.getfield 27, 3) := by decide +kernel
theorem dX2_carryOut_131 : decode cX2_carryOut 131 = .ok (.iconst 2, 1) := by decide +kernel
theorem dX2_carryOut_132 : decode cX2_carryOut 132 = .ok (.invokestatic 84, 3) := by decide +kernel
theorem dX2_carryOut_135 : decode cX2_carryOut 135 = .ok (.invokevirtual 104, 3) := by decide +kernel
theorem dX2_carryOut_138 : decode cX2_carryOut 138 = .ok (.pop, 1) := by decide +kernel
theorem dX2_carryOut_139 : decode cX2_carryOut 139 = .ok (.goto 48, 3) := by decide +kernel
theorem dX2_carryOut_142 : decode cX2_carryOut 142 = .ok (.aload_n 1, 1) := by decide +kernel
theorem dX2_carryOut_143 : decode cX2_carryOut 143 = .ok (.iload_n 3, 1) := by decide +kernel
theorem dX2_carryOut_144 : decode cX2_carryOut 144 = .ok (.putfield 108, 3) := by decide +kernel
theorem dX2_carryOut_147 : decode cX2_carryOut 147 = .ok (.goto 40, 3) := by decide +kernel
theorem dX2_carryOut_150 : decode cX2_carryOut 150 = .ok (.aload_n 1, 1) := by decide +kernel
theorem dX2_carryOut_151 : decode cX2_carryOut 151 = .ok (.dup, 1) := by decide +kernel
theorem dX2_carryOut_152 : decode cX2_carryOut 152 = .ok (.getfield 111, 3) := by decide +kernel
theorem dX2_carryOut_155 : decode cX2_carryOut 155 = .ok (.iconst 1, 1) := by decide +kernel
theorem dX2_carryOut_156 : decode cX2_carryOut 156 = .ok (.iload_n 3, 1) := by decide +kernel
theorem dX2_carryOut_157 : decode cX2_carryOut 157 = .ok (.ishl, 1) := by decide +kernel
theorem dX2_carryOut_158 : decode cX2_carryOut 158 = .ok (.ior, 1) := by decide +kernel
theorem dX2_carryOut_159 : decode cX2_carryOut 159 = .ok (.putfield 111, 3) := by decide +kernel
theorem dX2_carryOut_162 : decode cX2_carryOut 162 = .ok (.goto 25, 3) := by decide +kernel
theorem dX2_carryOut_165 : decode cX2_carryOut 165 = .ok (.aload_n 1, 1) := by decide +kernel
theorem dX2_carryOut_166 : decode cX2_carryOut 166 = .ok (.dup, 1) := by decide +kernel
theorem dX2_carryOut_167 : decode cX2_carryOut 167 = .ok (.getfield 111, 3) := by decide +kernel
theorem dX2_carryOut_170 : decode cX2_carryOut 170 = .ok (.iconst 1, 1) := by decide +kernel
theorem dX2_carryOut_171 : decode cX2_carryOut 171 = .ok (.iload_n 3, 1) := by decide +kernel
theorem dX2_carryOut_172 : decode cX2_carryOut 172 = .ok (.ishl, 1) := by decide +kernel
theorem dX2_carryOut_173 : decode cX2_carryOut 173 = .ok (.iconst (-1), 1) := by decide +kernel
theorem dX2_carryOut_174 : decode cX2_carryOut 174 = .ok (.ixor, 1) := by decide +kernel
theorem dX2_carryOut_175 : decode cX2_carryOut 175 = .ok (.iand, 1) := by decide +kernel
theorem dX2_carryOut_176 : decode cX2_carryOut 176 = .ok (.putfield 111, 3) := by decide +kernel
theorem dX2_carryOut_179 : decode cX2_carryOut 179 = .ok (.goto 8, 3) := by decide +kernel
theorem dX2_carryOut_182 : decode cX2_carryOut 182 = .ok (.aload_n 1, 1) := by decide +kernel
theorem dX2_carryOut_183 : decode cX2_carryOut 183 = .ok (.iload_n 3, 1) := by decide +kernel
theorem dX2_carryOut_184 : decode cX2_carryOut 184 = .ok (.putfield 114, 3) := by decide +kernel
theorem dX2_carryOut_187 : decode cX2_carryOut 187 = .ok (.return_, 1) := by decide +kernel
theorem dX2_advance_0 : decode cX2_advance 0 = .ok (.aload_n 0, 1) := by decide +kernel
theorem dX2_advance_1 : decode cX2_advance 1 = .ok (.aload_n 0, 1) := by decide +kernel
theorem dX2_advance_2 : decode cX2_advance 2 = .ok (.getfield 21, 3) := by decide +kernel
theorem dX2_advance_5 : decode cX2_advance 5 = .ok (.putfield 18, 3) := by decide +kernel
theorem dX2_advance_8 : decode cX2_advance 8 = .ok (.iconst 0, 1) := by decide +kernel
theorem dX2_advance_9 : decode cX2_advance 9 = .ok (.istore_n 2, 1) := by decide +kernel
theorem dX2_advance_10 : decode cX2_advance 10 = .ok (.iload_n 2, 1) := by decide +kernel
theorem dX2_advance_11 : decode cX2_advance 11 = .ok (.sipush 250, 3) := by decide +kernel
theorem dX2_advance_14 : decode cX2_advance 14 = .ok (.if_icmp .ge 32, 3) := by decide +kernel
theorem dX2_advance_17 : decode cX2_advance 17 = .ok (.aload_n 1, 1) := by decide +kernel
theorem dX2_advance_18 : decode cX2_advance 18 = .ok (.aload_n 0, 1) := by decide +kernel
theorem dX2_advance_19 : decode cX2_advance 19 = .ok (.getfield 18, 3) := by decide +kernel
theorem dX2_advance_22 : decode cX2_advance 22 = .ok (.invokevirtual 117, 3) := by decide +kernel
theorem dX2_advance_25 : decode cX2_advance 25 = .ok (.bipush 32, 2) := by decide +kernel
theorem dX2_advance_27 : decode cX2_advance 27 = .ok (.if_icmp .ne 19, 3) := by decide +kernel
theorem dX2_advance_30 : decode cX2_advance 30 = .ok (.aload_n 0, 1) := by decide +kernel
theorem dX2_advance_31 : decode cX2_advance 31 = .ok (.dup, 1) := by decide +kernel
theorem dX2_advance_32 : decode cX2_advance 32 = .ok (.getfield 18, 3) := by decide +kernel
theorem dX2_advance_35 : decode cX2_advance 35 = .ok (.iconst 1, 1) := by decide +kernel
theorem dX2_advance_36 : decode cX2_advance 36 = .ok (.iadd, 1) := by decide +kernel
theorem dX2_advance_37 : decode cX2_advance 37 = .ok (.putfield 18, 3) := by decide +kernel
theorem dX2_advance_40 : decode cX2_advance 40 = .ok (.iinc 2 1, 3) := by decide +kernel
theorem dX2_advance_43 : decode cX2_advance 43 = .ok (.goto (-33), 3) := by decide +kernel
theorem dX2_advance_46 : decode cX2_advance 46 = .ok (.aload_n 1, 1) := by decide +kernel
theorem dX2_advance_47 : decode cX2_advance 47 = .ok (.aload_n 0, 1) := by decide +kernel
theorem dX2_advance_48 : decode cX2_advance 48 = .ok (.getfield 18, 3) := by decide +kernel
theorem dX2_advance_51 : decode cX2_advance 51 = .ok (.invokevirtual 117, 3) := by decide +kernel
theorem dX2_advance_54 : decode cX2_advance 54 = .ok (.istore_n 2, 1) := by decide +kernel
theorem dX2_advance_55 : decode cX2_advance 55 = .ok (.aload_n 0, 1) := by decide +kernel
theorem dX2_advance_56 : decode cX2_advance 56 = .ok (.aload_n 0, 1) := by decide +kernel
theorem dX2_advance_57 : decode cX2_advance 57 = .ok (.getfield 18, 3) := by decide +kernel
theorem dX2_advance_60 : decode cX2_advance 60 = .ok (.iconst 1, 1) := by decide +kernel
theorem dX2_advance_61 : decode cX2_advance 61 = .ok (.iadd, 1) := by decide +kernel
theorem dX2_advance_62 : decode cX2_advance 62 = .ok (.putfield 21, 3) := by decide +kernel
theorem dX2_advance_65 : decode cX2_advance 65 = .ok (.iload_n 2, 1) := by decide +kernel
theorem dX2_advance_66 : decode cX2_advance 66 = .ok (.iconst (-1), 1) := by decide +kernel
theorem dX2_advance_67 : decode cX2_advance 67 = .ok (.if_icmp .ne 19, 3) := by decide +kernel
theorem dX2_advance_70 : decode cX2_advance 70 = .ok (.aload_n 0, 1) := by decide +kernel
theorem dX2_advance_71 : decode cX2_advance 71 = .ok (.iconst 0, 1) := by decide +kernel
theorem dX2_advance_72 : decode cX2_advance 72 = .ok (.putfield 15, 3) := by decide +kernel
theorem dX2_advance_75 : decode cX2_advance 75 = .ok (.aload_n 0, 1) := by decide +kernel
theorem dX2_advance_76 : decode cX2_advance 76 = .ok (.aload_n 0, 1) := by decide +kernel
theorem dX2_advance_77 : decode cX2_advance 77 = .ok (.getfield 18, 3) := by decide +kernel
theorem dX2_advance_80 : decode cX2_advance 80 = .ok (.putfield 21, 3) := by decide +kernel
theorem dX2_advance_83 : decode cX2_advance 83 = .ok (.goto 135, 3) := by decide +kernel
theorem dX2_advance_86 : decode cX2_advance 86 = .ok (.iload_n 2, 1) := by decide +kernel
theorem dX2_advance_87 : decode cX2_advance 87 = .ok (.invokestatic 120, 3) := by decide +kernel
theorem dX2_advance_90 : decode cX2_advance 90 = .ok (.ifCond .eq 50, 3) := by decide +kernel
theorem dX2_advance_93 : decode cX2_advance 93 = .ok (.aload_n 0, 1) := by decide +kernel
theorem dX2_advance_94 : decode cX2_advance 94 = .ok (.iconst 1, 1) := by decide +kernel
theorem dX2_advance_95 : decode cX2_advance 95 = .ok (.putfield 15, 3) := by decide +kernel
theorem dX2_advance_98 : decode cX2_advance 98 = .ok (.iconst 0, 1) := by decide +kernel
theorem dX2_advance_99 : decode cX2_advance 99 = .ok (.istore_n 3, 1) := by decide +kernel
theorem dX2_advance_100 : decode cX2_advance 100 = .ok (.iload_n 3, 1) := by decide +kernel
theorem dX2_advance_101 : decode cX2_advance 101 = .ok (.sipush 250, 3) := by decide +kernel
theorem dX2_advance_104 : decode cX2_advance 104 = .ok (.if_icmp .ge 33, 3) := by decide +kernel
theorem dX2_advance_107 : decode cX2_advance 107 = .ok (.aload_n 1, 1) := by decide +kernel
theorem dX2_advance_108 : decode cX2_advance 108 = .ok (.aload_n 0, 1) := by decide +kernel
theorem dX2_advance_109 : decode cX2_advance 109 = .ok (.getfield 21, 3) := by decide +kernel
theorem dX2_advance_112 : decode cX2_advance 112 = .ok (.invokevirtual 117, 3) := by decide +kernel
theorem dX2_advance_115 : decode cX2_advance 115 = .ok (.invokestatic 120, 3) := by decide +kernel
theorem dX2_advance_118 : decode cX2_advance 118 = .ok (.ifCond .eq 19, 3) := by decide +kernel
theorem dX2_advance_121 : decode cX2_advance 121 = .ok (.aload_n 0, 1) := by decide +kernel
theorem dX2_advance_122 : decode cX2_advance 122 = .ok (.dup, 1) := by decide +kernel
theorem dX2_advance_123 : decode cX2_advance 123 = .ok (.getfield 21, 3) := by decide +kernel
theorem dX2_advance_126 : decode cX2_advance 126 = .ok (.iconst 1, 1) := by decide +kernel
theorem dX2_advance_127 : decode cX2_advance 127 = .ok (.iadd, 1) := by decide +kernel
theorem dX2_advance_128 : decode cX2_advance 128 = .ok (.putfield 21, 3) := by decide +kernel
theorem dX2_advance_131 : decode cX2_advance 131 = .ok (.iinc 3 1, 3) := by decide +kernel
theorem dX2_advance_134 : decode cX2_advance 134 = .ok (.goto (-34), 3) := by decide +kernel
theorem dX2_advance_137 : decode cX2_advance 137 = .ok (.goto 81, 3) := by decide +kernel
theorem dX2_advance_140 : decode cX2_advance 140 = .ok (.iload_n 2, 1) := by decide +kernel
theorem dX2_advance_141 : decode cX2_advance 141 = .ok (.invokestatic 124, 3) := by decide +kernel
theorem dX2_advance_144 : decode cX2_advance 144 = .ok (.ifCond .eq 59, 3) := by decide +kernel
theorem dX2_advance_147 : decode cX2_advance 147 = .ok (.aload_n 0, 1) := by decide +kernel
theorem dX2_advance_148 : decode cX2_advance 148 = .ok (.iconst 2, 1) := by decide +kernel
theorem dX2_advance_149 : decode cX2_advance 149 = .ok (.putfield 15, 3) := by decide +kernel
theorem dX2_advance_152 : decode cX2_advance 152 = .ok (.iconst 0, 1) := by decide +kernel
theorem dX2_advance_153 : decode cX2_advance 153 = .ok (.istore_n 3, 1) := by decide +kernel
theorem dX2_advance_154 : decode cX2_advance 154 = .ok (.iload_n 3, 1) := by decide +kernel
theorem dX2_advance_155 : decode cX2_advance 155 = .ok (.sipush 250, 3) := by decide +kernel
theorem dX2_advance_158 : decode cX2_advance 158 = .ok (.if_icmp .ge 33, 3) := by decide +kernel
theorem dX2_advance_161 : decode cX2_advance 161 = .ok (.aload_n 1, 1) := by decide +kernel
theorem dX2_advance_162 : decode cX2_advance 162 = .ok (.aload_n 0, 1) := by decide +kernel
theorem dX2_advance_163 : decode cX2_advance 163 = .ok (.getfield 21, 3) := by decide +kernel
theorem dX2_advance_166 : decode cX2_advance 166 = .ok (.invokevirtual 117, 3) := by decide +kernel
theorem dX2_advance_169 : decode cX2_advance 169 = .ok (.invokestatic 124, 3) := by decide +kernel
theorem dX2_advance_172 : decode cX2_advance 172 = .ok (.ifCond .eq 19, 3) := by decide +kernel
theorem dX2_advance_175 : decode cX2_advance 175 = .ok (.aload_n 0, 1) := by decide +kernel
theorem dX2_advance_176 : decode cX2_advance 176 = .ok (.dup, 1) := by decide +kernel
theorem dX2_advance_177 : decode cX2_advance 177 = .ok (.getfield 21, 3) := by decide +kernel
theorem dX2_advance_180 : decode cX2_advance 180 = .ok (.iconst 1, 1) := by decide +kernel
theorem dX2_advance_181 : decode cX2_advance 181 = .ok (.iadd, 1) := by decide +kernel
theorem dX2_advance_182 : decode cX2_advance 182 = .ok (.putfield 21, 3) := by decide +kernel
theorem dX2_advance_185 : decode cX2_advance 185 = .ok (.iinc 3 1, 3) := by decide +kernel
theorem dX2_advance_188 : decode cX2_advance 188 = .ok (.goto (-34), 3) := by decide +kernel
theorem dX2_advance_191 : decode cX2_advance 191 = .ok (.aload_n 0, 1) := by decide +kernel
theorem dX2_advance_192 : decode cX2_advance 192 = .ok (.aload_n 0, 1) := by decide +kernel
theorem dX2_advance_193 : decode cX2_advance 193 = .ok (.aload_n 1, 1) := by decide +kernel
theorem dX2_advance_194 : decode cX2_advance 194 = .ok (.invokevirtual 127, 3) := by decide +kernel
theorem dX2_advance_197 : decode cX2_advance 197 = .ok (.putfield 24, 3) := by decide +kernel
theorem dX2_advance_200 : decode cX2_advance 200 = .ok (.goto 18, 3) := by decide +kernel
theorem dX2_advance_203 : decode cX2_advance 203 = .ok (.aload_n 0, 1) := by decide +kernel
theorem dX2_advance_204 : decode cX2_advance 204 = .ok (.iload_n 2, 1) := by decide +kernel
theorem dX2_advance_205 : decode cX2_advance 205 = .ok (.bipush 59, 2) := by decide +kernel
theorem dX2_advance_207 : decode cX2_advance 207 = .ok (.if_icmp .ne 7, 3) := by decide +kernel
theorem dX2_advance_210 : decode cX2_advance 210 = .ok (.iconst 3, 1) := by decide +kernel
theorem dX2_advance_211 : decode cX2_advance 211 = .ok (.goto 4, 3) := by decide +kernel
theorem dX2_advance_214 : decode cX2_advance 214 = .ok (.iconst 4, 1) := by decide +kernel
theorem dX2_advance_215 : decode cX2_advance 215 = .ok (.putfield 15, 3) := by decide +kernel
theorem dX2_advance_218 : decode cX2_advance 218 = .ok (.return_, 1) := by decide +kernel
theorem dX2_isSmall_0 : decode cX2_isSmall 0 = .ok (.iload_n 0, 1) := by decide +kernel
theorem dX2_isSmall_1 : decode cX2_isSmall 1 = .ok (.bipush 97, 2) := by decide +kernel
theorem dX2_isSmall_3 : decode cX2_isSmall 3 = .ok (.if_icmp .lt 13, 3) := by decide +kernel
theorem dX2_isSmall_6 : decode cX2_isSmall 6 = .ok (.iload_n 0, 1) := by decide +kernel
theorem dX2_isSmall_7 : decode cX2_isSmall 7 = .ok (.bipush 122, 2) := by decide +kernel
theorem dX2_isSmall_9 : decode cX2_isSmall 9 = .ok (.if_icmp .gt 7, 3) := by decide +kernel
theorem dX2_isSmall_12 : decode cX2_isSmall 12 = .ok (.iconst 1, 1) := by decide +kernel
theorem dX2_isSmall_13 : decode cX2_isSmall 13 = .ok (.goto 4, 3) := by decide +kernel
theorem dX2_isSmall_16 : decode cX2_isSmall 16 = .ok (.iconst 0, 1) := by decide +kernel
theorem dX2_isSmall_17 : decode cX2_isSmall 17 = .ok (.ireturn, 1) := by decide +kernel
theorem dX2_isDigit_0 : decode cX2_isDigit 0 = .ok (.iload_n 0, 1) := by decide +kernel
theorem dX2_isDigit_1 : decode cX2_isDigit 1 = .ok (.bipush 48, 2) := by decide +kernel
theorem dX2_isDigit_3 : decode cX2_isDigit 3 = .ok (.if_icmp .lt 13, 3) := by decide +kernel
theorem dX2_isDigit_6 : decode cX2_isDigit 6 = .ok (.iload_n 0, 1) := by decide +kernel
theorem dX2_isDigit_7 : decode cX2_isDigit 7 = .ok (.bipush 57, 2) := by decide +kernel
theorem dX2_isDigit_9 : decode cX2_isDigit 9 = .ok (.if_icmp .gt 7, 3) := by decide +kernel
theorem dX2_isDigit_12 : decode cX2_isDigit 12 = .ok (.iconst 1, 1) := by decide +kernel
theorem dX2_isDigit_13 : decode cX2_isDigit 13 = .ok (.goto 4, 3) := by decide +kernel
theorem dX2_isDigit_16 : decode cX2_isDigit 16 = .ok (.iconst 0, 1) := by decide +kernel
theorem dX2_isDigit_17 : decode cX2_isDigit 17 = .ok (.ireturn, 1) := by decide +kernel
theorem dX2_numberHere_0 : decode cX2_numberHere 0 = .ok (.aload_n 0, 1) := by decide +kernel
theorem dX2_numberHere_1 : decode cX2_numberHere 1 = .ok (.getfield 21, 3) := by decide +kernel
theorem dX2_numberHere_4 : decode cX2_numberHere 4 = .ok (.aload_n 0, 1) := by decide +kernel
theorem dX2_numberHere_5 : decode cX2_numberHere 5 = .ok (.getfield 18, 3) := by decide +kernel
theorem dX2_numberHere_8 : decode cX2_numberHere 8 = .ok (.isub, 1) := by decide +kernel
theorem dX2_numberHere_9 : decode cX2_numberHere 9 = .ok (.iconst 3, 1) := by decide +kernel
theorem dX2_numberHere_10 : decode cX2_numberHere 10 = .ok (.if_icmp .le 7, 3) := by decide +kernel
theorem dX2_numberHere_13 : decode cX2_numberHere 13 = .ok (.sipush 1000, 3) := by decide +kernel
theorem dX2_numberHere_16 : decode cX2_numberHere 16 = .ok (.ireturn, 1) := by decide +kernel
theorem dX2_numberHere_17 : decode cX2_numberHere 17 = .ok (.iconst 0, 1) := by decide +kernel
theorem dX2_numberHere_18 : decode cX2_numberHere 18 = .ok (.istore_n 2, 1) := by decide +kernel
theorem dX2_numberHere_19 : decode cX2_numberHere 19 = .ok (.aload_n 0, 1) := by decide +kernel
theorem dX2_numberHere_20 : decode cX2_numberHere 20 = .ok (.getfield 18, 3) := by decide +kernel
theorem dX2_numberHere_23 : decode cX2_numberHere 23 = .ok (.istore_n 3, 1) := by decide +kernel
theorem dX2_numberHere_24 : decode cX2_numberHere 24 = .ok (.iload_n 3, 1) := by decide +kernel
theorem dX2_numberHere_25 : decode cX2_numberHere 25 = .ok (.aload_n 0, 1) := by decide +kernel
theorem dX2_numberHere_26 : decode cX2_numberHere 26 = .ok (.getfield 21, 3) := by decide +kernel
theorem dX2_numberHere_29 : decode cX2_numberHere 29 = .ok (.if_icmp .ge 23, 3) := by decide +kernel
theorem dX2_numberHere_32 : decode cX2_numberHere 32 = .ok (.bipush 10, 2) := by decide +kernel
theorem dX2_numberHere_34 : decode cX2_numberHere 34 = .ok (.iload_n 2, 1) := by decide +kernel
theorem dX2_numberHere_35 : decode cX2_numberHere 35 = .ok (.imul, 1) := by decide +kernel
theorem dX2_numberHere_36 : decode cX2_numberHere 36 = .ok (.aload_n 1, 1) := by decide +kernel
theorem dX2_numberHere_37 : decode cX2_numberHere 37 = .ok (.iload_n 3, 1) := by decide +kernel
theorem dX2_numberHere_38 : decode cX2_numberHere 38 = .ok (.invokevirtual 117, 3) := by decide +kernel
theorem dX2_numberHere_41 : decode cX2_numberHere 41 = .ok (.iadd, 1) := by decide +kernel
theorem dX2_numberHere_42 : decode cX2_numberHere 42 = .ok (.bipush 48, 2) := by decide +kernel
theorem dX2_numberHere_44 : decode cX2_numberHere 44 = .ok (.isub, 1) := by decide +kernel
theorem dX2_numberHere_45 : decode cX2_numberHere 45 = .ok (.istore_n 2, 1) := by decide +kernel
theorem dX2_numberHere_46 : decode cX2_numberHere 46 = .ok (.iinc 3 1, 3) := by decide +kernel
theorem dX2_numberHere_49 : decode cX2_numberHere 49 = .ok (.goto (-25), 3) := by decide +kernel
theorem dX2_numberHere_52 : decode cX2_numberHere 52 = .ok (.iload_n 2, 1) := by decide +kernel
theorem dX2_numberHere_53 : decode cX2_numberHere 53 = .ok (.ireturn, 1) := by decide +kernel
theorem dX2_wordHere_0 : decode cX2_wordHere 0 = .ok (.iconst 0, 1) := by decide +kernel
theorem dX2_wordHere_1 : decode cX2_wordHere 1 = .ok (.istore_n 2, 1) := by decide +kernel
theorem dX2_wordHere_2 : decode cX2_wordHere 2 = .ok (.iload_n 2, 1) := by decide +kernel
theorem dX2_wordHere_3 : decode cX2_wordHere 3 = .ok (.bipush 9, 2) := by decide +kernel
theorem dX2_wordHere_5 : decode cX2_wordHere 5 = .ok (.if_icmp .gt 23, 3) := by decide +kernel
theorem dX2_wordHere_8 : decode cX2_wordHere 8 = .ok (.aload_n 0, 1) := by decide +kernel
theorem dX2_wordHere_9 : decode cX2_wordHere 9 = .ok (.aload_n 1, 1) := by decide +kernel
theorem dX2_wordHere_10 : decode cX2_wordHere 10 = .ok (.iload_n 2, 1) := by decide +kernel
theorem dX2_wordHere_11 : decode cX2_wordHere 11 = .ok (.invokestatic 130, 3) := by decide +kernel
theorem dX2_wordHere_14 : decode cX2_wordHere 14 = .ok (.invokevirtual 134, 3) := by decide +kernel
theorem dX2_wordHere_17 : decode cX2_wordHere 17 = .ok (.ifCond .eq 5, 3) := by decide +kernel
theorem dX2_wordHere_20 : decode cX2_wordHere 20 = .ok (.iload_n 2, 1) := by decide +kernel
theorem dX2_wordHere_21 : decode cX2_wordHere 21 = .ok (.ireturn, 1) := by decide +kernel
theorem dX2_wordHere_22 : decode cX2_wordHere 22 = .ok (.iinc 2 1, 3) := by decide +kernel
theorem dX2_wordHere_25 : decode cX2_wordHere 25 = .ok (.goto (-23), 3) := by decide +kernel
theorem dX2_wordHere_28 : decode cX2_wordHere 28 = .ok (.iconst (-1), 1) := by decide +kernel
theorem dX2_wordHere_29 : decode cX2_wordHere 29 = .ok (.ireturn, 1) := by decide +kernel
theorem dX2_isHere_0 : decode cX2_isHere 0 = .ok (.aload_n 2, 1) := by decide +kernel
theorem dX2_isHere_1 : decode cX2_isHere 1 = .ok (.invokevirtual 138, 3) := by decide +kernel
theorem dX2_isHere_4 : decode cX2_isHere 4 = .ok (.aload_n 0, 1) := by decide +kernel
theorem dX2_isHere_5 : decode cX2_isHere 5 = .ok (.getfield 21, 3) := by decide +kernel
theorem dX2_isHere_8 : decode cX2_isHere 8 = .ok (.aload_n 0, 1) := by decide +kernel
theorem dX2_isHere_9 : decode cX2_isHere 9 = .ok (.getfield 18, 3) := by decide +kernel
theorem dX2_isHere_12 : decode cX2_isHere 12 = .ok (.isub, 1) := by decide +kernel
theorem dX2_isHere_13 : decode cX2_isHere 13 = .ok (.if_icmp .eq 5, 3) := by decide +kernel
theorem dX2_isHere_16 : decode cX2_isHere 16 = .ok (.iconst 0, 1) := by decide +kernel
theorem dX2_isHere_17 : decode cX2_isHere 17 = .ok (.ireturn, 1) := by decide +kernel
theorem dX2_isHere_18 : decode cX2_isHere 18 = .ok (.iconst 0, 1) := by decide +kernel
theorem dX2_isHere_19 : decode cX2_isHere 19 = .ok (.istore_n 3, 1) := by decide +kernel
theorem dX2_isHere_20 : decode cX2_isHere 20 = .ok (.iload_n 3, 1) := by decide +kernel
theorem dX2_isHere_21 : decode cX2_isHere 21 = .ok (.aload_n 2, 1) := by decide +kernel
theorem dX2_isHere_22 : decode cX2_isHere 22 = .ok (.invokevirtual 138, 3) := by decide +kernel
theorem dX2_isHere_25 : decode cX2_isHere 25 = .ok (.if_icmp .ge 29, 3) := by decide +kernel
theorem dX2_isHere_28 : decode cX2_isHere 28 = .ok (.aload_n 2, 1) := by decide +kernel
theorem dX2_isHere_29 : decode cX2_isHere 29 = .ok (.iload_n 3, 1) := by decide +kernel
theorem dX2_isHere_30 : decode cX2_isHere 30 = .ok (.invokevirtual 144, 3) := by decide +kernel
theorem dX2_isHere_33 : decode cX2_isHere 33 = .ok (.aload_n 1, 1) := by decide +kernel
theorem dX2_isHere_34 : decode cX2_isHere 34 = .ok (.aload_n 0, 1) := by decide +kernel
theorem dX2_isHere_35 : decode cX2_isHere 35 = .ok (.getfield 18, 3) := by decide +kernel
theorem dX2_isHere_38 : decode cX2_isHere 38 = .ok (.iload_n 3, 1) := by decide +kernel
theorem dX2_isHere_39 : decode cX2_isHere 39 = .ok (.iadd, 1) := by decide +kernel
theorem dX2_isHere_40 : decode cX2_isHere 40 = .ok (.invokevirtual 117, 3) := by decide +kernel
theorem dX2_isHere_43 : decode cX2_isHere 43 = .ok (.if_icmp .eq 5, 3) := by decide +kernel
theorem dX2_isHere_46 : decode cX2_isHere 46 = .ok (.iconst 0, 1) := by decide +kernel
theorem dX2_isHere_47 : decode cX2_isHere 47 = .ok (.ireturn, 1) := by decide +kernel
theorem dX2_isHere_48 : decode cX2_isHere 48 = .ok (.iinc 3 1, 3) := by decide +kernel
theorem dX2_isHere_51 : decode cX2_isHere 51 = .ok (.goto (-31), 3) := by decide +kernel
theorem dX2_isHere_54 : decode cX2_isHere 54 = .ok (.iconst 1, 1) := by decide +kernel
theorem dX2_isHere_55 : decode cX2_isHere 55 = .ok (.ireturn, 1) := by decide +kernel
theorem dX2_lettersOf_0 : decode cX2_lettersOf 0 = .ok (.iload_n 0, 1) := by decide +kernel
theorem dX2_lettersOf_1 : decode cX2_lettersOf 1 = .ok (.tableswitch 78 0 8 #[51, 54, 57, 60, 63, 66, 69, 72, 75], 51) := by decide +kernel
theorem dX2_lettersOf_52 : decode cX2_lettersOf 52 = .ok (.ldc 148, 2) := by decide +kernel
theorem dX2_lettersOf_54 : decode cX2_lettersOf 54 = .ok (.areturn, 1) := by decide +kernel
theorem dX2_lettersOf_55 : decode cX2_lettersOf 55 = .ok (.ldc 150, 2) := by decide +kernel
theorem dX2_lettersOf_57 : decode cX2_lettersOf 57 = .ok (.areturn, 1) := by decide +kernel
theorem dX2_lettersOf_58 : decode cX2_lettersOf 58 = .ok (.ldc 152, 2) := by decide +kernel
theorem dX2_lettersOf_60 : decode cX2_lettersOf 60 = .ok (.areturn, 1) := by decide +kernel
theorem dX2_lettersOf_61 : decode cX2_lettersOf 61 = .ok (.ldc 154, 2) := by decide +kernel
theorem dX2_lettersOf_63 : decode cX2_lettersOf 63 = .ok (.areturn, 1) := by decide +kernel
theorem dX2_lettersOf_64 : decode cX2_lettersOf 64 = .ok (.ldc 156, 2) := by decide +kernel
theorem dX2_lettersOf_66 : decode cX2_lettersOf 66 = .ok (.areturn, 1) := by decide +kernel
theorem dX2_lettersOf_67 : decode cX2_lettersOf 67 = .ok (.ldc 158, 2) := by decide +kernel
theorem dX2_lettersOf_69 : decode cX2_lettersOf 69 = .ok (.areturn, 1) := by decide +kernel
theorem dX2_lettersOf_70 : decode cX2_lettersOf 70 = .ok (.ldc 160, 2) := by decide +kernel
theorem dX2_lettersOf_72 : decode cX2_lettersOf 72 = .ok (.areturn, 1) := by decide +kernel
theorem dX2_lettersOf_73 : decode cX2_lettersOf 73 = .ok (.ldc 161, 2) := by decide +kernel
theorem dX2_lettersOf_75 : decode cX2_lettersOf 75 = .ok (.areturn, 1) := by decide +kernel
theorem dX2_lettersOf_76 : decode cX2_lettersOf 76 = .ok (.ldc 163, 2) := by decide +kernel
theorem dX2_lettersOf_78 : decode cX2_lettersOf 78 = .ok (.areturn, 1) := by decide +kernel
theorem dX2_lettersOf_79 : decode cX2_lettersOf 79 = .ok (.ldc 165, 2) := by decide +kernel
theorem dX2_lettersOf_81 : decode cX2_lettersOf 81 = .ok (.areturn, 1) := by decide +kernel
theorem dX3_init_0 : decode cX3_init 0 = .ok (.aload_n 0, 1) := by decide +kernel
theorem dX3_init_1 : decode cX3_init 1 = .ok (.invokespecial 3, 3) := by decide +kernel
theorem dX3_init_4 : decode cX3_init 4 = .ok (.aload_n 0, 1) := by decide +kernel
theorem dX3_init_5 : decode cX3_init 5 = .ok (.bipush 8, 2) := by decide +kernel
theorem dX3_init_7 : decode cX3_init 7 = .ok (.newarray .int, 2) := by decide +kernel
theorem dX3_init_9 : decode cX3_init 9 = .ok (.putfield 11, 3) := by decide +kernel
theorem dX3_init_12 : decode cX3_init 12 = .ok (.aload_n 0, 1) := by decide +kernel
theorem dX3_init_13 : decode cX3_init 13 = .ok (.bipush 8, 2) := by decide +kernel
theorem dX3_init_15 : decode cX3_init 15 = .ok (.newarray .int, 2) := by decide +kernel
theorem dX3_init_17 : decode cX3_init 17 = .ok (.putfield 15, 3) := by decide +kernel
theorem dX3_init_20 : decode cX3_init 20 = .ok (.aload_n 0, 1) := by decide +kernel
theorem dX3_init_21 : decode cX3_init 21 = .ok (.sipush 320, 3) := by decide +kernel
theorem dX3_init_24 : decode cX3_init 24 = .ok (.newarray .long, 2) := by decide +kernel
theorem dX3_init_26 : decode cX3_init 26 = .ok (.putfield 18, 3) := by decide +kernel
theorem dX3_init_29 : decode cX3_init 29 = .ok (.iconst 0, 1) := by decide +kernel
theorem dX3_init_30 : decode cX3_init 30 = .ok (.istore_n 1, 1) := by decide +kernel
theorem dX3_init_31 : decode cX3_init 31 = .ok (.iload_n 1, 1) := by decide +kernel
theorem dX3_init_32 : decode cX3_init 32 = .ok (.aload_n 0, 1) := by decide +kernel
theorem dX3_init_33 : decode cX3_init 33 = .ok (.getfield 11, 3) := by decide +kernel
theorem dX3_init_36 : decode cX3_init 36 = .ok (.arraylength, 1) := by decide +kernel
theorem dX3_init_37 : decode cX3_init 37 = .ok (.if_icmp .ge 16, 3) := by decide +kernel
theorem dX3_init_40 : decode cX3_init 40 = .ok (.aload_n 0, 1) := by decide +kernel
theorem dX3_init_41 : decode cX3_init 41 = .ok (.getfield 11, 3) := by decide +kernel
theorem dX3_init_44 : decode cX3_init 44 = .ok (.iload_n 1, 1) := by decide +kernel
theorem dX3_init_45 : decode cX3_init 45 = .ok (.iconst (-1), 1) := by decide +kernel
theorem dX3_init_46 : decode cX3_init 46 = .ok (.iastore, 1) := by decide +kernel
theorem dX3_init_47 : decode cX3_init 47 = .ok (.iinc 1 1, 3) := by decide +kernel
theorem dX3_init_50 : decode cX3_init 50 = .ok (.goto (-19), 3) := by decide +kernel
theorem dX3_init_53 : decode cX3_init 53 = .ok (.return_, 1) := by decide +kernel
theorem dX3_isShelf_0 : decode cX3_isShelf 0 = .ok (.iload_n 0, 1) := by decide +kernel
theorem dX3_isShelf_1 : decode cX3_isShelf 1 = .ok (.ifCond .lt 13, 3) := by decide +kernel
theorem dX3_isShelf_4 : decode cX3_isShelf 4 = .ok (.iload_n 0, 1) := by decide +kernel
theorem dX3_isShelf_5 : decode cX3_isShelf 5 = .ok (.bipush 8, 2) := by decide +kernel
theorem dX3_isShelf_7 : decode cX3_isShelf 7 = .ok (.if_icmp .ge 7, 3) := by decide +kernel
theorem dX3_isShelf_10 : decode cX3_isShelf 10 = .ok (.iconst 1, 1) := by decide +kernel
theorem dX3_isShelf_11 : decode cX3_isShelf 11 = .ok (.goto 4, 3) := by decide +kernel
theorem dX3_isShelf_14 : decode cX3_isShelf 14 = .ok (.iconst 0, 1) := by decide +kernel
theorem dX3_isShelf_15 : decode cX3_isShelf 15 = .ok (.ireturn, 1) := by decide +kernel
theorem dX3_heldIn_0 : decode cX3_heldIn 0 = .ok (.iload_n 1, 1) := by decide +kernel
theorem dX3_heldIn_1 : decode cX3_heldIn 1 = .ok (.invokestatic 22, 3) := by decide +kernel
theorem dX3_heldIn_4 : decode cX3_heldIn 4 = .ok (.ifCond .eq 14, 3) := by decide +kernel
theorem dX3_heldIn_7 : decode cX3_heldIn 7 = .ok (.aload_n 0, 1) := by decide +kernel
theorem dX3_heldIn_8 : decode cX3_heldIn 8 = .ok (.getfield 11, 3) := by decide +kernel
theorem dX3_heldIn_11 : decode cX3_heldIn 11 = .ok (.iload_n 1, 1) := by decide +kernel
theorem dX3_heldIn_12 : decode cX3_heldIn 12 = .ok (.invokestatic 26, 3) := by decide +kernel
theorem dX3_heldIn_15 : decode cX3_heldIn 15 = .ok (.goto 4, 3) := by decide +kernel
theorem dX3_heldIn_18 : decode cX3_heldIn 18 = .ok (.iconst (-1), 1) := by decide +kernel
theorem dX3_heldIn_19 : decode cX3_heldIn 19 = .ok (.ireturn, 1) := by decide +kernel
theorem dX3_hasRow_0 : decode cX3_hasRow 0 = .ok (.aload_n 0, 1) := by decide +kernel
theorem dX3_hasRow_1 : decode cX3_hasRow 1 = .ok (.iload_n 1, 1) := by decide +kernel
theorem dX3_hasRow_2 : decode cX3_hasRow 2 = .ok (.invokevirtual 30, 3) := by decide +kernel
theorem dX3_hasRow_5 : decode cX3_hasRow 5 = .ok (.ifCond .lt 16, 3) := by decide +kernel
theorem dX3_hasRow_8 : decode cX3_hasRow 8 = .ok (.aload_n 0, 1) := by decide +kernel
theorem dX3_hasRow_9 : decode cX3_hasRow 9 = .ok (.iload_n 1, 1) := by decide +kernel
theorem dX3_hasRow_10 : decode cX3_hasRow 10 = .ok (.invokevirtual 30, 3) := by decide +kernel
theorem dX3_hasRow_13 : decode cX3_hasRow 13 = .ok (.iconst 4, 1) := by decide +kernel
theorem dX3_hasRow_14 : decode cX3_hasRow 14 = .ok (.if_icmp .gt 7, 3) := by decide +kernel
theorem dX3_hasRow_17 : decode cX3_hasRow 17 = .ok (.iconst 1, 1) := by decide +kernel
theorem dX3_hasRow_18 : decode cX3_hasRow 18 = .ok (.goto 4, 3) := by decide +kernel
theorem dX3_hasRow_21 : decode cX3_hasRow 21 = .ok (.iconst 0, 1) := by decide +kernel
theorem dX3_hasRow_22 : decode cX3_hasRow 22 = .ok (.ireturn, 1) := by decide +kernel
theorem dX3_hasRinger_0 : decode cX3_hasRinger 0 = .ok (.aload_n 0, 1) := by decide +kernel
theorem dX3_hasRinger_1 : decode cX3_hasRinger 1 = .ok (.iload_n 1, 1) := by decide +kernel
theorem dX3_hasRinger_2 : decode cX3_hasRinger 2 = .ok (.invokevirtual 30, 3) := by decide +kernel
theorem dX3_hasRinger_5 : decode cX3_hasRinger 5 = .ok (.bipush 10, 2) := by decide +kernel
theorem dX3_hasRinger_7 : decode cX3_hasRinger 7 = .ok (.if_icmp .lt 7, 3) := by decide +kernel
theorem dX3_hasRinger_10 : decode cX3_hasRinger 10 = .ok (.iconst 1, 1) := by decide +kernel
theorem dX3_hasRinger_11 : decode cX3_hasRinger 11 = .ok (.goto 4, 3) := by decide +kernel
theorem dX3_hasRinger_14 : decode cX3_hasRinger 14 = .ok (.iconst 0, 1) := by decide +kernel
theorem dX3_hasRinger_15 : decode cX3_hasRinger 15 = .ok (.ireturn, 1) := by decide +kernel
theorem dX3_ringerIn_0 : decode cX3_ringerIn 0 = .ok (.aload_n 0, 1) := by decide +kernel
theorem dX3_ringerIn_1 : decode cX3_ringerIn 1 = .ok (.iload_n 1, 1) := by decide +kernel
theorem dX3_ringerIn_2 : decode cX3_ringerIn 2 = .ok (.invokevirtual 34, 3) := by decide +kernel
theorem dX3_ringerIn_5 : decode cX3_ringerIn 5 = .ok (.ifCond .eq 14, 3) := by decide +kernel
theorem dX3_ringerIn_8 : decode cX3_ringerIn 8 = .ok (.aload_n 0, 1) := by decide +kernel
theorem dX3_ringerIn_9 : decode cX3_ringerIn 9 = .ok (.iload_n 1, 1) := by decide +kernel
theorem dX3_ringerIn_10 : decode cX3_ringerIn 10 = .ok (.invokevirtual 30, 3) := by decide +kernel
theorem dX3_ringerIn_13 : decode cX3_ringerIn 13 = .ok (.bipush 10, 2) := by decide +kernel
theorem dX3_ringerIn_15 : decode cX3_ringerIn 15 = .ok (.isub, 1) := by decide +kernel
theorem dX3_ringerIn_16 : decode cX3_ringerIn 16 = .ok (.goto 4, 3) := by decide +kernel
theorem dX3_ringerIn_19 : decode cX3_ringerIn 19 = .ok (.iconst (-1), 1) := by decide +kernel
theorem dX3_ringerIn_20 : decode cX3_ringerIn 20 = .ok (.ireturn, 1) := by decide +kernel
theorem dX3_sizeOf_0 : decode cX3_sizeOf 0 = .ok (.aload_n 0, 1) := by decide +kernel
theorem dX3_sizeOf_1 : decode cX3_sizeOf 1 = .ok (.iload_n 1, 1) := by decide +kernel
theorem dX3_sizeOf_2 : decode cX3_sizeOf 2 = .ok (.invokevirtual 37, 3) := by decide +kernel
theorem dX3_sizeOf_5 : decode cX3_sizeOf 5 = .ok (.ifCond .eq 14, 3) := by decide +kernel
theorem dX3_sizeOf_8 : decode cX3_sizeOf 8 = .ok (.aload_n 0, 1) := by decide +kernel
theorem dX3_sizeOf_9 : decode cX3_sizeOf 9 = .ok (.getfield 15, 3) := by decide +kernel
theorem dX3_sizeOf_12 : decode cX3_sizeOf 12 = .ok (.iload_n 1, 1) := by decide +kernel
theorem dX3_sizeOf_13 : decode cX3_sizeOf 13 = .ok (.invokestatic 26, 3) := by decide +kernel
theorem dX3_sizeOf_16 : decode cX3_sizeOf 16 = .ok (.goto 4, 3) := by decide +kernel
theorem dX3_sizeOf_19 : decode cX3_sizeOf 19 = .ok (.iconst 0, 1) := by decide +kernel
theorem dX3_sizeOf_20 : decode cX3_sizeOf 20 = .ok (.ireturn, 1) := by decide +kernel
theorem dX3_hasPart_0 : decode cX3_hasPart 0 = .ok (.aload_n 0, 1) := by decide +kernel
theorem dX3_hasPart_1 : decode cX3_hasPart 1 = .ok (.iload_n 1, 1) := by decide +kernel
theorem dX3_hasPart_2 : decode cX3_hasPart 2 = .ok (.invokevirtual 37, 3) := by decide +kernel
theorem dX3_hasPart_5 : decode cX3_hasPart 5 = .ok (.ifCond .eq 35, 3) := by decide +kernel
theorem dX3_hasPart_8 : decode cX3_hasPart 8 = .ok (.iload_n 2, 1) := by decide +kernel
theorem dX3_hasPart_9 : decode cX3_hasPart 9 = .ok (.ifCond .lt 31, 3) := by decide +kernel
theorem dX3_hasPart_12 : decode cX3_hasPart 12 = .ok (.iload_n 3, 1) := by decide +kernel
theorem dX3_hasPart_13 : decode cX3_hasPart 13 = .ok (.ifCond .lt 27, 3) := by decide +kernel
theorem dX3_hasPart_16 : decode cX3_hasPart 16 = .ok (.iload_n 3, 1) := by decide +kernel
theorem dX3_hasPart_17 : decode cX3_hasPart 17 = .ok (.aload_n 0, 1) := by decide +kernel
theorem dX3_hasPart_18 : decode cX3_hasPart 18 = .ok (.iload_n 1, 1) := by decide +kernel
theorem dX3_hasPart_19 : decode cX3_hasPart 19 = .ok (.invokevirtual 40, 3) := by decide +kernel
theorem dX3_hasPart_22 : decode cX3_hasPart 22 = .ok (.if_icmp .gt 18, 3) := by decide +kernel
theorem dX3_hasPart_25 : decode cX3_hasPart 25 = .ok (.iload_n 2, 1) := by decide +kernel
theorem dX3_hasPart_26 : decode cX3_hasPart 26 = .ok (.aload_n 0, 1) := by decide +kernel
theorem dX3_hasPart_27 : decode cX3_hasPart 27 = .ok (.iload_n 1, 1) := by decide +kernel
theorem dX3_hasPart_28 : decode cX3_hasPart 28 = .ok (.invokevirtual 40, 3) := by decide +kernel
theorem dX3_hasPart_31 : decode cX3_hasPart 31 = .ok (.iload_n 3, 1) := by decide +kernel
theorem dX3_hasPart_32 : decode cX3_hasPart 32 = .ok (.isub, 1) := by decide +kernel
theorem dX3_hasPart_33 : decode cX3_hasPart 33 = .ok (.if_icmp .gt 7, 3) := by decide +kernel
theorem dX3_hasPart_36 : decode cX3_hasPart 36 = .ok (.iconst 1, 1) := by decide +kernel
theorem dX3_hasPart_37 : decode cX3_hasPart 37 = .ok (.goto 4, 3) := by decide +kernel
theorem dX3_hasPart_40 : decode cX3_hasPart 40 = .ok (.iconst 0, 1) := by decide +kernel
theorem dX3_hasPart_41 : decode cX3_hasPart 41 = .ok (.ireturn, 1) := by decide +kernel
theorem dX3_putRow_0 : decode cX3_putRow 0 = .ok (.aload_n 0, 1) := by decide +kernel
theorem dX3_putRow_1 : decode cX3_putRow 1 = .ok (.getfield 11, 3) := by decide +kernel
theorem dX3_putRow_4 : decode cX3_putRow 4 = .ok (.iload_n 1, 1) := by decide +kernel
theorem dX3_putRow_5 : decode cX3_putRow 5 = .ok (.iload_n 2, 1) := by decide +kernel
theorem dX3_putRow_6 : decode cX3_putRow 6 = .ok (.invokestatic 43, 3) := by decide +kernel
theorem dX3_putRow_9 : decode cX3_putRow 9 = .ok (.aload_n 0, 1) := by decide +kernel
theorem dX3_putRow_10 : decode cX3_putRow 10 = .ok (.getfield 15, 3) := by decide +kernel
theorem dX3_putRow_13 : decode cX3_putRow 13 = .ok (.iload_n 1, 1) := by decide +kernel
theorem dX3_putRow_14 : decode cX3_putRow 14 = .ok (.iload_n 3, 1) := by decide +kernel
theorem dX3_putRow_15 : decode cX3_putRow 15 = .ok (.invokestatic 43, 3) := by decide +kernel
theorem dX3_putRow_18 : decode cX3_putRow 18 = .ok (.iconst 0, 1) := by decide +kernel
theorem dX3_putRow_19 : decode cX3_putRow 19 = .ok (.istore 4, 2) := by decide +kernel
theorem dX3_putRow_21 : decode cX3_putRow 21 = .ok (.iload 4, 2) := by decide +kernel
theorem dX3_putRow_23 : decode cX3_putRow 23 = .ok (.bipush 40, 2) := by decide +kernel
theorem dX3_putRow_25 : decode cX3_putRow 25 = .ok (.if_icmp .ge 17, 3) := by decide +kernel
theorem dX3_putRow_28 : decode cX3_putRow 28 = .ok (.aload_n 0, 1) := by decide +kernel
theorem dX3_putRow_29 : decode cX3_putRow 29 = .ok (.iload_n 1, 1) := by decide +kernel
theorem dX3_putRow_30 : decode cX3_putRow 30 = .ok (.iload 4, 2) := by decide +kernel
theorem dX3_putRow_32 : decode cX3_putRow 32 = .ok (.lconst 0, 1) := by decide +kernel
theorem dX3_putRow_33 : decode cX3_putRow 33 = .ok (.invokevirtual 47, 3) := by decide +kernel
theorem dX3_putRow_36 : decode cX3_putRow 36 = .ok (.iinc 4 1, 3) := by decide +kernel
theorem dX3_putRow_39 : decode cX3_putRow 39 = .ok (.goto (-18), 3) := by decide +kernel
theorem dX3_putRow_42 : decode cX3_putRow 42 = .ok (.return_, 1) := by decide +kernel
theorem dX3_putRinger_0 : decode cX3_putRinger 0 = .ok (.aload_n 0, 1) := by decide +kernel
theorem dX3_putRinger_1 : decode cX3_putRinger 1 = .ok (.getfield 11, 3) := by decide +kernel
theorem dX3_putRinger_4 : decode cX3_putRinger 4 = .ok (.iload_n 1, 1) := by decide +kernel
theorem dX3_putRinger_5 : decode cX3_putRinger 5 = .ok (.iload_n 2, 1) := by decide +kernel
theorem dX3_putRinger_6 : decode cX3_putRinger 6 = .ok (.iconst (-1), 1) := by decide +kernel
theorem dX3_putRinger_7 : decode cX3_putRinger 7 = .ok (.if_icmp .ne 7, 3) := by decide +kernel
theorem dX3_putRinger_10 : decode cX3_putRinger 10 = .ok (.iconst (-1), 1) := by decide +kernel
theorem dX3_putRinger_11 : decode cX3_putRinger 11 = .ok (.goto 7, 3) := by decide +kernel
theorem dX3_putRinger_14 : decode cX3_putRinger 14 = .ok (.bipush 10, 2) := by decide +kernel
theorem dX3_putRinger_16 : decode cX3_putRinger 16 = .ok (.iload_n 2, 1) := by decide +kernel
theorem dX3_putRinger_17 : decode cX3_putRinger 17 = .ok (.iadd, 1) := by decide +kernel
theorem dX3_putRinger_18 : decode cX3_putRinger 18 = .ok (.invokestatic 43, 3) := by decide +kernel
theorem dX3_putRinger_21 : decode cX3_putRinger 21 = .ok (.return_, 1) := by decide +kernel
theorem dX3_putElement_0 : decode cX3_putElement 0 = .ok (.aload_n 0, 1) := by decide +kernel
theorem dX3_putElement_1 : decode cX3_putElement 1 = .ok (.iload_n 1, 1) := by decide +kernel
theorem dX3_putElement_2 : decode cX3_putElement 2 = .ok (.iload_n 2, 1) := by decide +kernel
theorem dX3_putElement_3 : decode cX3_putElement 3 = .ok (.aload_n 0, 1) := by decide +kernel
theorem dX3_putElement_4 : decode cX3_putElement 4 = .ok (.iload_n 1, 1) := by decide +kernel
theorem dX3_putElement_5 : decode cX3_putElement 5 = .ok (.invokevirtual 30, 3) := by decide +kernel
theorem dX3_putElement_8 : decode cX3_putElement 8 = .ok (.lload_n 3, 1) := by decide +kernel
theorem dX3_putElement_9 : decode cX3_putElement 9 = .ok (.invokestatic 51, 3) := by decide +kernel
theorem dX3_putElement_12 : decode cX3_putElement 12 = .ok (.invokevirtual 47, 3) := by decide +kernel
theorem dX3_putElement_15 : decode cX3_putElement 15 = .ok (.return_, 1) := by decide +kernel
theorem dX3_putLong_0 : decode cX3_putLong 0 = .ok (.iload_n 1, 1) := by decide +kernel
theorem dX3_putLong_1 : decode cX3_putLong 1 = .ok (.bipush 40, 2) := by decide +kernel
theorem dX3_putLong_3 : decode cX3_putLong 3 = .ok (.imul, 1) := by decide +kernel
theorem dX3_putLong_4 : decode cX3_putLong 4 = .ok (.iload_n 2, 1) := by decide +kernel
theorem dX3_putLong_5 : decode cX3_putLong 5 = .ok (.iadd, 1) := by decide +kernel
theorem dX3_putLong_6 : decode cX3_putLong 6 = .ok (.istore 5, 2) := by decide +kernel
theorem dX3_putLong_8 : decode cX3_putLong 8 = .ok (.iload 5, 2) := by decide +kernel
theorem dX3_putLong_10 : decode cX3_putLong 10 = .ok (.ifCond .lt 21, 3) := by decide +kernel
theorem dX3_putLong_13 : decode cX3_putLong 13 = .ok (.iload 5, 2) := by decide +kernel
theorem dX3_putLong_15 : decode cX3_putLong 15 = .ok (.aload_n 0, 1) := by decide +kernel
theorem dX3_putLong_16 : decode cX3_putLong 16 = .ok (.getfield 18, 3) := by decide +kernel
theorem dX3_putLong_19 : decode cX3_putLong 19 = .ok (.arraylength, 1) := by decide +kernel
theorem dX3_putLong_20 : decode cX3_putLong 20 = .ok (.if_icmp .ge 11, 3) := by decide +kernel
theorem dX3_putLong_23 : decode cX3_putLong 23 = .ok (.aload_n 0, 1) := by decide +kernel
theorem dX3_putLong_24 : decode cX3_putLong 24 = .ok (.getfield 18, 3) := by decide +kernel
theorem dX3_putLong_27 : decode cX3_putLong 27 = .ok (.iload 5, 2) := by decide +kernel
theorem dX3_putLong_29 : decode cX3_putLong 29 = .ok (.lload_n 3, 1) := by decide +kernel
theorem dX3_putLong_30 : decode cX3_putLong 30 = .ok (.lastore, 1) := by decide +kernel
theorem dX3_putLong_31 : decode cX3_putLong 31 = .ok (.return_, 1) := by decide +kernel
theorem dX3_asSort_0 : decode cX3_asSort 0 = .ok (.iload_n 0, 1) := by decide +kernel
theorem dX3_asSort_1 : decode cX3_asSort 1 = .ok (.tableswitch 61 0 4 #[35, 40, 45, 61, 49], 35) := by decide +kernel
theorem dX3_asSort_36 : decode cX3_asSort 36 = .ok (.lload_n 1, 1) := by decide +kernel
theorem dX3_asSort_37 : decode cX3_asSort 37 = .ok (.l2i, 1) := by decide +kernel
theorem dX3_asSort_38 : decode cX3_asSort 38 = .ok (.i2b, 1) := by decide +kernel
theorem dX3_asSort_39 : decode cX3_asSort 39 = .ok (.i2l, 1) := by decide +kernel
theorem dX3_asSort_40 : decode cX3_asSort 40 = .ok (.lreturn, 1) := by decide +kernel
theorem dX3_asSort_41 : decode cX3_asSort 41 = .ok (.lload_n 1, 1) := by decide +kernel
theorem dX3_asSort_42 : decode cX3_asSort 42 = .ok (.l2i, 1) := by decide +kernel
theorem dX3_asSort_43 : decode cX3_asSort 43 = .ok (.i2s, 1) := by decide +kernel
theorem dX3_asSort_44 : decode cX3_asSort 44 = .ok (.i2l, 1) := by decide +kernel
theorem dX3_asSort_45 : decode cX3_asSort 45 = .ok (.lreturn, 1) := by decide +kernel
theorem dX3_asSort_46 : decode cX3_asSort 46 = .ok (.lload_n 1, 1) := by decide +kernel
theorem dX3_asSort_47 : decode cX3_asSort 47 = .ok (.l2i, 1) := by decide +kernel
theorem dX3_asSort_48 : decode cX3_asSort 48 = .ok (.i2l, 1) := by decide +kernel
theorem dX3_asSort_49 : decode cX3_asSort 49 = .ok (.lreturn, 1) := by decide +kernel
theorem dX3_asSort_50 : decode cX3_asSort 50 = .ok (.lload_n 1, 1) := by decide +kernel
theorem dX3_asSort_51 : decode cX3_asSort 51 = .ok (.lconst 0, 1) := by decide +kernel
theorem dX3_asSort_52 : decode cX3_asSort 52 = .ok (.lcmp, 1) := by decide +kernel
theorem dX3_asSort_53 : decode cX3_asSort 53 = .ok (.ifCond .eq 7, 3) := by decide +kernel
theorem dX3_asSort_56 : decode cX3_asSort 56 = .ok (.lconst 1, 1) := by decide +kernel
theorem dX3_asSort_57 : decode cX3_asSort 57 = .ok (.goto 4, 3) := by decide +kernel
theorem dX3_asSort_60 : decode cX3_asSort 60 = .ok (.lconst 0, 1) := by decide +kernel
theorem dX3_asSort_61 : decode cX3_asSort 61 = .ok (.lreturn, 1) := by decide +kernel
theorem dX3_asSort_62 : decode cX3_asSort 62 = .ok (.lload_n 1, 1) := by decide +kernel
theorem dX3_asSort_63 : decode cX3_asSort 63 = .ok (.lreturn, 1) := by decide +kernel
theorem dX3_elementAt_0 : decode cX3_elementAt 0 = .ok (.iload_n 2, 1) := by decide +kernel
theorem dX3_elementAt_1 : decode cX3_elementAt 1 = .ok (.ifCond .lt 12, 3) := by decide +kernel
theorem dX3_elementAt_4 : decode cX3_elementAt 4 = .ok (.iload_n 2, 1) := by decide +kernel
theorem dX3_elementAt_5 : decode cX3_elementAt 5 = .ok (.aload_n 0, 1) := by decide +kernel
theorem dX3_elementAt_6 : decode cX3_elementAt 6 = .ok (.iload_n 1, 1) := by decide +kernel
theorem dX3_elementAt_7 : decode cX3_elementAt 7 = .ok (.invokevirtual 40, 3) := by decide +kernel
theorem dX3_elementAt_10 : decode cX3_elementAt 10 = .ok (.if_icmp .lt 5, 3) := by decide +kernel
theorem dX3_elementAt_13 : decode cX3_elementAt 13 = .ok (.lconst 0, 1) := by decide +kernel
theorem dX3_elementAt_14 : decode cX3_elementAt 14 = .ok (.lreturn, 1) := by decide +kernel
theorem dX3_elementAt_15 : decode cX3_elementAt 15 = .ok (.iload_n 1, 1) := by decide +kernel
theorem dX3_elementAt_16 : decode cX3_elementAt 16 = .ok (.bipush 40, 2) := by decide +kernel
theorem dX3_elementAt_18 : decode cX3_elementAt 18 = .ok (.imul, 1) := by decide +kernel
theorem dX3_elementAt_19 : decode cX3_elementAt 19 = .ok (.iload_n 2, 1) := by decide +kernel
theorem dX3_elementAt_20 : decode cX3_elementAt 20 = .ok (.iadd, 1) := by decide +kernel
theorem dX3_elementAt_21 : decode cX3_elementAt 21 = .ok (.istore_n 3, 1) := by decide +kernel
theorem dX3_elementAt_22 : decode cX3_elementAt 22 = .ok (.iload_n 3, 1) := by decide +kernel
theorem dX3_elementAt_23 : decode cX3_elementAt 23 = .ok (.ifCond .lt 21, 3) := by decide +kernel
theorem dX3_elementAt_26 : decode cX3_elementAt 26 = .ok (.iload_n 3, 1) := by decide +kernel
theorem dX3_elementAt_27 : decode cX3_elementAt 27 = .ok (.aload_n 0, 1) := by decide +kernel
theorem dX3_elementAt_28 : decode cX3_elementAt 28 = .ok (.getfield 18, 3) := by decide +kernel
theorem dX3_elementAt_31 : decode cX3_elementAt 31 = .ok (.arraylength, 1) := by decide +kernel
theorem dX3_elementAt_32 : decode cX3_elementAt 32 = .ok (.if_icmp .ge 12, 3) := by decide +kernel
theorem dX3_elementAt_35 : decode cX3_elementAt 35 = .ok (.aload_n 0, 1) := by decide +kernel
theorem dX3_elementAt_36 : decode cX3_elementAt 36 = .ok (.getfield 18, 3) := by decide +kernel
theorem dX3_elementAt_39 : decode cX3_elementAt 39 = .ok (.iload_n 3, 1) := by decide +kernel
theorem dX3_elementAt_40 : decode cX3_elementAt 40 = .ok (.laload, 1) := by decide +kernel
theorem dX3_elementAt_41 : decode cX3_elementAt 41 = .ok (.goto 4, 3) := by decide +kernel
theorem dX3_elementAt_44 : decode cX3_elementAt 44 = .ok (.lconst 0, 1) := by decide +kernel
theorem dX3_elementAt_45 : decode cX3_elementAt 45 = .ok (.lreturn, 1) := by decide +kernel
theorem dX3_move_0 : decode cX3_move 0 = .ok (.aload_n 0, 1) := by decide +kernel
theorem dX3_move_1 : decode cX3_move 1 = .ok (.iload_n 1, 1) := by decide +kernel
theorem dX3_move_2 : decode cX3_move 2 = .ok (.iload_n 3, 1) := by decide +kernel
theorem dX3_move_3 : decode cX3_move 3 = .ok (.iload 5, 2) := by decide +kernel
theorem dX3_move_5 : decode cX3_move 5 = .ok (.invokevirtual 55, 3) := by decide +kernel
theorem dX3_move_8 : decode cX3_move 8 = .ok (.ifCond .eq 41, 3) := by decide +kernel
theorem dX3_move_11 : decode cX3_move 11 = .ok (.aload_n 0, 1) := by decide +kernel
theorem dX3_move_12 : decode cX3_move 12 = .ok (.iload_n 2, 1) := by decide +kernel
theorem dX3_move_13 : decode cX3_move 13 = .ok (.iload 4, 2) := by decide +kernel
theorem dX3_move_15 : decode cX3_move 15 = .ok (.iload 5, 2) := by decide +kernel
theorem dX3_move_17 : decode cX3_move 17 = .ok (.invokevirtual 55, 3) := by decide +kernel
theorem dX3_move_20 : decode cX3_move 20 = .ok (.ifCond .eq 29, 3) := by decide +kernel
theorem dX3_move_23 : decode cX3_move 23 = .ok (.aload_n 0, 1) := by decide +kernel
theorem dX3_move_24 : decode cX3_move 24 = .ok (.getfield 18, 3) := by decide +kernel
theorem dX3_move_27 : decode cX3_move 27 = .ok (.iload_n 1, 1) := by decide +kernel
theorem dX3_move_28 : decode cX3_move 28 = .ok (.bipush 40, 2) := by decide +kernel
theorem dX3_move_30 : decode cX3_move 30 = .ok (.imul, 1) := by decide +kernel
theorem dX3_move_31 : decode cX3_move 31 = .ok (.iload_n 3, 1) := by decide +kernel
theorem dX3_move_32 : decode cX3_move 32 = .ok (.iadd, 1) := by decide +kernel
theorem dX3_move_33 : decode cX3_move 33 = .ok (.aload_n 0, 1) := by decide +kernel
theorem dX3_move_34 : decode cX3_move 34 = .ok (.getfield 18, 3) := by decide +kernel
theorem dX3_move_37 : decode cX3_move 37 = .ok (.iload_n 2, 1) := by decide +kernel
theorem dX3_move_38 : decode cX3_move 38 = .ok (.bipush 40, 2) := by decide +kernel
theorem dX3_move_40 : decode cX3_move 40 = .ok (.imul, 1) := by decide +kernel
theorem dX3_move_41 : decode cX3_move 41 = .ok (.iload 4, 2) := by decide +kernel
theorem dX3_move_43 : decode cX3_move 43 = .ok (.iadd, 1) := by decide +kernel
theorem dX3_move_44 : decode cX3_move 44 = .ok (.iload 5, 2) := by decide +kernel
theorem dX3_move_46 : decode cX3_move 46 = .ok (.invokestatic 59, 3) := by decide +kernel
theorem dX3_move_49 : decode cX3_move 49 = .ok (.return_, 1) := by decide +kernel
theorem dX3_forgetRingersFrom_0 : decode cX3_forgetRingersFrom 0 = .ok (.iconst 0, 1) := by decide +kernel
theorem dX3_forgetRingersFrom_1 : decode cX3_forgetRingersFrom 1 = .ok (.istore_n 2, 1) := by decide +kernel
theorem dX3_forgetRingersFrom_2 : decode cX3_forgetRingersFrom 2 = .ok (.iload_n 2, 1) := by decide +kernel
theorem dX3_forgetRingersFrom_3 : decode cX3_forgetRingersFrom 3 = .ok (.bipush 8, 2) := by decide +kernel
theorem dX3_forgetRingersFrom_5 : decode cX3_forgetRingersFrom 5 = .ok (.if_icmp .ge 24, 3) := by decide +kernel
theorem dX3_forgetRingersFrom_8 : decode cX3_forgetRingersFrom 8 = .ok (.aload_n 0, 1) := by decide +kernel
theorem dX3_forgetRingersFrom_9 : decode cX3_forgetRingersFrom 9 = .ok (.iload_n 2, 1) := by decide +kernel
theorem dX3_forgetRingersFrom_10 : decode cX3_forgetRingersFrom 10 = .ok (.invokevirtual 65, 3) := by decide +kernel
theorem dX3_forgetRingersFrom_13 : decode cX3_forgetRingersFrom 13 = .ok (.iload_n 1, 1) := by decide +kernel
theorem dX3_forgetRingersFrom_14 : decode cX3_forgetRingersFrom 14 = .ok (.if_icmp .lt 9, 3) := by decide +kernel
theorem dX3_forgetRingersFrom_17 : decode cX3_forgetRingersFrom 17 = .ok (.aload_n 0, 1) := by decide +kernel
theorem dX3_forgetRingersFrom_18 : decode cX3_forgetRingersFrom 18 = .ok (.iload_n 2, 1) := by decide +kernel
theorem dX3_forgetRingersFrom_19 : decode cX3_forgetRingersFrom 19 = .ok (.iconst (-1), 1) := by decide +kernel
theorem dX3_forgetRingersFrom_20 : decode cX3_forgetRingersFrom 20 = .ok (.invokevirtual 68, 3) := by decide +kernel
theorem dX3_forgetRingersFrom_23 : decode cX3_forgetRingersFrom 23 = .ok (.iinc 2 1, 3) := by decide +kernel
theorem dX3_forgetRingersFrom_26 : decode cX3_forgetRingersFrom 26 = .ok (.goto (-24), 3) := by decide +kernel
theorem dX3_forgetRingersFrom_29 : decode cX3_forgetRingersFrom 29 = .ok (.return_, 1) := by decide +kernel
theorem dX3_countHeld_0 : decode cX3_countHeld 0 = .ok (.iconst 0, 1) := by decide +kernel
theorem dX3_countHeld_1 : decode cX3_countHeld 1 = .ok (.istore_n 1, 1) := by decide +kernel
theorem dX3_countHeld_2 : decode cX3_countHeld 2 = .ok (.iconst 0, 1) := by decide +kernel
theorem dX3_countHeld_3 : decode cX3_countHeld 3 = .ok (.istore_n 2, 1) := by decide +kernel
theorem dX3_countHeld_4 : decode cX3_countHeld 4 = .ok (.iload_n 2, 1) := by decide +kernel
theorem dX3_countHeld_5 : decode cX3_countHeld 5 = .ok (.bipush 8, 2) := by decide +kernel
theorem dX3_countHeld_7 : decode cX3_countHeld 7 = .ok (.if_icmp .ge 21, 3) := by decide +kernel
theorem dX3_countHeld_10 : decode cX3_countHeld 10 = .ok (.aload_n 0, 1) := by decide +kernel
theorem dX3_countHeld_11 : decode cX3_countHeld 11 = .ok (.iload_n 2, 1) := by decide +kernel
theorem dX3_countHeld_12 : decode cX3_countHeld 12 = .ok (.invokevirtual 30, 3) := by decide +kernel
theorem dX3_countHeld_15 : decode cX3_countHeld 15 = .ok (.iconst (-1), 1) := by decide +kernel
theorem dX3_countHeld_16 : decode cX3_countHeld 16 = .ok (.if_icmp .eq 6, 3) := by decide +kernel
theorem dX3_countHeld_19 : decode cX3_countHeld 19 = .ok (.iinc 1 1, 3) := by decide +kernel
theorem dX3_countHeld_22 : decode cX3_countHeld 22 = .ok (.iinc 2 1, 3) := by decide +kernel
theorem dX3_countHeld_25 : decode cX3_countHeld 25 = .ok (.goto (-21), 3) := by decide +kernel
theorem dX3_countHeld_28 : decode cX3_countHeld 28 = .ok (.iload_n 1, 1) := by decide +kernel
theorem dX3_countHeld_29 : decode cX3_countHeld 29 = .ok (.ireturn, 1) := by decide +kernel
theorem dX4_init_0 : decode cX4_init 0 = .ok (.aload_n 0, 1) := by decide +kernel
theorem dX4_init_1 : decode cX4_init 1 = .ok (.invokespecial 3, 3) := by decide +kernel
theorem dX4_init_4 : decode cX4_init 4 = .ok (.aload_n 0, 1) := by decide +kernel
theorem dX4_init_5 : decode cX4_init 5 = .ok (.iconst 0, 1) := by decide +kernel
theorem dX4_init_6 : decode cX4_init 6 = .ok (.putfield 9, 3) := by decide +kernel
theorem dX4_init_9 : decode cX4_init 9 = .ok (.aload_n 0, 1) := by decide +kernel
theorem dX4_init_10 : decode cX4_init 10 = .ok (.sipush 250, 3) := by decide +kernel
theorem dX4_init_13 : decode cX4_init 13 = .ok (.newarray .int, 2) := by decide +kernel
theorem dX4_init_15 : decode cX4_init 15 = .ok (.putfield 15, 3) := by decide +kernel
theorem dX4_init_18 : decode cX4_init 18 = .ok (.return_, 1) := by decide +kernel
theorem dX4_hasRoom_0 : decode cX4_hasRoom 0 = .ok (.aload_n 0, 1) := by decide +kernel
theorem dX4_hasRoom_1 : decode cX4_hasRoom 1 = .ok (.getfield 9, 3) := by decide +kernel
theorem dX4_hasRoom_4 : decode cX4_hasRoom 4 = .ok (.sipush 250, 3) := by decide +kernel
theorem dX4_hasRoom_7 : decode cX4_hasRoom 7 = .ok (.if_icmp .ge 7, 3) := by decide +kernel
theorem dX4_hasRoom_10 : decode cX4_hasRoom 10 = .ok (.iconst 1, 1) := by decide +kernel
theorem dX4_hasRoom_11 : decode cX4_hasRoom 11 = .ok (.goto 4, 3) := by decide +kernel
theorem dX4_hasRoom_14 : decode cX4_hasRoom 14 = .ok (.iconst 0, 1) := by decide +kernel
theorem dX4_hasRoom_15 : decode cX4_hasRoom 15 = .ok (.ireturn, 1) := by decide +kernel
theorem dX4_add_0 : decode cX4_add 0 = .ok (.aload_n 0, 1) := by decide +kernel
theorem dX4_add_1 : decode cX4_add 1 = .ok (.getfield 15, 3) := by decide +kernel
theorem dX4_add_4 : decode cX4_add 4 = .ok (.aload_n 0, 1) := by decide +kernel
theorem dX4_add_5 : decode cX4_add 5 = .ok (.getfield 9, 3) := by decide +kernel
theorem dX4_add_8 : decode cX4_add 8 = .ok (.iload_n 1, 1) := by decide +kernel
theorem dX4_add_9 : decode cX4_add 9 = .ok (.invokestatic 19, 3) := by decide +kernel
theorem dX4_add_12 : decode cX4_add 12 = .ok (.aload_n 0, 1) := by decide +kernel
theorem dX4_add_13 : decode cX4_add 13 = .ok (.dup, 1) := by decide +kernel
theorem dX4_add_14 : decode cX4_add 14 = .ok (.getfield 9, 3) := by decide +kernel
theorem dX4_add_17 : decode cX4_add 17 = .ok (.iconst 1, 1) := by decide +kernel
theorem dX4_add_18 : decode cX4_add 18 = .ok (.iadd, 1) := by decide +kernel
theorem dX4_add_19 : decode cX4_add 19 = .ok (.putfield 9, 3) := by decide +kernel
theorem dX4_add_22 : decode cX4_add 22 = .ok (.aload_n 0, 1) := by decide +kernel
theorem dX4_add_23 : decode cX4_add 23 = .ok (.getfield 9, 3) := by decide +kernel
theorem dX4_add_26 : decode cX4_add 26 = .ok (.ireturn, 1) := by decide +kernel
theorem dX4_empty_0 : decode cX4_empty 0 = .ok (.aload_n 0, 1) := by decide +kernel
theorem dX4_empty_1 : decode cX4_empty 1 = .ok (.getfield 9, 3) := by decide +kernel
theorem dX4_empty_4 : decode cX4_empty 4 = .ok (.istore_n 1, 1) := by decide +kernel
theorem dX4_empty_5 : decode cX4_empty 5 = .ok (.aload_n 0, 1) := by decide +kernel
theorem dX4_empty_6 : decode cX4_empty 6 = .ok (.iconst 0, 1) := by decide +kernel
theorem dX4_empty_7 : decode cX4_empty 7 = .ok (.putfield 9, 3) := by decide +kernel
theorem dX4_empty_10 : decode cX4_empty 10 = .ok (.iload_n 1, 1) := by decide +kernel
theorem dX4_empty_11 : decode cX4_empty 11 = .ok (.ireturn, 1) := by decide +kernel
theorem dX4_letterAt_0 : decode cX4_letterAt 0 = .ok (.iload_n 1, 1) := by decide +kernel
theorem dX4_letterAt_1 : decode cX4_letterAt 1 = .ok (.aload_n 0, 1) := by decide +kernel
theorem dX4_letterAt_2 : decode cX4_letterAt 2 = .ok (.getfield 9, 3) := by decide +kernel
theorem dX4_letterAt_5 : decode cX4_letterAt 5 = .ok (.if_icmp .ge 14, 3) := by decide +kernel
theorem dX4_letterAt_8 : decode cX4_letterAt 8 = .ok (.aload_n 0, 1) := by decide +kernel
theorem dX4_letterAt_9 : decode cX4_letterAt 9 = .ok (.getfield 15, 3) := by decide +kernel
theorem dX4_letterAt_12 : decode cX4_letterAt 12 = .ok (.iload_n 1, 1) := by decide +kernel
theorem dX4_letterAt_13 : decode cX4_letterAt 13 = .ok (.invokestatic 23, 3) := by decide +kernel
theorem dX4_letterAt_16 : decode cX4_letterAt 16 = .ok (.goto 4, 3) := by decide +kernel
theorem dX4_letterAt_19 : decode cX4_letterAt 19 = .ok (.iconst (-1), 1) := by decide +kernel
theorem dX4_letterAt_20 : decode cX4_letterAt 20 = .ok (.ireturn, 1) := by decide +kernel
theorem dX5_init_0 : decode cX5_init 0 = .ok (.aload_n 0, 1) := by decide +kernel
theorem dX5_init_1 : decode cX5_init 1 = .ok (.invokespecial 3, 3) := by decide +kernel
theorem dX5_init_4 : decode cX5_init 4 = .ok (.aload_n 0, 1) := by decide +kernel
theorem dX5_init_5 : decode cX5_init 5 = .ok (.iconst 0, 1) := by decide +kernel
theorem dX5_init_6 : decode cX5_init 6 = .ok (.putfield 9, 3) := by decide +kernel
theorem dX5_init_9 : decode cX5_init 9 = .ok (.aload_n 0, 1) := by decide +kernel
theorem dX5_init_10 : decode cX5_init 10 = .ok (.bipush 10, 2) := by decide +kernel
theorem dX5_init_12 : decode cX5_init 12 = .ok (.newarray .int, 2) := by decide +kernel
theorem dX5_init_14 : decode cX5_init 14 = .ok (.putfield 15, 3) := by decide +kernel
theorem dX5_init_17 : decode cX5_init 17 = .ok (.aload_n 0, 1) := by decide +kernel
theorem dX5_init_18 : decode cX5_init 18 = .ok (.bipush 10, 2) := by decide +kernel
theorem dX5_init_20 : decode cX5_init 20 = .ok (.newarray .int, 2) := by decide +kernel
theorem dX5_init_22 : decode cX5_init 22 = .ok (.putfield 19, 3) := by decide +kernel
theorem dX5_init_25 : decode cX5_init 25 = .ok (.aload_n 0, 1) := by decide +kernel
theorem dX5_init_26 : decode cX5_init 26 = .ok (.bipush 10, 2) := by decide +kernel
theorem dX5_init_28 : decode cX5_init 28 = .ok (.newarray .int, 2) := by decide +kernel
theorem dX5_init_30 : decode cX5_init 30 = .ok (.putfield 22, 3) := by decide +kernel
theorem dX5_init_33 : decode cX5_init 33 = .ok (.aload_n 0, 1) := by decide +kernel
theorem dX5_init_34 : decode cX5_init 34 = .ok (.bipush 10, 2) := by decide +kernel
theorem dX5_init_36 : decode cX5_init 36 = .ok (.newarray .int, 2) := by decide +kernel
theorem dX5_init_38 : decode cX5_init 38 = .ok (.putfield 25, 3) := by decide +kernel
theorem dX5_init_41 : decode cX5_init 41 = .ok (.aload_n 0, 1) := by decide +kernel
theorem dX5_init_42 : decode cX5_init 42 = .ok (.iconst 0, 1) := by decide +kernel
theorem dX5_init_43 : decode cX5_init 43 = .ok (.putfield 28, 3) := by decide +kernel
theorem dX5_init_46 : decode cX5_init 46 = .ok (.aload_n 0, 1) := by decide +kernel
theorem dX5_init_47 : decode cX5_init 47 = .ok (.iconst 0, 1) := by decide +kernel
theorem dX5_init_48 : decode cX5_init 48 = .ok (.putfield 31, 3) := by decide +kernel
theorem dX5_init_51 : decode cX5_init 51 = .ok (.aload_n 0, 1) := by decide +kernel
theorem dX5_init_52 : decode cX5_init 52 = .ok (.iconst 0, 1) := by decide +kernel
theorem dX5_init_53 : decode cX5_init 53 = .ok (.putfield 34, 3) := by decide +kernel
theorem dX5_init_56 : decode cX5_init 56 = .ok (.aload_n 0, 1) := by decide +kernel
theorem dX5_init_57 : decode cX5_init 57 = .ok (.iconst 0, 1) := by decide +kernel
theorem dX5_init_58 : decode cX5_init 58 = .ok (.putfield 37, 3) := by decide +kernel
theorem dX5_init_61 : decode cX5_init 61 = .ok (.aload_n 0, 1) := by decide +kernel
theorem dX5_init_62 : decode cX5_init 62 = .ok (.iconst 1, 1) := by decide +kernel
theorem dX5_init_63 : decode cX5_init 63 = .ok (.putfield 40, 3) := by decide +kernel
theorem dX5_init_66 : decode cX5_init 66 = .ok (.aload_n 0, 1) := by decide +kernel
theorem dX5_init_67 : decode cX5_init 67 = .ok (.new 43, 3) := by decide +kernel
theorem dX5_init_70 : decode cX5_init 70 = .ok (.dup, 1) := by decide +kernel
theorem dX5_init_71 : decode cX5_init 71 = .ok (.invokespecial 45, 3) := by decide +kernel
theorem dX5_init_74 : decode cX5_init 74 = .ok (.putfield 46, 3) := by decide +kernel
theorem dX5_init_77 : decode cX5_init 77 = .ok (.aload_n 0, 1) := by decide +kernel
theorem dX5_init_78 : decode cX5_init 78 = .ok (.bipush 10, 2) := by decide +kernel
theorem dX5_init_80 : decode cX5_init 80 = .ok (.newarray .int, 2) := by decide +kernel
theorem dX5_init_82 : decode cX5_init 82 = .ok (.putfield 50, 3) := by decide +kernel
theorem dX5_init_85 : decode cX5_init 85 = .ok (.return_, 1) := by decide +kernel
theorem dX5_takeFrom_0 : decode cX5_takeFrom 0 = .ok (.aload_n 0, 1) := by decide +kernel
theorem dX5_takeFrom_1 : decode cX5_takeFrom 1 = .ok (.aload_n 1, 1) := by decide +kernel
theorem dX5_takeFrom_2 : decode cX5_takeFrom 2 = .ok (.getfield 9, 3) := by decide +kernel
theorem dX5_takeFrom_5 : decode cX5_takeFrom 5 = .ok (.putfield 9, 3) := by decide +kernel
theorem dX5_takeFrom_8 : decode cX5_takeFrom 8 = .ok (.aload_n 1, 1) := by decide +kernel
theorem dX5_takeFrom_9 : decode cX5_takeFrom 9 = .ok (.getfield 15, 3) := by decide +kernel
theorem dX5_takeFrom_12 : decode cX5_takeFrom 12 = .ok (.iconst 0, 1) := by decide +kernel
theorem dX5_takeFrom_13 : decode cX5_takeFrom 13 = .ok (.aload_n 0, 1) := by decide +kernel
theorem dX5_takeFrom_14 : decode cX5_takeFrom 14 = .ok (.getfield 15, 3) := by decide +kernel
theorem dX5_takeFrom_17 : decode cX5_takeFrom 17 = .ok (.iconst 0, 1) := by decide +kernel
theorem dX5_takeFrom_18 : decode cX5_takeFrom 18 = .ok (.bipush 10, 2) := by decide +kernel
theorem dX5_takeFrom_20 : decode cX5_takeFrom 20 = .ok (.invokestatic 53, 3) := by decide +kernel
theorem dX5_takeFrom_23 : decode cX5_takeFrom 23 = .ok (.aload_n 1, 1) := by decide +kernel
theorem dX5_takeFrom_24 : decode cX5_takeFrom 24 = .ok (.getfield 19, 3) := by decide +kernel
theorem dX5_takeFrom_27 : decode cX5_takeFrom 27 = .ok (.iconst 0, 1) := by decide +kernel
theorem dX5_takeFrom_28 : decode cX5_takeFrom 28 = .ok (.aload_n 0, 1) := by decide +kernel
theorem dX5_takeFrom_29 : decode cX5_takeFrom 29 = .ok (.getfield 19, 3) := by decide +kernel
theorem dX5_takeFrom_32 : decode cX5_takeFrom 32 = .ok (.iconst 0, 1) := by decide +kernel
theorem dX5_takeFrom_33 : decode cX5_takeFrom 33 = .ok (.bipush 10, 2) := by decide +kernel
theorem dX5_takeFrom_35 : decode cX5_takeFrom 35 = .ok (.invokestatic 53, 3) := by decide +kernel
theorem dX5_takeFrom_38 : decode cX5_takeFrom 38 = .ok (.aload_n 1, 1) := by decide +kernel
theorem dX5_takeFrom_39 : decode cX5_takeFrom 39 = .ok (.getfield 22, 3) := by decide +kernel
theorem dX5_takeFrom_42 : decode cX5_takeFrom 42 = .ok (.iconst 0, 1) := by decide +kernel
theorem dX5_takeFrom_43 : decode cX5_takeFrom 43 = .ok (.aload_n 0, 1) := by decide +kernel
theorem dX5_takeFrom_44 : decode cX5_takeFrom 44 = .ok (.getfield 22, 3) := by decide +kernel
theorem dX5_takeFrom_47 : decode cX5_takeFrom 47 = .ok (.iconst 0, 1) := by decide +kernel
theorem dX5_takeFrom_48 : decode cX5_takeFrom 48 = .ok (.bipush 10, 2) := by decide +kernel
theorem dX5_takeFrom_50 : decode cX5_takeFrom 50 = .ok (.invokestatic 53, 3) := by decide +kernel
theorem dX5_takeFrom_53 : decode cX5_takeFrom 53 = .ok (.aload_n 1, 1) := by decide +kernel
theorem dX5_takeFrom_54 : decode cX5_takeFrom 54 = .ok (.getfield 25, 3) := by decide +kernel
theorem dX5_takeFrom_57 : decode cX5_takeFrom 57 = .ok (.iconst 0, 1) := by decide +kernel
theorem dX5_takeFrom_58 : decode cX5_takeFrom 58 = .ok (.aload_n 0, 1) := by decide +kernel
theorem dX5_takeFrom_59 : decode cX5_takeFrom 59 = .ok (.getfield 25, 3) := by decide +kernel
theorem dX5_takeFrom_62 : decode cX5_takeFrom 62 = .ok (.iconst 0, 1) := by decide +kernel
theorem dX5_takeFrom_63 : decode cX5_takeFrom 63 = .ok (.bipush 10, 2) := by decide +kernel
theorem dX5_takeFrom_65 : decode cX5_takeFrom 65 = .ok (.invokestatic 53, 3) := by decide +kernel
theorem dX5_takeFrom_68 : decode cX5_takeFrom 68 = .ok (.aload_n 0, 1) := by decide +kernel
theorem dX5_takeFrom_69 : decode cX5_takeFrom 69 = .ok (.aload_n 1, 1) := by decide +kernel
theorem dX5_takeFrom_70 : decode cX5_takeFrom 70 = .ok (.getfield 28, 3) := by decide +kernel
theorem dX5_takeFrom_73 : decode cX5_takeFrom 73 = .ok (.putfield 28, 3) := by decide +kernel
theorem dX5_takeFrom_76 : decode cX5_takeFrom 76 = .ok (.aload_n 0, 1) := by decide +kernel
theorem dX5_takeFrom_77 : decode cX5_takeFrom 77 = .ok (.aload_n 1, 1) := by decide +kernel
theorem dX5_takeFrom_78 : decode cX5_takeFrom 78 = .ok (.getfield 31, 3) := by decide +kernel
theorem dX5_takeFrom_81 : decode cX5_takeFrom 81 = .ok (.putfield 31, 3) := by decide +kernel
theorem dX5_takeFrom_84 : decode cX5_takeFrom 84 = .ok (.aload_n 0, 1) := by decide +kernel
theorem dX5_takeFrom_85 : decode cX5_takeFrom 85 = .ok (.aload_n 1, 1) := by decide +kernel
theorem dX5_takeFrom_86 : decode cX5_takeFrom 86 = .ok (.getfield 34, 3) := by decide +kernel
theorem dX5_takeFrom_89 : decode cX5_takeFrom 89 = .ok (.putfield 34, 3) := by decide +kernel
theorem dX5_takeFrom_92 : decode cX5_takeFrom 92 = .ok (.aload_n 0, 1) := by decide +kernel
theorem dX5_takeFrom_93 : decode cX5_takeFrom 93 = .ok (.aload_n 1, 1) := by decide +kernel
theorem dX5_takeFrom_94 : decode cX5_takeFrom 94 = .ok (.getfield 37, 3) := by decide +kernel
theorem dX5_takeFrom_97 : decode cX5_takeFrom 97 = .ok (.putfield 37, 3) := by decide +kernel
theorem dX5_takeFrom_100 : decode cX5_takeFrom 100 = .ok (.aload_n 0, 1) := by decide +kernel
theorem dX5_takeFrom_101 : decode cX5_takeFrom 101 = .ok (.aload_n 1, 1) := by decide +kernel
theorem dX5_takeFrom_102 : decode cX5_takeFrom 102 = .ok (.getfield 40, 3) := by decide +kernel
theorem dX5_takeFrom_105 : decode cX5_takeFrom 105 = .ok (.putfield 40, 3) := by decide +kernel
theorem dX5_takeFrom_108 : decode cX5_takeFrom 108 = .ok (.aload_n 0, 1) := by decide +kernel
theorem dX5_takeFrom_109 : decode cX5_takeFrom 109 = .ok (.getfield 46, 3) := by decide +kernel
theorem dX5_takeFrom_112 : decode cX5_takeFrom 112 = .ok (.aload_n 1, 1) := by decide +kernel
theorem dX5_takeFrom_113 : decode cX5_takeFrom 113 = .ok (.getfield 46, 3) := by decide +kernel
theorem dX5_takeFrom_116 : decode cX5_takeFrom 116 = .ok (.invokevirtual 59, 3) := by decide +kernel
theorem dX5_takeFrom_119 : decode cX5_takeFrom 119 = .ok (.return_, 1) := by decide +kernel
theorem dX5_isThing_0 : decode cX5_isThing 0 = .ok (.iload_n 1, 1) := by decide +kernel
theorem dX5_isThing_1 : decode cX5_isThing 1 = .ok (.ifCond .lt 15, 3) := by decide +kernel
theorem dX5_isThing_4 : decode cX5_isThing 4 = .ok (.iload_n 1, 1) := by decide +kernel
theorem dX5_isThing_5 : decode cX5_isThing 5 = .ok (.aload_n 0, 1) := by decide +kernel
theorem dX5_isThing_6 : decode cX5_isThing 6 = .ok (.getfield 9, 3) := by decide +kernel
theorem dX5_isThing_9 : decode cX5_isThing 9 = .ok (.if_icmp .ge 7, 3) := by decide +kernel
theorem dX5_isThing_12 : decode cX5_isThing 12 = .ok (.iconst 1, 1) := by decide +kernel
theorem dX5_isThing_13 : decode cX5_isThing 13 = .ok (.goto 4, 3) := by decide +kernel
theorem dX5_isThing_16 : decode cX5_isThing 16 = .ok (.iconst 0, 1) := by decide +kernel
theorem dX5_isThing_17 : decode cX5_isThing 17 = .ok (.ireturn, 1) := by decide +kernel
theorem dX5_everyThing_0 : decode cX5_everyThing 0 = .ok (.iconst 1, 1) := by decide +kernel
theorem dX5_everyThing_1 : decode cX5_everyThing 1 = .ok (.aload_n 0, 1) := by decide +kernel
theorem dX5_everyThing_2 : decode cX5_everyThing 2 = .ok (.getfield 9, 3) := by decide +kernel
theorem dX5_everyThing_5 : decode cX5_everyThing 5 = .ok (.ishl, 1) := by decide +kernel
theorem dX5_everyThing_6 : decode cX5_everyThing 6 = .ok (.iconst 1, 1) := by decide +kernel
theorem dX5_everyThing_7 : decode cX5_everyThing 7 = .ok (.isub, 1) := by decide +kernel
theorem dX5_everyThing_8 : decode cX5_everyThing 8 = .ok (.ireturn, 1) := by decide +kernel
theorem dX5_areThings_0 : decode cX5_areThings 0 = .ok (.iload_n 1, 1) := by decide +kernel
theorem dX5_areThings_1 : decode cX5_areThings 1 = .ok (.aload_n 0, 1) := by decide +kernel
theorem dX5_areThings_2 : decode cX5_areThings 2 = .ok (.invokevirtual 63, 3) := by decide +kernel
theorem dX5_areThings_5 : decode cX5_areThings 5 = .ok (.iconst (-1), 1) := by decide +kernel
theorem dX5_areThings_6 : decode cX5_areThings 6 = .ok (.ixor, 1) := by decide +kernel
theorem dX5_areThings_7 : decode cX5_areThings 7 = .ok (.iand, 1) := by decide +kernel
theorem dX5_areThings_8 : decode cX5_areThings 8 = .ok (.ifCond .ne 7, 3) := by decide +kernel
theorem dX5_areThings_11 : decode cX5_areThings 11 = .ok (.iconst 1, 1) := by decide +kernel
theorem dX5_areThings_12 : decode cX5_areThings 12 = .ok (.goto 4, 3) := by decide +kernel
theorem dX5_areThings_15 : decode cX5_areThings 15 = .ok (.iconst 0, 1) := by decide +kernel
theorem dX5_areThings_16 : decode cX5_areThings 16 = .ok (.ireturn, 1) := by decide +kernel
theorem dX5_hasRoom_0 : decode cX5_hasRoom 0 = .ok (.aload_n 0, 1) := by decide +kernel
theorem dX5_hasRoom_1 : decode cX5_hasRoom 1 = .ok (.getfield 9, 3) := by decide +kernel
theorem dX5_hasRoom_4 : decode cX5_hasRoom 4 = .ok (.bipush 10, 2) := by decide +kernel
theorem dX5_hasRoom_6 : decode cX5_hasRoom 6 = .ok (.if_icmp .ge 7, 3) := by decide +kernel
theorem dX5_hasRoom_9 : decode cX5_hasRoom 9 = .ok (.iconst 1, 1) := by decide +kernel
theorem dX5_hasRoom_10 : decode cX5_hasRoom 10 = .ok (.goto 4, 3) := by decide +kernel
theorem dX5_hasRoom_13 : decode cX5_hasRoom 13 = .ok (.iconst 0, 1) := by decide +kernel
theorem dX5_hasRoom_14 : decode cX5_hasRoom 14 = .ok (.ireturn, 1) := by decide +kernel
theorem dX5_addThing_0 : decode cX5_addThing 0 = .ok (.aload_n 0, 1) := by decide +kernel
theorem dX5_addThing_1 : decode cX5_addThing 1 = .ok (.getfield 9, 3) := by decide +kernel
theorem dX5_addThing_4 : decode cX5_addThing 4 = .ok (.istore_n 3, 1) := by decide +kernel
theorem dX5_addThing_5 : decode cX5_addThing 5 = .ok (.aload_n 0, 1) := by decide +kernel
theorem dX5_addThing_6 : decode cX5_addThing 6 = .ok (.getfield 15, 3) := by decide +kernel
theorem dX5_addThing_9 : decode cX5_addThing 9 = .ok (.iload_n 3, 1) := by decide +kernel
theorem dX5_addThing_10 : decode cX5_addThing 10 = .ok (.iload_n 1, 1) := by decide +kernel
theorem dX5_addThing_11 : decode cX5_addThing 11 = .ok (.invokestatic 67, 3) := by decide +kernel
theorem dX5_addThing_14 : decode cX5_addThing 14 = .ok (.aload_n 0, 1) := by decide +kernel
theorem dX5_addThing_15 : decode cX5_addThing 15 = .ok (.getfield 19, 3) := by decide +kernel
theorem dX5_addThing_18 : decode cX5_addThing 18 = .ok (.iload_n 3, 1) := by decide +kernel
theorem dX5_addThing_19 : decode cX5_addThing 19 = .ok (.iload_n 2, 1) := by decide +kernel
theorem dX5_addThing_20 : decode cX5_addThing 20 = .ok (.invokestatic 67, 3) := by decide +kernel
theorem dX5_addThing_23 : decode cX5_addThing 23 = .ok (.aload_n 0, 1) := by decide +kernel
theorem dX5_addThing_24 : decode cX5_addThing 24 = .ok (.getfield 22, 3) := by decide +kernel
theorem dX5_addThing_27 : decode cX5_addThing 27 = .ok (.iload_n 3, 1) := by decide +kernel
theorem dX5_addThing_28 : decode cX5_addThing 28 = .ok (.iconst 0, 1) := by decide +kernel
theorem dX5_addThing_29 : decode cX5_addThing 29 = .ok (.invokestatic 67, 3) := by decide +kernel
theorem dX5_addThing_32 : decode cX5_addThing 32 = .ok (.aload_n 0, 1) := by decide +kernel
theorem dX5_addThing_33 : decode cX5_addThing 33 = .ok (.getfield 25, 3) := by decide +kernel
theorem dX5_addThing_36 : decode cX5_addThing 36 = .ok (.iload_n 3, 1) := by decide +kernel
theorem dX5_addThing_37 : decode cX5_addThing 37 = .ok (.iconst 0, 1) := by decide +kernel
theorem dX5_addThing_38 : decode cX5_addThing 38 = .ok (.invokestatic 67, 3) := by decide +kernel
theorem dX5_addThing_41 : decode cX5_addThing 41 = .ok (.aload_n 0, 1) := by decide +kernel
theorem dX5_addThing_42 : decode cX5_addThing 42 = .ok (.dup, 1) := by decide +kernel
theorem dX5_addThing_43 : decode cX5_addThing 43 = .ok (.getfield 28, 3) := by decide +kernel
theorem dX5_addThing_46 : decode cX5_addThing 46 = .ok (.iconst 1, 1) := by decide +kernel
theorem dX5_addThing_47 : decode cX5_addThing 47 = .ok (.iload_n 3, 1) := by decide +kernel
theorem dX5_addThing_48 : decode cX5_addThing 48 = .ok (.ishl, 1) := by decide +kernel
theorem dX5_addThing_49 : decode cX5_addThing 49 = .ok (.ior, 1) := by decide +kernel
theorem dX5_addThing_50 : decode cX5_addThing 50 = .ok (.putfield 28, 3) := by decide +kernel
theorem dX5_addThing_53 : decode cX5_addThing 53 = .ok (.aload_n 0, 1) := by decide +kernel
theorem dX5_addThing_54 : decode cX5_addThing 54 = .ok (.iload_n 3, 1) := by decide +kernel
theorem dX5_addThing_55 : decode cX5_addThing 55 = .ok (.iconst 1, 1) := by decide +kernel
theorem dX5_addThing_56 : decode cX5_addThing 56 = .ok (.iadd, 1) := by decide +kernel
theorem dX5_addThing_57 : decode cX5_addThing 57 = .ok (.putfield 9, 3) := by decide +kernel
theorem dX5_addThing_60 : decode cX5_addThing 60 = .ok (.iload_n 3, 1) := by decide +kernel
theorem dX5_addThing_61 : decode cX5_addThing 61 = .ok (.ireturn, 1) := by decide +kernel
theorem dX5_hangThing_0 : decode cX5_hangThing 0 = .ok (.iconst 1, 1) := by decide +kernel
theorem dX5_hangThing_1 : decode cX5_hangThing 1 = .ok (.iload_n 2, 1) := by decide +kernel
theorem dX5_hangThing_2 : decode cX5_hangThing 2 = .ok (.ishl, 1) := by decide +kernel
theorem dX5_hangThing_3 : decode cX5_hangThing 3 = .ok (.istore 4, 2) := by decide +kernel
theorem dX5_hangThing_5 : decode cX5_hangThing 5 = .ok (.aload_n 0, 1) := by decide +kernel
theorem dX5_hangThing_6 : decode cX5_hangThing 6 = .ok (.getfield 25, 3) := by decide +kernel
theorem dX5_hangThing_9 : decode cX5_hangThing 9 = .ok (.iload_n 1, 1) := by decide +kernel
theorem dX5_hangThing_10 : decode cX5_hangThing 10 = .ok (.invokestatic 71, 3) := by decide +kernel
theorem dX5_hangThing_13 : decode cX5_hangThing 13 = .ok (.istore 5, 2) := by decide +kernel
theorem dX5_hangThing_15 : decode cX5_hangThing 15 = .ok (.aload_n 0, 1) := by decide +kernel
theorem dX5_hangThing_16 : decode cX5_hangThing 16 = .ok (.getfield 25, 3) := by decide +kernel
theorem dX5_hangThing_19 : decode cX5_hangThing 19 = .ok (.iload_n 1, 1) := by decide +kernel
theorem dX5_hangThing_20 : decode cX5_hangThing 20 = .ok (.iload_n 3, 1) := by decide +kernel
theorem dX5_hangThing_21 : decode cX5_hangThing 21 = .ok (.ifCond .eq 11, 3) := by decide +kernel
theorem dX5_hangThing_24 : decode cX5_hangThing 24 = .ok (.iload 5, 2) := by decide +kernel
theorem dX5_hangThing_26 : decode cX5_hangThing 26 = .ok (.iload 4, 2) := by decide +kernel
theorem dX5_hangThing_28 : decode cX5_hangThing 28 = .ok (.ior, 1) := by decide +kernel
theorem dX5_hangThing_29 : decode cX5_hangThing 29 = .ok (.goto 10, 3) := by decide +kernel
theorem dX5_hangThing_32 : decode cX5_hangThing 32 = .ok (.iload 5, 2) := by decide +kernel
theorem dX5_hangThing_34 : decode cX5_hangThing 34 = .ok (.iload 4, 2) := by decide +kernel
theorem dX5_hangThing_36 : decode cX5_hangThing 36 = .ok (.iconst (-1), 1) := by decide +kernel
theorem dX5_hangThing_37 : decode cX5_hangThing 37 = .ok (.ixor, 1) := by decide +kernel
theorem dX5_hangThing_38 : decode cX5_hangThing 38 = .ok (.iand, 1) := by decide +kernel
theorem dX5_hangThing_39 : decode cX5_hangThing 39 = .ok (.invokestatic 67, 3) := by decide +kernel
theorem dX5_hangThing_42 : decode cX5_hangThing 42 = .ok (.return_, 1) := by decide +kernel
theorem dX5_freeThing_0 : decode cX5_freeThing 0 = .ok (.aload_n 0, 1) := by decide +kernel
theorem dX5_freeThing_1 : decode cX5_freeThing 1 = .ok (.getfield 25, 3) := by decide +kernel
theorem dX5_freeThing_4 : decode cX5_freeThing 4 = .ok (.iload_n 1, 1) := by decide +kernel
theorem dX5_freeThing_5 : decode cX5_freeThing 5 = .ok (.iconst 0, 1) := by decide +kernel
theorem dX5_freeThing_6 : decode cX5_freeThing 6 = .ok (.invokestatic 67, 3) := by decide +kernel
theorem dX5_freeThing_9 : decode cX5_freeThing 9 = .ok (.return_, 1) := by decide +kernel
theorem dX5_hungOf_0 : decode cX5_hungOf 0 = .ok (.aload_n 0, 1) := by decide +kernel
theorem dX5_hungOf_1 : decode cX5_hungOf 1 = .ok (.getfield 25, 3) := by decide +kernel
theorem dX5_hungOf_4 : decode cX5_hungOf 4 = .ok (.iload_n 1, 1) := by decide +kernel
theorem dX5_hungOf_5 : decode cX5_hungOf 5 = .ok (.invokestatic 71, 3) := by decide +kernel
theorem dX5_hungOf_8 : decode cX5_hungOf 8 = .ok (.ireturn, 1) := by decide +kernel
theorem dX5_most_0 : decode cX5_most 0 = .ok (.iload_n 0, 1) := by decide +kernel
theorem dX5_most_1 : decode cX5_most 1 = .ok (.tableswitch 35 0 2 #[27, 30, 32], 27) := by decide +kernel
theorem dX5_most_28 : decode cX5_most 28 = .ok (.bipush 99, 2) := by decide +kernel
theorem dX5_most_30 : decode cX5_most 30 = .ok (.ireturn, 1) := by decide +kernel
theorem dX5_most_31 : decode cX5_most 31 = .ok (.iconst 3, 1) := by decide +kernel
theorem dX5_most_32 : decode cX5_most 32 = .ok (.ireturn, 1) := by decide +kernel
theorem dX5_most_33 : decode cX5_most 33 = .ok (.bipush 99, 2) := by decide +kernel
theorem dX5_most_35 : decode cX5_most 35 = .ok (.ireturn, 1) := by decide +kernel
theorem dX5_most_36 : decode cX5_most 36 = .ok (.iconst 1, 1) := by decide +kernel
theorem dX5_most_37 : decode cX5_most 37 = .ok (.ireturn, 1) := by decide +kernel
theorem dX5_partOf_0 : decode cX5_partOf 0 = .ok (.iload_n 2, 1) := by decide +kernel
theorem dX5_partOf_1 : decode cX5_partOf 1 = .ok (.tableswitch 112 0 6 #[43, 52, 61, 70, 79, 85, 98], 43) := by decide +kernel
theorem dX5_partOf_44 : decode cX5_partOf 44 = .ok (.aload_n 0, 1) := by decide +kernel
theorem dX5_partOf_45 : decode cX5_partOf 45 = .ok (.getfield 15, 3) := by decide +kernel
theorem dX5_partOf_48 : decode cX5_partOf 48 = .ok (.iload_n 1, 1) := by decide +kernel
theorem dX5_partOf_49 : decode cX5_partOf 49 = .ok (.invokestatic 71, 3) := by decide +kernel
theorem dX5_partOf_52 : decode cX5_partOf 52 = .ok (.ireturn, 1) := by decide +kernel
theorem dX5_partOf_53 : decode cX5_partOf 53 = .ok (.aload_n 0, 1) := by decide +kernel
theorem dX5_partOf_54 : decode cX5_partOf 54 = .ok (.getfield 19, 3) := by decide +kernel
theorem dX5_partOf_57 : decode cX5_partOf 57 = .ok (.iload_n 1, 1) := by decide +kernel
theorem dX5_partOf_58 : decode cX5_partOf 58 = .ok (.invokestatic 71, 3) := by decide +kernel
theorem dX5_partOf_61 : decode cX5_partOf 61 = .ok (.ireturn, 1) := by decide +kernel
theorem dX5_partOf_62 : decode cX5_partOf 62 = .ok (.aload_n 0, 1) := by decide +kernel
theorem dX5_partOf_63 : decode cX5_partOf 63 = .ok (.getfield 22, 3) := by decide +kernel
theorem dX5_partOf_66 : decode cX5_partOf 66 = .ok (.iload_n 1, 1) := by decide +kernel
theorem dX5_partOf_67 : decode cX5_partOf 67 = .ok (.invokestatic 71, 3) := by decide +kernel
theorem dX5_partOf_70 : decode cX5_partOf 70 = .ok (.ireturn, 1) := by decide +kernel
theorem dX5_partOf_71 : decode cX5_partOf 71 = .ok (.aload_n 0, 1) := by decide +kernel
theorem dX5_partOf_72 : decode cX5_partOf 72 = .ok (.getfield 28, 3) := by decide +kernel
theorem dX5_partOf_75 : decode cX5_partOf 75 = .ok (.iload_n 1, 1) := by decide +kernel
theorem dX5_partOf_76 : decode cX5_partOf 76 = .ok (.invokestatic 75, 3) := by decide +kernel
theorem dX5_partOf_79 : decode cX5_partOf 79 = .ok (.ireturn, 1) := by decide +kernel
theorem dX5_partOf_80 : decode cX5_partOf 80 = .ok (.aload_n 0, 1) := by decide +kernel
theorem dX5_partOf_81 : decode cX5_partOf 81 = .ok (.iload_n 1, 1) := by decide +kernel
theorem dX5_partOf_82 : decode cX5_partOf 82 = .ok (.invokevirtual 79, 3) := by decide +kernel
theorem dX5_partOf_85 : decode cX5_partOf 85 = .ok (.ireturn, 1) := by decide +kernel
theorem dX5_partOf_86 : decode cX5_partOf 86 = .ok (.aload_n 0, 1) := by decide +kernel
theorem dX5_partOf_87 : decode cX5_partOf 87 = .ok (.aload_n 0, 1) := by decide +kernel
theorem dX5_partOf_88 : decode cX5_partOf 88 = .ok (.getfield 28, 3) := by decide +kernel
theorem dX5_partOf_91 : decode cX5_partOf 91 = .ok (.invokevirtual 83, 3) := by decide +kernel
theorem dX5_partOf_94 : decode cX5_partOf 94 = .ok (.iload_n 1, 1) := by decide +kernel
theorem dX5_partOf_95 : decode cX5_partOf 95 = .ok (.invokestatic 75, 3) := by decide +kernel
theorem dX5_partOf_98 : decode cX5_partOf 98 = .ok (.ireturn, 1) := by decide +kernel
theorem dX5_partOf_99 : decode cX5_partOf 99 = .ok (.aload_n 0, 1) := by decide +kernel
theorem dX5_partOf_100 : decode cX5_partOf 100 = .ok (.iload_n 1, 1) := by decide +kernel
theorem dX5_partOf_101 : decode cX5_partOf 101 = .ok (.invokevirtual 86, 3) := by decide +kernel
theorem dX5_partOf_104 : decode cX5_partOf 104 = .ok (.ifCond .eq 7, 3) := by decide +kernel
theorem dX5_partOf_107 : decode cX5_partOf 107 = .ok (.iconst 1, 1) := by decide +kernel
theorem dX5_partOf_108 : decode cX5_partOf 108 = .ok (.goto 4, 3) := by decide +kernel
theorem dX5_partOf_111 : decode cX5_partOf 111 = .ok (.iconst 0, 1) := by decide +kernel
theorem dX5_partOf_112 : decode cX5_partOf 112 = .ok (.ireturn, 1) := by decide +kernel
theorem dX5_partOf_113 : decode cX5_partOf 113 = .ok (.aload_n 0, 1) := by decide +kernel
theorem dX5_partOf_114 : decode cX5_partOf 114 = .ok (.iload_n 1, 1) := by decide +kernel
theorem dX5_partOf_115 : decode cX5_partOf 115 = .ok (.invokevirtual 90, 3) := by decide +kernel
theorem dX5_partOf_118 : decode cX5_partOf 118 = .ok (.ireturn, 1) := by decide +kernel
theorem dX5_changePart_0 : decode cX5_changePart 0 = .ok (.iload_n 2, 1) := by decide +kernel
theorem dX5_changePart_1 : decode cX5_changePart 1 = .ok (.tableswitch 63 0 2 #[27, 39, 51], 27) := by decide +kernel
theorem dX5_changePart_28 : decode cX5_changePart 28 = .ok (.aload_n 0, 1) := by decide +kernel
theorem dX5_changePart_29 : decode cX5_changePart 29 = .ok (.getfield 15, 3) := by decide +kernel
theorem dX5_changePart_32 : decode cX5_changePart 32 = .ok (.iload_n 1, 1) := by decide +kernel
theorem dX5_changePart_33 : decode cX5_changePart 33 = .ok (.iload_n 3, 1) := by decide +kernel
theorem dX5_changePart_34 : decode cX5_changePart 34 = .ok (.invokestatic 67, 3) := by decide +kernel
theorem dX5_changePart_37 : decode cX5_changePart 37 = .ok (.goto 42, 3) := by decide +kernel
theorem dX5_changePart_40 : decode cX5_changePart 40 = .ok (.aload_n 0, 1) := by decide +kernel
theorem dX5_changePart_41 : decode cX5_changePart 41 = .ok (.getfield 19, 3) := by decide +kernel
theorem dX5_changePart_44 : decode cX5_changePart 44 = .ok (.iload_n 1, 1) := by decide +kernel
theorem dX5_changePart_45 : decode cX5_changePart 45 = .ok (.iload_n 3, 1) := by decide +kernel
theorem dX5_changePart_46 : decode cX5_changePart 46 = .ok (.invokestatic 67, 3) := by decide +kernel
theorem dX5_changePart_49 : decode cX5_changePart 49 = .ok (.goto 30, 3) := by decide +kernel
theorem dX5_changePart_52 : decode cX5_changePart 52 = .ok (.aload_n 0, 1) := by decide +kernel
theorem dX5_changePart_53 : decode cX5_changePart 53 = .ok (.getfield 22, 3) := by decide +kernel
theorem dX5_changePart_56 : decode cX5_changePart 56 = .ok (.iload_n 1, 1) := by decide +kernel
theorem dX5_changePart_57 : decode cX5_changePart 57 = .ok (.iload_n 3, 1) := by decide +kernel
theorem dX5_changePart_58 : decode cX5_changePart 58 = .ok (.invokestatic 67, 3) := by decide +kernel
theorem dX5_changePart_61 : decode cX5_changePart 61 = .ok (.goto 18, 3) := by decide +kernel
theorem dX5_changePart_64 : decode cX5_changePart 64 = .ok (.aload_n 0, 1) := by decide +kernel
theorem dX5_changePart_65 : decode cX5_changePart 65 = .ok (.iload_n 1, 1) := by decide +kernel
theorem dX5_changePart_66 : decode cX5_changePart 66 = .ok (.iload_n 3, 1) := by decide +kernel
theorem dX5_changePart_67 : decode cX5_changePart 67 = .ok (.iconst 1, 1) := by decide +kernel
theorem dX5_changePart_68 : decode cX5_changePart 68 = .ok (.if_icmp .ne 7, 3) := by decide +kernel
theorem dX5_changePart_71 : decode cX5_changePart 71 = .ok (.iconst 1, 1) := by decide +kernel
theorem dX5_changePart_72 : decode cX5_changePart 72 = .ok (.goto 4, 3) := by decide +kernel
theorem dX5_changePart_75 : decode cX5_changePart 75 = .ok (.iconst 0, 1) := by decide +kernel
theorem dX5_changePart_76 : decode cX5_changePart 76 = .ok (.invokevirtual 93, 3) := by decide +kernel
theorem dX5_changePart_79 : decode cX5_changePart 79 = .ok (.return_, 1) := by decide +kernel
theorem dX5_tellBeen_0 : decode cX5_tellBeen 0 = .ok (.aload_n 0, 1) := by decide +kernel
theorem dX5_tellBeen_1 : decode cX5_tellBeen 1 = .ok (.iload_n 2, 1) := by decide +kernel
theorem dX5_tellBeen_2 : decode cX5_tellBeen 2 = .ok (.ifCond .eq 14, 3) := by decide +kernel
theorem dX5_tellBeen_5 : decode cX5_tellBeen 5 = .ok (.aload_n 0, 1) := by decide +kernel
theorem dX5_tellBeen_6 : decode cX5_tellBeen 6 = .ok (.getfield 28, 3) := by decide +kernel
theorem dX5_tellBeen_9 : decode cX5_tellBeen 9 = .ok (.iconst 1, 1) := by decide +kernel
theorem dX5_tellBeen_10 : decode cX5_tellBeen 10 = .ok (.iload_n 1, 1) := by decide +kernel
theorem dX5_tellBeen_11 : decode cX5_tellBeen 11 = .ok (.ishl, 1) := by decide +kernel
theorem dX5_tellBeen_12 : decode cX5_tellBeen 12 = .ok (.ior, 1) := by decide +kernel
theorem dX5_tellBeen_13 : decode cX5_tellBeen 13 = .ok (.goto 13, 3) := by decide +kernel
theorem dX5_tellBeen_16 : decode cX5_tellBeen 16 = .ok (.aload_n 0, 1) := by decide +kernel
theorem dX5_tellBeen_17 : decode cX5_tellBeen 17 = .ok (.getfield 28, 3) := by decide +kernel
theorem dX5_tellBeen_20 : decode cX5_tellBeen 20 = .ok (.iconst 1, 1) := by decide +kernel
theorem dX5_tellBeen_21 : decode cX5_tellBeen 21 = .ok (.iload_n 1, 1) := by decide +kernel
theorem dX5_tellBeen_22 : decode cX5_tellBeen 22 = .ok (.ishl, 1) := by decide +kernel
theorem dX5_tellBeen_23 : decode cX5_tellBeen 23 = .ok (.iconst (-1), 1) := by decide +kernel
theorem dX5_tellBeen_24 : decode cX5_tellBeen 24 = .ok (.ixor, 1) := by decide +kernel
theorem dX5_tellBeen_25 : decode cX5_tellBeen 25 = .ok (.iand, 1) := by decide +kernel
theorem dX5_tellBeen_26 : decode cX5_tellBeen 26 = .ok (.putfield 28, 3) := by decide +kernel
theorem dX5_tellBeen_29 : decode cX5_tellBeen 29 = .ok (.return_, 1) := by decide +kernel
theorem dX5_mostTold_0 : decode cX5_mostTold 0 = .ok (.iload_n 0, 1) := by decide +kernel
theorem dX5_mostTold_1 : decode cX5_mostTold 1 = .ok (.ifCond .ne 7, 3) := by decide +kernel
theorem dX5_mostTold_4 : decode cX5_mostTold 4 = .ok (.iconst 3, 1) := by decide +kernel
theorem dX5_mostTold_5 : decode cX5_mostTold 5 = .ok (.goto 17, 3) := by decide +kernel
theorem dX5_mostTold_8 : decode cX5_mostTold 8 = .ok (.iload_n 0, 1) := by decide +kernel
theorem dX5_mostTold_9 : decode cX5_mostTold 9 = .ok (.iconst 1, 1) := by decide +kernel
theorem dX5_mostTold_10 : decode cX5_mostTold 10 = .ok (.if_icmp .ne 9, 3) := by decide +kernel
theorem dX5_mostTold_13 : decode cX5_mostTold 13 = .ok (.sipush 999, 3) := by decide +kernel
theorem dX5_mostTold_16 : decode cX5_mostTold 16 = .ok (.goto 6, 3) := by decide +kernel
theorem dX5_mostTold_19 : decode cX5_mostTold 19 = .ok (.sipush 255, 3) := by decide +kernel
theorem dX5_mostTold_22 : decode cX5_mostTold 22 = .ok (.ireturn, 1) := by decide +kernel
theorem dX5_toldOf_0 : decode cX5_toldOf 0 = .ok (.iload_n 1, 1) := by decide +kernel
theorem dX5_toldOf_1 : decode cX5_toldOf 1 = .ok (.ifCond .ne 10, 3) := by decide +kernel
theorem dX5_toldOf_4 : decode cX5_toldOf 4 = .ok (.aload_n 0, 1) := by decide +kernel
theorem dX5_toldOf_5 : decode cX5_toldOf 5 = .ok (.getfield 31, 3) := by decide +kernel
theorem dX5_toldOf_8 : decode cX5_toldOf 8 = .ok (.goto 19, 3) := by decide +kernel
theorem dX5_toldOf_11 : decode cX5_toldOf 11 = .ok (.iload_n 1, 1) := by decide +kernel
theorem dX5_toldOf_12 : decode cX5_toldOf 12 = .ok (.iconst 1, 1) := by decide +kernel
theorem dX5_toldOf_13 : decode cX5_toldOf 13 = .ok (.if_icmp .ne 10, 3) := by decide +kernel
theorem dX5_toldOf_16 : decode cX5_toldOf 16 = .ok (.aload_n 0, 1) := by decide +kernel
theorem dX5_toldOf_17 : decode cX5_toldOf 17 = .ok (.getfield 34, 3) := by decide +kernel
theorem dX5_toldOf_20 : decode cX5_toldOf 20 = .ok (.goto 7, 3) := by decide +kernel
theorem dX5_toldOf_23 : decode cX5_toldOf 23 = .ok (.aload_n 0, 1) := by decide +kernel
theorem dX5_toldOf_24 : decode cX5_toldOf 24 = .ok (.getfield 37, 3) := by decide +kernel
theorem dX5_toldOf_27 : decode cX5_toldOf 27 = .ok (.ireturn, 1) := by decide +kernel
theorem dX5_changeTold_0 : decode cX5_changeTold 0 = .ok (.iload_n 1, 1) := by decide +kernel
theorem dX5_changeTold_1 : decode cX5_changeTold 1 = .ok (.lookupswitch 43 #[(0, 27), (1, 35)], 27) := by decide +kernel
theorem dX5_changeTold_28 : decode cX5_changeTold 28 = .ok (.aload_n 0, 1) := by decide +kernel
theorem dX5_changeTold_29 : decode cX5_changeTold 29 = .ok (.iload_n 2, 1) := by decide +kernel
theorem dX5_changeTold_30 : decode cX5_changeTold 30 = .ok (.putfield 31, 3) := by decide +kernel
theorem dX5_changeTold_33 : decode cX5_changeTold 33 = .ok (.goto 16, 3) := by decide +kernel
theorem dX5_changeTold_36 : decode cX5_changeTold 36 = .ok (.aload_n 0, 1) := by decide +kernel
theorem dX5_changeTold_37 : decode cX5_changeTold 37 = .ok (.iload_n 2, 1) := by decide +kernel
theorem dX5_changeTold_38 : decode cX5_changeTold 38 = .ok (.putfield 34, 3) := by decide +kernel
theorem dX5_changeTold_41 : decode cX5_changeTold 41 = .ok (.goto 8, 3) := by decide +kernel
theorem dX5_changeTold_44 : decode cX5_changeTold 44 = .ok (.aload_n 0, 1) := by decide +kernel
theorem dX5_changeTold_45 : decode cX5_changeTold 45 = .ok (.iload_n 2, 1) := by decide +kernel
theorem dX5_changeTold_46 : decode cX5_changeTold 46 = .ok (.putfield 37, 3) := by decide +kernel
theorem dX5_changeTold_49 : decode cX5_changeTold 49 = .ok (.return_, 1) := by decide +kernel
theorem dX5_isOpen_0 : decode cX5_isOpen 0 = .ok (.aload_n 0, 1) := by decide +kernel
theorem dX5_isOpen_1 : decode cX5_isOpen 1 = .ok (.getfield 37, 3) := by decide +kernel
theorem dX5_isOpen_4 : decode cX5_isOpen 4 = .ok (.iload_n 1, 1) := by decide +kernel
theorem dX5_isOpen_5 : decode cX5_isOpen 5 = .ok (.bipush 8, 2) := by decide +kernel
theorem dX5_isOpen_7 : decode cX5_isOpen 7 = .ok (.irem, 1) := by decide +kernel
theorem dX5_isOpen_8 : decode cX5_isOpen 8 = .ok (.invokestatic 97, 3) := by decide +kernel
theorem dX5_isOpen_11 : decode cX5_isOpen 11 = .ok (.ifCond .ne 7, 3) := by decide +kernel
theorem dX5_isOpen_14 : decode cX5_isOpen 14 = .ok (.iconst 1, 1) := by decide +kernel
theorem dX5_isOpen_15 : decode cX5_isOpen 15 = .ok (.goto 4, 3) := by decide +kernel
theorem dX5_isOpen_18 : decode cX5_isOpen 18 = .ok (.iconst 0, 1) := by decide +kernel
theorem dX5_isOpen_19 : decode cX5_isOpen 19 = .ok (.ireturn, 1) := by decide +kernel
theorem dX5_mayBeRung_0 : decode cX5_mayBeRung 0 = .ok (.aload_n 0, 1) := by decide +kernel
theorem dX5_mayBeRung_1 : decode cX5_mayBeRung 1 = .ok (.iload_n 1, 1) := by decide +kernel
theorem dX5_mayBeRung_2 : decode cX5_mayBeRung 2 = .ok (.invokevirtual 86, 3) := by decide +kernel
theorem dX5_mayBeRung_5 : decode cX5_mayBeRung 5 = .ok (.ifCond .ne 5, 3) := by decide +kernel
theorem dX5_mayBeRung_8 : decode cX5_mayBeRung 8 = .ok (.iconst 0, 1) := by decide +kernel
theorem dX5_mayBeRung_9 : decode cX5_mayBeRung 9 = .ok (.ireturn, 1) := by decide +kernel
theorem dX5_mayBeRung_10 : decode cX5_mayBeRung 10 = .ok (.aload_n 0, 1) := by decide +kernel
theorem dX5_mayBeRung_11 : decode cX5_mayBeRung 11 = .ok (.getfield 28, 3) := by decide +kernel
theorem dX5_mayBeRung_14 : decode cX5_mayBeRung 14 = .ok (.iload_n 1, 1) := by decide +kernel
theorem dX5_mayBeRung_15 : decode cX5_mayBeRung 15 = .ok (.invokestatic 97, 3) := by decide +kernel
theorem dX5_mayBeRung_18 : decode cX5_mayBeRung 18 = .ok (.ifCond .ne 5, 3) := by decide +kernel
theorem dX5_mayBeRung_21 : decode cX5_mayBeRung 21 = .ok (.iconst 2, 1) := by decide +kernel
theorem dX5_mayBeRung_22 : decode cX5_mayBeRung 22 = .ok (.ireturn, 1) := by decide +kernel
theorem dX5_mayBeRung_23 : decode cX5_mayBeRung 23 = .ok (.aload_n 0, 1) := by decide +kernel
theorem dX5_mayBeRung_24 : decode cX5_mayBeRung 24 = .ok (.getfield 19, 3) := by decide +kernel
theorem dX5_mayBeRung_27 : decode cX5_mayBeRung 27 = .ok (.iload_n 1, 1) := by decide +kernel
theorem dX5_mayBeRung_28 : decode cX5_mayBeRung 28 = .ok (.invokestatic 71, 3) := by decide +kernel
theorem dX5_mayBeRung_31 : decode cX5_mayBeRung 31 = .ok (.aload_n 0, 1) := by decide +kernel
theorem dX5_mayBeRung_32 : decode cX5_mayBeRung 32 = .ok (.getfield 31, 3) := by decide +kernel
theorem dX5_mayBeRung_35 : decode cX5_mayBeRung 35 = .ok (.if_icmp .ne 7, 3) := by decide +kernel
theorem dX5_mayBeRung_38 : decode cX5_mayBeRung 38 = .ok (.iconst 1, 1) := by decide +kernel
theorem dX5_mayBeRung_39 : decode cX5_mayBeRung 39 = .ok (.goto 4, 3) := by decide +kernel
theorem dX5_mayBeRung_42 : decode cX5_mayBeRung 42 = .ok (.iconst 0, 1) := by decide +kernel
theorem dX5_mayBeRung_43 : decode cX5_mayBeRung 43 = .ok (.ireturn, 1) := by decide +kernel
theorem dX5_allThatMay_0 : decode cX5_allThatMay 0 = .ok (.iconst 0, 1) := by decide +kernel
theorem dX5_allThatMay_1 : decode cX5_allThatMay 1 = .ok (.istore_n 2, 1) := by decide +kernel
theorem dX5_allThatMay_2 : decode cX5_allThatMay 2 = .ok (.iconst 0, 1) := by decide +kernel
theorem dX5_allThatMay_3 : decode cX5_allThatMay 3 = .ok (.istore_n 3, 1) := by decide +kernel
theorem dX5_allThatMay_4 : decode cX5_allThatMay 4 = .ok (.iload_n 3, 1) := by decide +kernel
theorem dX5_allThatMay_5 : decode cX5_allThatMay 5 = .ok (.aload_n 0, 1) := by decide +kernel
theorem dX5_allThatMay_6 : decode cX5_allThatMay 6 = .ok (.getfield 9, 3) := by decide +kernel
theorem dX5_allThatMay_9 : decode cX5_allThatMay 9 = .ok (.if_icmp .ge 24, 3) := by decide +kernel
theorem dX5_allThatMay_12 : decode cX5_allThatMay 12 = .ok (.aload_n 0, 1) := by decide +kernel
theorem dX5_allThatMay_13 : decode cX5_allThatMay 13 = .ok (.iload_n 3, 1) := by decide +kernel
theorem dX5_allThatMay_14 : decode cX5_allThatMay 14 = .ok (.invokevirtual 90, 3) := by decide +kernel
theorem dX5_allThatMay_17 : decode cX5_allThatMay 17 = .ok (.iload_n 1, 1) := by decide +kernel
theorem dX5_allThatMay_18 : decode cX5_allThatMay 18 = .ok (.if_icmp .ne 9, 3) := by decide +kernel
theorem dX5_allThatMay_21 : decode cX5_allThatMay 21 = .ok (.iload_n 2, 1) := by decide +kernel
theorem dX5_allThatMay_22 : decode cX5_allThatMay 22 = .ok (.iconst 1, 1) := by decide +kernel
theorem dX5_allThatMay_23 : decode cX5_allThatMay 23 = .ok (.iload_n 3, 1) := by decide +kernel
theorem dX5_allThatMay_24 : decode cX5_allThatMay 24 = .ok (.ishl, 1) := by decide +kernel
theorem dX5_allThatMay_25 : decode cX5_allThatMay 25 = .ok (.ior, 1) := by decide +kernel
theorem dX5_allThatMay_26 : decode cX5_allThatMay 26 = .ok (.istore_n 2, 1) := by decide +kernel
theorem dX5_allThatMay_27 : decode cX5_allThatMay 27 = .ok (.iinc 3 1, 3) := by decide +kernel
theorem dX5_allThatMay_30 : decode cX5_allThatMay 30 = .ok (.goto (-26), 3) := by decide +kernel
theorem dX5_allThatMay_33 : decode cX5_allThatMay 33 = .ok (.iload_n 2, 1) := by decide +kernel
theorem dX5_allThatMay_34 : decode cX5_allThatMay 34 = .ok (.ireturn, 1) := by decide +kernel
theorem dX5_ringThing_0 : decode cX5_ringThing 0 = .ok (.aload_n 0, 1) := by decide +kernel
theorem dX5_ringThing_1 : decode cX5_ringThing 1 = .ok (.getfield 28, 3) := by decide +kernel
theorem dX5_ringThing_4 : decode cX5_ringThing 4 = .ok (.iload_n 1, 1) := by decide +kernel
theorem dX5_ringThing_5 : decode cX5_ringThing 5 = .ok (.invokestatic 97, 3) := by decide +kernel
theorem dX5_ringThing_8 : decode cX5_ringThing 8 = .ok (.ifCond .eq 10, 3) := by decide +kernel
theorem dX5_ringThing_11 : decode cX5_ringThing 11 = .ok (.aload_n 0, 1) := by decide +kernel
theorem dX5_ringThing_12 : decode cX5_ringThing 12 = .ok (.iload_n 1, 1) := by decide +kernel
theorem dX5_ringThing_13 : decode cX5_ringThing 13 = .ok (.iconst 0, 1) := by decide +kernel
theorem dX5_ringThing_14 : decode cX5_ringThing 14 = .ok (.invokevirtual 93, 3) := by decide +kernel
theorem dX5_ringThing_17 : decode cX5_ringThing 17 = .ok (.return_, 1) := by decide +kernel
theorem dX5_ringThing_18 : decode cX5_ringThing 18 = .ok (.aload_n 0, 1) := by decide +kernel
theorem dX5_ringThing_19 : decode cX5_ringThing 19 = .ok (.iload_n 1, 1) := by decide +kernel
theorem dX5_ringThing_20 : decode cX5_ringThing 20 = .ok (.iconst 1, 1) := by decide +kernel
theorem dX5_ringThing_21 : decode cX5_ringThing 21 = .ok (.invokevirtual 93, 3) := by decide +kernel
theorem dX5_ringThing_24 : decode cX5_ringThing 24 = .ok (.aload_n 0, 1) := by decide +kernel
theorem dX5_ringThing_25 : decode cX5_ringThing 25 = .ok (.getfield 19, 3) := by decide +kernel
theorem dX5_ringThing_28 : decode cX5_ringThing 28 = .ok (.iload_n 1, 1) := by decide +kernel
theorem dX5_ringThing_29 : decode cX5_ringThing 29 = .ok (.aload_n 0, 1) := by decide +kernel
theorem dX5_ringThing_30 : decode cX5_ringThing 30 = .ok (.getfield 31, 3) := by decide +kernel
theorem dX5_ringThing_33 : decode cX5_ringThing 33 = .ok (.invokestatic 67, 3) := by decide +kernel
theorem dX5_ringThing_36 : decode cX5_ringThing 36 = .ok (.aload_n 0, 1) := by decide +kernel
theorem dX5_ringThing_37 : decode cX5_ringThing 37 = .ok (.getfield 22, 3) := by decide +kernel
theorem dX5_ringThing_40 : decode cX5_ringThing 40 = .ok (.iload_n 1, 1) := by decide +kernel
theorem dX5_ringThing_41 : decode cX5_ringThing 41 = .ok (.iconst 0, 1) := by decide +kernel
theorem dX5_ringThing_42 : decode cX5_ringThing 42 = .ok (.aload_n 0, 1) := by decide +kernel
theorem dX5_ringThing_43 : decode cX5_ringThing 43 = .ok (.getfield 22, 3) := by decide +kernel
theorem dX5_ringThing_46 : decode cX5_ringThing 46 = .ok (.iload_n 1, 1) := by decide +kernel
theorem dX5_ringThing_47 : decode cX5_ringThing 47 = .ok (.invokestatic 71, 3) := by decide +kernel
theorem dX5_ringThing_50 : decode cX5_ringThing 50 = .ok (.iconst 1, 1) := by decide +kernel
theorem dX5_ringThing_51 : decode cX5_ringThing 51 = .ok (.isub, 1) := by decide +kernel
theorem dX5_ringThing_52 : decode cX5_ringThing 52 = .ok (.invokestatic 101, 3) := by decide +kernel
theorem dX5_ringThing_55 : decode cX5_ringThing 55 = .ok (.invokestatic 67, 3) := by decide +kernel
theorem dX5_ringThing_58 : decode cX5_ringThing 58 = .ok (.return_, 1) := by decide +kernel
theorem dX5_passDay_0 : decode cX5_passDay 0 = .ok (.aload_n 0, 1) := by decide +kernel
theorem dX5_passDay_1 : decode cX5_passDay 1 = .ok (.aload_n 0, 1) := by decide +kernel
theorem dX5_passDay_2 : decode cX5_passDay 2 = .ok (.getfield 31, 3) := by decide +kernel
theorem dX5_passDay_5 : decode cX5_passDay 5 = .ok (.iconst 1, 1) := by decide +kernel
theorem dX5_passDay_6 : decode cX5_passDay 6 = .ok (.iadd, 1) := by decide +kernel
theorem dX5_passDay_7 : decode cX5_passDay 7 = .ok (.iconst 4, 1) := by decide +kernel
theorem dX5_passDay_8 : decode cX5_passDay 8 = .ok (.irem, 1) := by decide +kernel
theorem dX5_passDay_9 : decode cX5_passDay 9 = .ok (.putfield 31, 3) := by decide +kernel
theorem dX5_passDay_12 : decode cX5_passDay 12 = .ok (.return_, 1) := by decide +kernel
theorem dX5_draw_0 : decode cX5_draw 0 = .ok (.iload_n 1, 1) := by decide +kernel
theorem dX5_draw_1 : decode cX5_draw 1 = .ok (.ifCond .gt 5, 3) := by decide +kernel
theorem dX5_draw_4 : decode cX5_draw 4 = .ok (.iconst 0, 1) := by decide +kernel
theorem dX5_draw_5 : decode cX5_draw 5 = .ok (.ireturn, 1) := by decide +kernel
theorem dX5_draw_6 : decode cX5_draw 6 = .ok (.aload_n 0, 1) := by decide +kernel
theorem dX5_draw_7 : decode cX5_draw 7 = .ok (.aload_n 0, 1) := by decide +kernel
theorem dX5_draw_8 : decode cX5_draw 8 = .ok (.getfield 40, 3) := by decide +kernel
theorem dX5_draw_11 : decode cX5_draw 11 = .ok (.ldc 106, 2) := by decide +kernel
theorem dX5_draw_13 : decode cX5_draw 13 = .ok (.imul, 1) := by decide +kernel
theorem dX5_draw_14 : decode cX5_draw 14 = .ok (.sipush 12345, 3) := by decide +kernel
theorem dX5_draw_17 : decode cX5_draw 17 = .ok (.iadd, 1) := by decide +kernel
theorem dX5_draw_18 : decode cX5_draw 18 = .ok (.putfield 40, 3) := by decide +kernel
theorem dX5_draw_21 : decode cX5_draw 21 = .ok (.aload_n 0, 1) := by decide +kernel
theorem dX5_draw_22 : decode cX5_draw 22 = .ok (.getfield 40, 3) := by decide +kernel
theorem dX5_draw_25 : decode cX5_draw 25 = .ok (.bipush 16, 2) := by decide +kernel
theorem dX5_draw_27 : decode cX5_draw 27 = .ok (.iushr, 1) := by decide +kernel
theorem dX5_draw_28 : decode cX5_draw 28 = .ok (.iload_n 1, 1) := by decide +kernel
theorem dX5_draw_29 : decode cX5_draw 29 = .ok (.irem, 1) := by decide +kernel
theorem dX5_draw_30 : decode cX5_draw 30 = .ok (.ireturn, 1) := by decide +kernel
theorem dX5_passYearByDraws_0 : decode cX5_passYearByDraws 0 = .ok (.aload_n 0, 1) := by decide +kernel
theorem dX5_passYearByDraws_1 : decode cX5_passYearByDraws 1 = .ok (.sipush 999, 3) := by decide +kernel
theorem dX5_passYearByDraws_4 : decode cX5_passYearByDraws 4 = .ok (.aload_n 0, 1) := by decide +kernel
theorem dX5_passYearByDraws_5 : decode cX5_passYearByDraws 5 = .ok (.getfield 34, 3) := by decide +kernel
theorem dX5_passYearByDraws_8 : decode cX5_passYearByDraws 8 = .ok (.iconst 1, 1) := by decide +kernel
theorem dX5_passYearByDraws_9 : decode cX5_passYearByDraws 9 = .ok (.iadd, 1) := by decide +kernel
theorem dX5_passYearByDraws_10 : decode cX5_passYearByDraws 10 = .ok (.invokestatic 107, 3) := by decide +kernel
theorem dX5_passYearByDraws_13 : decode cX5_passYearByDraws 13 = .ok (.putfield 34, 3) := by decide +kernel
theorem dX5_passYearByDraws_16 : decode cX5_passYearByDraws 16 = .ok (.iconst 0, 1) := by decide +kernel
theorem dX5_passYearByDraws_17 : decode cX5_passYearByDraws 17 = .ok (.istore_n 1, 1) := by decide +kernel
theorem dX5_passYearByDraws_18 : decode cX5_passYearByDraws 18 = .ok (.iload_n 1, 1) := by decide +kernel
theorem dX5_passYearByDraws_19 : decode cX5_passYearByDraws 19 = .ok (.aload_n 0, 1) := by decide +kernel
theorem dX5_passYearByDraws_20 : decode cX5_passYearByDraws 20 = .ok (.getfield 22, 3) := by decide +kernel
theorem dX5_passYearByDraws_23 : decode cX5_passYearByDraws 23 = .ok (.arraylength, 1) := by decide +kernel
theorem dX5_passYearByDraws_24 : decode cX5_passYearByDraws 24 = .ok (.if_icmp .ge 39, 3) := by decide +kernel
theorem dX5_passYearByDraws_27 : decode cX5_passYearByDraws 27 = .ok (.aload_n 0, 1) := by decide +kernel
theorem dX5_passYearByDraws_28 : decode cX5_passYearByDraws 28 = .ok (.getfield 28, 3) := by decide +kernel
theorem dX5_passYearByDraws_31 : decode cX5_passYearByDraws 31 = .ok (.iload_n 1, 1) := by decide +kernel
theorem dX5_passYearByDraws_32 : decode cX5_passYearByDraws 32 = .ok (.invokestatic 97, 3) := by decide +kernel
theorem dX5_passYearByDraws_35 : decode cX5_passYearByDraws 35 = .ok (.ifCond .eq 22, 3) := by decide +kernel
theorem dX5_passYearByDraws_38 : decode cX5_passYearByDraws 38 = .ok (.aload_n 0, 1) := by decide +kernel
theorem dX5_passYearByDraws_39 : decode cX5_passYearByDraws 39 = .ok (.getfield 22, 3) := by decide +kernel
theorem dX5_passYearByDraws_42 : decode cX5_passYearByDraws 42 = .ok (.iload_n 1, 1) := by decide +kernel
theorem dX5_passYearByDraws_43 : decode cX5_passYearByDraws 43 = .ok (.bipush 99, 2) := by decide +kernel
theorem dX5_passYearByDraws_45 : decode cX5_passYearByDraws 45 = .ok (.aload_n 0, 1) := by decide +kernel
theorem dX5_passYearByDraws_46 : decode cX5_passYearByDraws 46 = .ok (.getfield 22, 3) := by decide +kernel
theorem dX5_passYearByDraws_49 : decode cX5_passYearByDraws 49 = .ok (.iload_n 1, 1) := by decide +kernel
theorem dX5_passYearByDraws_50 : decode cX5_passYearByDraws 50 = .ok (.iaload, 1) := by decide +kernel
theorem dX5_passYearByDraws_51 : decode cX5_passYearByDraws 51 = .ok (.iconst 1, 1) := by decide +kernel
theorem dX5_passYearByDraws_52 : decode cX5_passYearByDraws 52 = .ok (.iadd, 1) := by decide +kernel
theorem dX5_passYearByDraws_53 : decode cX5_passYearByDraws 53 = .ok (.invokestatic 107, 3) := by decide +kernel
theorem dX5_passYearByDraws_56 : decode cX5_passYearByDraws 56 = .ok (.iastore, 1) := by decide +kernel
theorem dX5_passYearByDraws_57 : decode cX5_passYearByDraws 57 = .ok (.iinc 1 1, 3) := by decide +kernel
theorem dX5_passYearByDraws_60 : decode cX5_passYearByDraws 60 = .ok (.goto (-42), 3) := by decide +kernel
theorem dX5_passYearByDraws_63 : decode cX5_passYearByDraws 63 = .ok (.aload_n 0, 1) := by decide +kernel
theorem dX5_passYearByDraws_64 : decode cX5_passYearByDraws 64 = .ok (.aload_n 0, 1) := by decide +kernel
theorem dX5_passYearByDraws_65 : decode cX5_passYearByDraws 65 = .ok (.iconst 4, 1) := by decide +kernel
theorem dX5_passYearByDraws_66 : decode cX5_passYearByDraws 66 = .ok (.invokevirtual 110, 3) := by decide +kernel
theorem dX5_passYearByDraws_69 : decode cX5_passYearByDraws 69 = .ok (.putfield 31, 3) := by decide +kernel
theorem dX5_passYearByDraws_72 : decode cX5_passYearByDraws 72 = .ok (.aload_n 0, 1) := by decide +kernel
theorem dX5_passYearByDraws_73 : decode cX5_passYearByDraws 73 = .ok (.invokevirtual 113, 3) := by decide +kernel
theorem dX5_passYearByDraws_76 : decode cX5_passYearByDraws 76 = .ok (.istore_n 1, 1) := by decide +kernel
theorem dX5_passYearByDraws_77 : decode cX5_passYearByDraws 77 = .ok (.aload_n 0, 1) := by decide +kernel
theorem dX5_passYearByDraws_78 : decode cX5_passYearByDraws 78 = .ok (.bipush 8, 2) := by decide +kernel
theorem dX5_passYearByDraws_80 : decode cX5_passYearByDraws 80 = .ok (.invokevirtual 110, 3) := by decide +kernel
theorem dX5_passYearByDraws_83 : decode cX5_passYearByDraws 83 = .ok (.istore_n 2, 1) := by decide +kernel
theorem dX5_passYearByDraws_84 : decode cX5_passYearByDraws 84 = .ok (.aload_n 0, 1) := by decide +kernel
theorem dX5_passYearByDraws_85 : decode cX5_passYearByDraws 85 = .ok (.bipush 10, 2) := by decide +kernel
theorem dX5_passYearByDraws_87 : decode cX5_passYearByDraws 87 = .ok (.invokevirtual 110, 3) := by decide +kernel
theorem dX5_passYearByDraws_90 : decode cX5_passYearByDraws 90 = .ok (.ifCond .ne 15, 3) := by decide +kernel
theorem dX5_passYearByDraws_93 : decode cX5_passYearByDraws 93 = .ok (.aload_n 0, 1) := by decide +kernel
theorem dX5_passYearByDraws_94 : decode cX5_passYearByDraws 94 = .ok (.dup, 1) := by decide +kernel
theorem dX5_passYearByDraws_95 : decode cX5_passYearByDraws 95 = .ok (.getfield 37, 3) := by decide +kernel
theorem dX5_passYearByDraws_98 : decode cX5_passYearByDraws 98 = .ok (.iconst 1, 1) := by decide +kernel
theorem dX5_passYearByDraws_99 : decode cX5_passYearByDraws 99 = .ok (.iload_n 2, 1) := by decide +kernel
theorem dX5_passYearByDraws_100 : decode cX5_passYearByDraws 100 = .ok (.ishl, 1) := by decide +kernel
theorem dX5_passYearByDraws_101 : decode cX5_passYearByDraws 101 = .ok (.ior, 1) := by decide +kernel
theorem dX5_passYearByDraws_102 : decode cX5_passYearByDraws 102 = .ok (.putfield 37, 3) := by decide +kernel
theorem dX5_passYearByDraws_105 : decode cX5_passYearByDraws 105 = .ok (.iload_n 1, 1) := by decide +kernel
theorem dX5_passYearByDraws_106 : decode cX5_passYearByDraws 106 = .ok (.ireturn, 1) := by decide +kernel
theorem dX5_ringByDraws_0 : decode cX5_ringByDraws 0 = .ok (.aload_n 0, 1) := by decide +kernel
theorem dX5_ringByDraws_1 : decode cX5_ringByDraws 1 = .ok (.aload_n 0, 1) := by decide +kernel
theorem dX5_ringByDraws_2 : decode cX5_ringByDraws 2 = .ok (.getfield 9, 3) := by decide +kernel
theorem dX5_ringByDraws_5 : decode cX5_ringByDraws 5 = .ok (.invokevirtual 110, 3) := by decide +kernel
theorem dX5_ringByDraws_8 : decode cX5_ringByDraws 8 = .ok (.istore_n 1, 1) := by decide +kernel
theorem dX5_ringByDraws_9 : decode cX5_ringByDraws 9 = .ok (.aload_n 0, 1) := by decide +kernel
theorem dX5_ringByDraws_10 : decode cX5_ringByDraws 10 = .ok (.getfield 46, 3) := by decide +kernel
theorem dX5_ringByDraws_13 : decode cX5_ringByDraws 13 = .ok (.getfield 116, 3) := by decide +kernel
theorem dX5_ringByDraws_16 : decode cX5_ringByDraws 16 = .ok (.ifCond .le 43, 3) := by decide +kernel
theorem dX5_ringByDraws_19 : decode cX5_ringByDraws 19 = .ok (.aload_n 0, 1) := by decide +kernel
theorem dX5_ringByDraws_20 : decode cX5_ringByDraws 20 = .ok (.aload_n 0, 1) := by decide +kernel
theorem dX5_ringByDraws_21 : decode cX5_ringByDraws 21 = .ok (.getfield 46, 3) := by decide +kernel
theorem dX5_ringByDraws_24 : decode cX5_ringByDraws 24 = .ok (.getfield 116, 3) := by decide +kernel
theorem dX5_ringByDraws_27 : decode cX5_ringByDraws 27 = .ok (.invokevirtual 110, 3) := by decide +kernel
theorem dX5_ringByDraws_30 : decode cX5_ringByDraws 30 = .ok (.istore_n 2, 1) := by decide +kernel
theorem dX5_ringByDraws_31 : decode cX5_ringByDraws 31 = .ok (.aload_n 0, 1) := by decide +kernel
theorem dX5_ringByDraws_32 : decode cX5_ringByDraws 32 = .ok (.bipush 100, 2) := by decide +kernel
theorem dX5_ringByDraws_34 : decode cX5_ringByDraws 34 = .ok (.invokevirtual 110, 3) := by decide +kernel
theorem dX5_ringByDraws_37 : decode cX5_ringByDraws 37 = .ok (.aload_n 0, 1) := by decide +kernel
theorem dX5_ringByDraws_38 : decode cX5_ringByDraws 38 = .ok (.getfield 46, 3) := by decide +kernel
theorem dX5_ringByDraws_41 : decode cX5_ringByDraws 41 = .ok (.iload_n 2, 1) := by decide +kernel
theorem dX5_ringByDraws_42 : decode cX5_ringByDraws 42 = .ok (.aload_n 0, 1) := by decide +kernel
theorem dX5_ringByDraws_43 : decode cX5_ringByDraws 43 = .ok (.getfield 37, 3) := by decide +kernel
theorem dX5_ringByDraws_46 : decode cX5_ringByDraws 46 = .ok (.invokevirtual 119, 3) := by decide +kernel
theorem dX5_ringByDraws_49 : decode cX5_ringByDraws 49 = .ok (.if_icmp .ge 10, 3) := by decide +kernel
theorem dX5_ringByDraws_52 : decode cX5_ringByDraws 52 = .ok (.aload_n 0, 1) := by decide +kernel
theorem dX5_ringByDraws_53 : decode cX5_ringByDraws 53 = .ok (.iload_n 1, 1) := by decide +kernel
theorem dX5_ringByDraws_54 : decode cX5_ringByDraws 54 = .ok (.iconst 1, 1) := by decide +kernel
theorem dX5_ringByDraws_55 : decode cX5_ringByDraws 55 = .ok (.invokevirtual 122, 3) := by decide +kernel
theorem dX5_ringByDraws_58 : decode cX5_ringByDraws 58 = .ok (.istore_n 1, 1) := by decide +kernel
theorem dX5_ringByDraws_59 : decode cX5_ringByDraws 59 = .ok (.aload_n 0, 1) := by decide +kernel
theorem dX5_ringByDraws_60 : decode cX5_ringByDraws 60 = .ok (.iload_n 1, 1) := by decide +kernel
theorem dX5_ringByDraws_61 : decode cX5_ringByDraws 61 = .ok (.invokevirtual 90, 3) := by decide +kernel
theorem dX5_ringByDraws_64 : decode cX5_ringByDraws 64 = .ok (.ifCond .ne 5, 3) := by decide +kernel
theorem dX5_ringByDraws_67 : decode cX5_ringByDraws 67 = .ok (.iconst 0, 1) := by decide +kernel
theorem dX5_ringByDraws_68 : decode cX5_ringByDraws 68 = .ok (.ireturn, 1) := by decide +kernel
theorem dX5_ringByDraws_69 : decode cX5_ringByDraws 69 = .ok (.aload_n 0, 1) := by decide +kernel
theorem dX5_ringByDraws_70 : decode cX5_ringByDraws 70 = .ok (.iload_n 1, 1) := by decide +kernel
theorem dX5_ringByDraws_71 : decode cX5_ringByDraws 71 = .ok (.invokevirtual 125, 3) := by decide +kernel
theorem dX5_ringByDraws_74 : decode cX5_ringByDraws 74 = .ok (.iconst 1, 1) := by decide +kernel
theorem dX5_ringByDraws_75 : decode cX5_ringByDraws 75 = .ok (.ireturn, 1) := by decide +kernel
theorem dX5_standing_0 : decode cX5_standing 0 = .ok (.iconst 0, 1) := by decide +kernel
theorem dX5_standing_1 : decode cX5_standing 1 = .ok (.istore_n 2, 1) := by decide +kernel
theorem dX5_standing_2 : decode cX5_standing 2 = .ok (.iconst 0, 1) := by decide +kernel
theorem dX5_standing_3 : decode cX5_standing 3 = .ok (.istore_n 3, 1) := by decide +kernel
theorem dX5_standing_4 : decode cX5_standing 4 = .ok (.iload_n 3, 1) := by decide +kernel
theorem dX5_standing_5 : decode cX5_standing 5 = .ok (.aload_n 0, 1) := by decide +kernel
theorem dX5_standing_6 : decode cX5_standing 6 = .ok (.getfield 25, 3) := by decide +kernel
theorem dX5_standing_9 : decode cX5_standing 9 = .ok (.arraylength, 1) := by decide +kernel
theorem dX5_standing_10 : decode cX5_standing 10 = .ok (.if_icmp .ge 42, 3) := by decide +kernel
theorem dX5_standing_13 : decode cX5_standing 13 = .ok (.iload_n 1, 1) := by decide +kernel
theorem dX5_standing_14 : decode cX5_standing 14 = .ok (.iload_n 3, 1) := by decide +kernel
theorem dX5_standing_15 : decode cX5_standing 15 = .ok (.ishr, 1) := by decide +kernel
theorem dX5_standing_16 : decode cX5_standing 16 = .ok (.ifCond .eq 36, 3) := by decide +kernel
theorem dX5_standing_19 : decode cX5_standing 19 = .ok (.iload_n 1, 1) := by decide +kernel
theorem dX5_standing_20 : decode cX5_standing 20 = .ok (.iload_n 3, 1) := by decide +kernel
theorem dX5_standing_21 : decode cX5_standing 21 = .ok (.invokestatic 97, 3) := by decide +kernel
theorem dX5_standing_24 : decode cX5_standing 24 = .ok (.ifCond .eq 22, 3) := by decide +kernel
theorem dX5_standing_27 : decode cX5_standing 27 = .ok (.aload_n 0, 1) := by decide +kernel
theorem dX5_standing_28 : decode cX5_standing 28 = .ok (.getfield 25, 3) := by decide +kernel
theorem dX5_standing_31 : decode cX5_standing 31 = .ok (.iload_n 3, 1) := by decide +kernel
theorem dX5_standing_32 : decode cX5_standing 32 = .ok (.iaload, 1) := by decide +kernel
theorem dX5_standing_33 : decode cX5_standing 33 = .ok (.iload_n 2, 1) := by decide +kernel
theorem dX5_standing_34 : decode cX5_standing 34 = .ok (.iconst (-1), 1) := by decide +kernel
theorem dX5_standing_35 : decode cX5_standing 35 = .ok (.ixor, 1) := by decide +kernel
theorem dX5_standing_36 : decode cX5_standing 36 = .ok (.iand, 1) := by decide +kernel
theorem dX5_standing_37 : decode cX5_standing 37 = .ok (.ifCond .ne 9, 3) := by decide +kernel
theorem dX5_standing_40 : decode cX5_standing 40 = .ok (.iload_n 2, 1) := by decide +kernel
theorem dX5_standing_41 : decode cX5_standing 41 = .ok (.iconst 1, 1) := by decide +kernel
theorem dX5_standing_42 : decode cX5_standing 42 = .ok (.iload_n 3, 1) := by decide +kernel
theorem dX5_standing_43 : decode cX5_standing 43 = .ok (.ishl, 1) := by decide +kernel
theorem dX5_standing_44 : decode cX5_standing 44 = .ok (.ior, 1) := by decide +kernel
theorem dX5_standing_45 : decode cX5_standing 45 = .ok (.istore_n 2, 1) := by decide +kernel
theorem dX5_standing_46 : decode cX5_standing 46 = .ok (.iinc 3 1, 3) := by decide +kernel
theorem dX5_standing_49 : decode cX5_standing 49 = .ok (.goto (-45), 3) := by decide +kernel
theorem dX5_standing_52 : decode cX5_standing 52 = .ok (.iload_n 2, 1) := by decide +kernel
theorem dX5_standing_53 : decode cX5_standing 53 = .ok (.ireturn, 1) := by decide +kernel
theorem dX5_valueIf_0 : decode cX5_valueIf 0 = .ok (.aload_n 0, 1) := by decide +kernel
theorem dX5_valueIf_1 : decode cX5_valueIf 1 = .ok (.iload_n 1, 1) := by decide +kernel
theorem dX5_valueIf_2 : decode cX5_valueIf 2 = .ok (.invokevirtual 83, 3) := by decide +kernel
theorem dX5_valueIf_5 : decode cX5_valueIf 5 = .ok (.istore_n 2, 1) := by decide +kernel
theorem dX5_valueIf_6 : decode cX5_valueIf 6 = .ok (.iconst 0, 1) := by decide +kernel
theorem dX5_valueIf_7 : decode cX5_valueIf 7 = .ok (.istore_n 3, 1) := by decide +kernel
theorem dX5_valueIf_8 : decode cX5_valueIf 8 = .ok (.iconst 0, 1) := by decide +kernel
theorem dX5_valueIf_9 : decode cX5_valueIf 9 = .ok (.istore 4, 2) := by decide +kernel
theorem dX5_valueIf_11 : decode cX5_valueIf 11 = .ok (.iload 4, 2) := by decide +kernel
theorem dX5_valueIf_13 : decode cX5_valueIf 13 = .ok (.aload_n 0, 1) := by decide +kernel
theorem dX5_valueIf_14 : decode cX5_valueIf 14 = .ok (.getfield 15, 3) := by decide +kernel
theorem dX5_valueIf_17 : decode cX5_valueIf 17 = .ok (.arraylength, 1) := by decide +kernel
theorem dX5_valueIf_18 : decode cX5_valueIf 18 = .ok (.if_icmp .ge 35, 3) := by decide +kernel
theorem dX5_valueIf_21 : decode cX5_valueIf 21 = .ok (.iload_n 2, 1) := by decide +kernel
theorem dX5_valueIf_22 : decode cX5_valueIf 22 = .ok (.iload 4, 2) := by decide +kernel
theorem dX5_valueIf_24 : decode cX5_valueIf 24 = .ok (.ishr, 1) := by decide +kernel
theorem dX5_valueIf_25 : decode cX5_valueIf 25 = .ok (.ifCond .eq 28, 3) := by decide +kernel
theorem dX5_valueIf_28 : decode cX5_valueIf 28 = .ok (.iload_n 2, 1) := by decide +kernel
theorem dX5_valueIf_29 : decode cX5_valueIf 29 = .ok (.iload 4, 2) := by decide +kernel
theorem dX5_valueIf_31 : decode cX5_valueIf 31 = .ok (.invokestatic 97, 3) := by decide +kernel
theorem dX5_valueIf_34 : decode cX5_valueIf 34 = .ok (.ifCond .eq 13, 3) := by decide +kernel
theorem dX5_valueIf_37 : decode cX5_valueIf 37 = .ok (.iload_n 3, 1) := by decide +kernel
theorem dX5_valueIf_38 : decode cX5_valueIf 38 = .ok (.aload_n 0, 1) := by decide +kernel
theorem dX5_valueIf_39 : decode cX5_valueIf 39 = .ok (.getfield 15, 3) := by decide +kernel
theorem dX5_valueIf_42 : decode cX5_valueIf 42 = .ok (.iload 4, 2) := by decide +kernel
theorem dX5_valueIf_44 : decode cX5_valueIf 44 = .ok (.iaload, 1) := by decide +kernel
theorem dX5_valueIf_45 : decode cX5_valueIf 45 = .ok (.iadd, 1) := by decide +kernel
theorem dX5_valueIf_46 : decode cX5_valueIf 46 = .ok (.istore_n 3, 1) := by decide +kernel
theorem dX5_valueIf_47 : decode cX5_valueIf 47 = .ok (.iinc 4 1, 3) := by decide +kernel
theorem dX5_valueIf_50 : decode cX5_valueIf 50 = .ok (.goto (-39), 3) := by decide +kernel
theorem dX5_valueIf_53 : decode cX5_valueIf 53 = .ok (.iload_n 3, 1) := by decide +kernel
theorem dX5_valueIf_54 : decode cX5_valueIf 54 = .ok (.ireturn, 1) := by decide +kernel
theorem dX5_valueNow_0 : decode cX5_valueNow 0 = .ok (.aload_n 0, 1) := by decide +kernel
theorem dX5_valueNow_1 : decode cX5_valueNow 1 = .ok (.aload_n 0, 1) := by decide +kernel
theorem dX5_valueNow_2 : decode cX5_valueNow 2 = .ok (.getfield 28, 3) := by decide +kernel
theorem dX5_valueNow_5 : decode cX5_valueNow 5 = .ok (.invokevirtual 129, 3) := by decide +kernel
theorem dX5_valueNow_8 : decode cX5_valueNow 8 = .ok (.ireturn, 1) := by decide +kernel
theorem dX5_offBy_0 : decode cX5_offBy 0 = .ok (.aload_n 0, 1) := by decide +kernel
theorem dX5_offBy_1 : decode cX5_offBy 1 = .ok (.aload_n 0, 1) := by decide +kernel
theorem dX5_offBy_2 : decode cX5_offBy 2 = .ok (.getfield 28, 3) := by decide +kernel
theorem dX5_offBy_5 : decode cX5_offBy 5 = .ok (.invokevirtual 83, 3) := by decide +kernel
theorem dX5_offBy_8 : decode cX5_offBy 8 = .ok (.aload_n 0, 1) := by decide +kernel
theorem dX5_offBy_9 : decode cX5_offBy 9 = .ok (.aload_n 0, 1) := by decide +kernel
theorem dX5_offBy_10 : decode cX5_offBy 10 = .ok (.getfield 28, 3) := by decide +kernel
theorem dX5_offBy_13 : decode cX5_offBy 13 = .ok (.iconst 1, 1) := by decide +kernel
theorem dX5_offBy_14 : decode cX5_offBy 14 = .ok (.iload_n 1, 1) := by decide +kernel
theorem dX5_offBy_15 : decode cX5_offBy 15 = .ok (.ishl, 1) := by decide +kernel
theorem dX5_offBy_16 : decode cX5_offBy 16 = .ok (.iconst (-1), 1) := by decide +kernel
theorem dX5_offBy_17 : decode cX5_offBy 17 = .ok (.ixor, 1) := by decide +kernel
theorem dX5_offBy_18 : decode cX5_offBy 18 = .ok (.iand, 1) := by decide +kernel
theorem dX5_offBy_19 : decode cX5_offBy 19 = .ok (.invokevirtual 83, 3) := by decide +kernel
theorem dX5_offBy_22 : decode cX5_offBy 22 = .ok (.iconst (-1), 1) := by decide +kernel
theorem dX5_offBy_23 : decode cX5_offBy 23 = .ok (.ixor, 1) := by decide +kernel
theorem dX5_offBy_24 : decode cX5_offBy 24 = .ok (.iand, 1) := by decide +kernel
theorem dX5_offBy_25 : decode cX5_offBy 25 = .ok (.ireturn, 1) := by decide +kernel
theorem dX5_beyond_0 : decode cX5_beyond 0 = .ok (.aload_n 0, 1) := by decide +kernel
theorem dX5_beyond_1 : decode cX5_beyond 1 = .ok (.getfield 9, 3) := by decide +kernel
theorem dX5_beyond_4 : decode cX5_beyond 4 = .ok (.ifCond .le 14, 3) := by decide +kernel
theorem dX5_beyond_7 : decode cX5_beyond 7 = .ok (.iload_n 1, 1) := by decide +kernel
theorem dX5_beyond_8 : decode cX5_beyond 8 = .ok (.iload_n 2, 1) := by decide +kernel
theorem dX5_beyond_9 : decode cX5_beyond 9 = .ok (.iadd, 1) := by decide +kernel
theorem dX5_beyond_10 : decode cX5_beyond 10 = .ok (.aload_n 0, 1) := by decide +kernel
theorem dX5_beyond_11 : decode cX5_beyond 11 = .ok (.getfield 9, 3) := by decide +kernel
theorem dX5_beyond_14 : decode cX5_beyond 14 = .ok (.irem, 1) := by decide +kernel
theorem dX5_beyond_15 : decode cX5_beyond 15 = .ok (.goto 4, 3) := by decide +kernel
theorem dX5_beyond_18 : decode cX5_beyond 18 = .ok (.iconst 0, 1) := by decide +kernel
theorem dX5_beyond_19 : decode cX5_beyond 19 = .ok (.ireturn, 1) := by decide +kernel
theorem dX5_downOf_0 : decode cX5_downOf 0 = .ok (.aload_n 0, 1) := by decide +kernel
theorem dX5_downOf_1 : decode cX5_downOf 1 = .ok (.iload_n 1, 1) := by decide +kernel
theorem dX5_downOf_2 : decode cX5_downOf 2 = .ok (.invokevirtual 79, 3) := by decide +kernel
theorem dX5_downOf_5 : decode cX5_downOf 5 = .ok (.istore_n 2, 1) := by decide +kernel
theorem dX5_downOf_6 : decode cX5_downOf 6 = .ok (.aload_n 0, 1) := by decide +kernel
theorem dX5_downOf_7 : decode cX5_downOf 7 = .ok (.getfield 25, 3) := by decide +kernel
theorem dX5_downOf_10 : decode cX5_downOf 10 = .ok (.arraylength, 1) := by decide +kernel
theorem dX5_downOf_11 : decode cX5_downOf 11 = .ok (.iconst 1, 1) := by decide +kernel
theorem dX5_downOf_12 : decode cX5_downOf 12 = .ok (.isub, 1) := by decide +kernel
theorem dX5_downOf_13 : decode cX5_downOf 13 = .ok (.istore_n 3, 1) := by decide +kernel
theorem dX5_downOf_14 : decode cX5_downOf 14 = .ok (.iload_n 3, 1) := by decide +kernel
theorem dX5_downOf_15 : decode cX5_downOf 15 = .ok (.ifCond .lt 26, 3) := by decide +kernel
theorem dX5_downOf_18 : decode cX5_downOf 18 = .ok (.iload_n 2, 1) := by decide +kernel
theorem dX5_downOf_19 : decode cX5_downOf 19 = .ok (.iload_n 3, 1) := by decide +kernel
theorem dX5_downOf_20 : decode cX5_downOf 20 = .ok (.invokestatic 97, 3) := by decide +kernel
theorem dX5_downOf_23 : decode cX5_downOf 23 = .ok (.ifCond .eq 12, 3) := by decide +kernel
theorem dX5_downOf_26 : decode cX5_downOf 26 = .ok (.iload_n 2, 1) := by decide +kernel
theorem dX5_downOf_27 : decode cX5_downOf 27 = .ok (.aload_n 0, 1) := by decide +kernel
theorem dX5_downOf_28 : decode cX5_downOf 28 = .ok (.getfield 25, 3) := by decide +kernel
theorem dX5_downOf_31 : decode cX5_downOf 31 = .ok (.iload_n 3, 1) := by decide +kernel
theorem dX5_downOf_32 : decode cX5_downOf 32 = .ok (.iaload, 1) := by decide +kernel
theorem dX5_downOf_33 : decode cX5_downOf 33 = .ok (.ior, 1) := by decide +kernel
theorem dX5_downOf_34 : decode cX5_downOf 34 = .ok (.istore_n 2, 1) := by decide +kernel
theorem dX5_downOf_35 : decode cX5_downOf 35 = .ok (.iinc 3 (-1), 3) := by decide +kernel
theorem dX5_downOf_38 : decode cX5_downOf 38 = .ok (.goto (-24), 3) := by decide +kernel
theorem dX5_downOf_41 : decode cX5_downOf 41 = .ok (.iload_n 2, 1) := by decide +kernel
theorem dX5_downOf_42 : decode cX5_downOf 42 = .ok (.ireturn, 1) := by decide +kernel
theorem dX5_upOf_0 : decode cX5_upOf 0 = .ok (.iconst 0, 1) := by decide +kernel
theorem dX5_upOf_1 : decode cX5_upOf 1 = .ok (.istore_n 2, 1) := by decide +kernel
theorem dX5_upOf_2 : decode cX5_upOf 2 = .ok (.iconst 0, 1) := by decide +kernel
theorem dX5_upOf_3 : decode cX5_upOf 3 = .ok (.istore_n 3, 1) := by decide +kernel
theorem dX5_upOf_4 : decode cX5_upOf 4 = .ok (.iload_n 3, 1) := by decide +kernel
theorem dX5_upOf_5 : decode cX5_upOf 5 = .ok (.aload_n 0, 1) := by decide +kernel
theorem dX5_upOf_6 : decode cX5_upOf 6 = .ok (.getfield 9, 3) := by decide +kernel
theorem dX5_upOf_9 : decode cX5_upOf 9 = .ok (.if_icmp .ge 27, 3) := by decide +kernel
theorem dX5_upOf_12 : decode cX5_upOf 12 = .ok (.aload_n 0, 1) := by decide +kernel
theorem dX5_upOf_13 : decode cX5_upOf 13 = .ok (.iload_n 3, 1) := by decide +kernel
theorem dX5_upOf_14 : decode cX5_upOf 14 = .ok (.invokevirtual 132, 3) := by decide +kernel
theorem dX5_upOf_17 : decode cX5_upOf 17 = .ok (.iload_n 1, 1) := by decide +kernel
theorem dX5_upOf_18 : decode cX5_upOf 18 = .ok (.invokestatic 97, 3) := by decide +kernel
theorem dX5_upOf_21 : decode cX5_upOf 21 = .ok (.ifCond .eq 9, 3) := by decide +kernel
theorem dX5_upOf_24 : decode cX5_upOf 24 = .ok (.iload_n 2, 1) := by decide +kernel
theorem dX5_upOf_25 : decode cX5_upOf 25 = .ok (.iconst 1, 1) := by decide +kernel
theorem dX5_upOf_26 : decode cX5_upOf 26 = .ok (.iload_n 3, 1) := by decide +kernel
theorem dX5_upOf_27 : decode cX5_upOf 27 = .ok (.ishl, 1) := by decide +kernel
theorem dX5_upOf_28 : decode cX5_upOf 28 = .ok (.ior, 1) := by decide +kernel
theorem dX5_upOf_29 : decode cX5_upOf 29 = .ok (.istore_n 2, 1) := by decide +kernel
theorem dX5_upOf_30 : decode cX5_upOf 30 = .ok (.iinc 3 1, 3) := by decide +kernel
theorem dX5_upOf_33 : decode cX5_upOf 33 = .ok (.goto (-29), 3) := by decide +kernel
theorem dX5_upOf_36 : decode cX5_upOf 36 = .ok (.iload_n 2, 1) := by decide +kernel
theorem dX5_upOf_37 : decode cX5_upOf 37 = .ok (.ireturn, 1) := by decide +kernel
theorem dX5_daysUntil_0 : decode cX5_daysUntil 0 = .ok (.iconst 0, 1) := by decide +kernel
theorem dX5_daysUntil_1 : decode cX5_daysUntil 1 = .ok (.istore_n 2, 1) := by decide +kernel
theorem dX5_daysUntil_2 : decode cX5_daysUntil 2 = .ok (.iconst 0, 1) := by decide +kernel
theorem dX5_daysUntil_3 : decode cX5_daysUntil 3 = .ok (.istore_n 3, 1) := by decide +kernel
theorem dX5_daysUntil_4 : decode cX5_daysUntil 4 = .ok (.iload_n 3, 1) := by decide +kernel
theorem dX5_daysUntil_5 : decode cX5_daysUntil 5 = .ok (.aload_n 0, 1) := by decide +kernel
theorem dX5_daysUntil_6 : decode cX5_daysUntil 6 = .ok (.getfield 9, 3) := by decide +kernel
theorem dX5_daysUntil_9 : decode cX5_daysUntil 9 = .ok (.if_icmp .ge 62, 3) := by decide +kernel
theorem dX5_daysUntil_12 : decode cX5_daysUntil 12 = .ok (.iload_n 1, 1) := by decide +kernel
theorem dX5_daysUntil_13 : decode cX5_daysUntil 13 = .ok (.iload_n 3, 1) := by decide +kernel
theorem dX5_daysUntil_14 : decode cX5_daysUntil 14 = .ok (.invokestatic 97, 3) := by decide +kernel
theorem dX5_daysUntil_17 : decode cX5_daysUntil 17 = .ok (.ifCond .eq 48, 3) := by decide +kernel
theorem dX5_daysUntil_20 : decode cX5_daysUntil 20 = .ok (.aload_n 0, 1) := by decide +kernel
theorem dX5_daysUntil_21 : decode cX5_daysUntil 21 = .ok (.getfield 28, 3) := by decide +kernel
theorem dX5_daysUntil_24 : decode cX5_daysUntil 24 = .ok (.iload_n 3, 1) := by decide +kernel
theorem dX5_daysUntil_25 : decode cX5_daysUntil 25 = .ok (.invokestatic 97, 3) := by decide +kernel
theorem dX5_daysUntil_28 : decode cX5_daysUntil 28 = .ok (.ifCond .eq 11, 3) := by decide +kernel
theorem dX5_daysUntil_31 : decode cX5_daysUntil 31 = .ok (.aload_n 0, 1) := by decide +kernel
theorem dX5_daysUntil_32 : decode cX5_daysUntil 32 = .ok (.iload_n 3, 1) := by decide +kernel
theorem dX5_daysUntil_33 : decode cX5_daysUntil 33 = .ok (.invokevirtual 86, 3) := by decide +kernel
theorem dX5_daysUntil_36 : decode cX5_daysUntil 36 = .ok (.ifCond .ne 5, 3) := by decide +kernel
theorem dX5_daysUntil_39 : decode cX5_daysUntil 39 = .ok (.iconst (-1), 1) := by decide +kernel
theorem dX5_daysUntil_40 : decode cX5_daysUntil 40 = .ok (.ireturn, 1) := by decide +kernel
theorem dX5_daysUntil_41 : decode cX5_daysUntil 41 = .ok (.iload_n 2, 1) := by decide +kernel
theorem dX5_daysUntil_42 : decode cX5_daysUntil 42 = .ok (.aload_n 0, 1) := by decide +kernel
theorem dX5_daysUntil_43 : decode cX5_daysUntil 43 = .ok (.getfield 19, 3) := by decide +kernel
theorem dX5_daysUntil_46 : decode cX5_daysUntil 46 = .ok (.iload_n 3, 1) := by decide +kernel
theorem dX5_daysUntil_47 : decode cX5_daysUntil 47 = .ok (.invokestatic 71, 3) := by decide +kernel
theorem dX5_daysUntil_50 : decode cX5_daysUntil 50 = .ok (.aload_n 0, 1) := by decide +kernel
theorem dX5_daysUntil_51 : decode cX5_daysUntil 51 = .ok (.getfield 31, 3) := by decide +kernel
theorem dX5_daysUntil_54 : decode cX5_daysUntil 54 = .ok (.isub, 1) := by decide +kernel
theorem dX5_daysUntil_55 : decode cX5_daysUntil 55 = .ok (.iconst 4, 1) := by decide +kernel
theorem dX5_daysUntil_56 : decode cX5_daysUntil 56 = .ok (.invokestatic 135, 3) := by decide +kernel
theorem dX5_daysUntil_59 : decode cX5_daysUntil 59 = .ok (.iconst 1, 1) := by decide +kernel
theorem dX5_daysUntil_60 : decode cX5_daysUntil 60 = .ok (.iadd, 1) := by decide +kernel
theorem dX5_daysUntil_61 : decode cX5_daysUntil 61 = .ok (.invokestatic 101, 3) := by decide +kernel
theorem dX5_daysUntil_64 : decode cX5_daysUntil 64 = .ok (.istore_n 2, 1) := by decide +kernel
theorem dX5_daysUntil_65 : decode cX5_daysUntil 65 = .ok (.iinc 3 1, 3) := by decide +kernel
theorem dX5_daysUntil_68 : decode cX5_daysUntil 68 = .ok (.goto (-64), 3) := by decide +kernel
theorem dX5_daysUntil_71 : decode cX5_daysUntil 71 = .ok (.iload_n 2, 1) := by decide +kernel
theorem dX5_daysUntil_72 : decode cX5_daysUntil 72 = .ok (.ireturn, 1) := by decide +kernel
theorem dX5_stepsToPutBack_0 : decode cX5_stepsToPutBack 0 = .ok (.aload_n 0, 1) := by decide +kernel
theorem dX5_stepsToPutBack_1 : decode cX5_stepsToPutBack 1 = .ok (.iload_n 1, 1) := by decide +kernel
theorem dX5_stepsToPutBack_2 : decode cX5_stepsToPutBack 2 = .ok (.invokevirtual 132, 3) := by decide +kernel
theorem dX5_stepsToPutBack_5 : decode cX5_stepsToPutBack 5 = .ok (.iconst 1, 1) := by decide +kernel
theorem dX5_stepsToPutBack_6 : decode cX5_stepsToPutBack 6 = .ok (.iload_n 1, 1) := by decide +kernel
theorem dX5_stepsToPutBack_7 : decode cX5_stepsToPutBack 7 = .ok (.ishl, 1) := by decide +kernel
theorem dX5_stepsToPutBack_8 : decode cX5_stepsToPutBack 8 = .ok (.ior, 1) := by decide +kernel
theorem dX5_stepsToPutBack_9 : decode cX5_stepsToPutBack 9 = .ok (.aload_n 0, 1) := by decide +kernel
theorem dX5_stepsToPutBack_10 : decode cX5_stepsToPutBack 10 = .ok (.getfield 28, 3) := by decide +kernel
theorem dX5_stepsToPutBack_13 : decode cX5_stepsToPutBack 13 = .ok (.iconst (-1), 1) := by decide +kernel
theorem dX5_stepsToPutBack_14 : decode cX5_stepsToPutBack 14 = .ok (.ixor, 1) := by decide +kernel
theorem dX5_stepsToPutBack_15 : decode cX5_stepsToPutBack 15 = .ok (.iand, 1) := by decide +kernel
theorem dX5_stepsToPutBack_16 : decode cX5_stepsToPutBack 16 = .ok (.istore_n 2, 1) := by decide +kernel
theorem dX5_stepsToPutBack_17 : decode cX5_stepsToPutBack 17 = .ok (.iconst 0, 1) := by decide +kernel
theorem dX5_stepsToPutBack_18 : decode cX5_stepsToPutBack 18 = .ok (.istore_n 3, 1) := by decide +kernel
theorem dX5_stepsToPutBack_19 : decode cX5_stepsToPutBack 19 = .ok (.iload_n 3, 1) := by decide +kernel
theorem dX5_stepsToPutBack_20 : decode cX5_stepsToPutBack 20 = .ok (.aload_n 0, 1) := by decide +kernel
theorem dX5_stepsToPutBack_21 : decode cX5_stepsToPutBack 21 = .ok (.getfield 9, 3) := by decide +kernel
theorem dX5_stepsToPutBack_24 : decode cX5_stepsToPutBack 24 = .ok (.if_icmp .ge 27, 3) := by decide +kernel
theorem dX5_stepsToPutBack_27 : decode cX5_stepsToPutBack 27 = .ok (.iload_n 2, 1) := by decide +kernel
theorem dX5_stepsToPutBack_28 : decode cX5_stepsToPutBack 28 = .ok (.iload_n 3, 1) := by decide +kernel
theorem dX5_stepsToPutBack_29 : decode cX5_stepsToPutBack 29 = .ok (.invokestatic 97, 3) := by decide +kernel
theorem dX5_stepsToPutBack_32 : decode cX5_stepsToPutBack 32 = .ok (.ifCond .eq 13, 3) := by decide +kernel
theorem dX5_stepsToPutBack_35 : decode cX5_stepsToPutBack 35 = .ok (.aload_n 0, 1) := by decide +kernel
theorem dX5_stepsToPutBack_36 : decode cX5_stepsToPutBack 36 = .ok (.iload_n 3, 1) := by decide +kernel
theorem dX5_stepsToPutBack_37 : decode cX5_stepsToPutBack 37 = .ok (.invokevirtual 86, 3) := by decide +kernel
theorem dX5_stepsToPutBack_40 : decode cX5_stepsToPutBack 40 = .ok (.ifCond .ne 5, 3) := by decide +kernel
theorem dX5_stepsToPutBack_43 : decode cX5_stepsToPutBack 43 = .ok (.iconst (-1), 1) := by decide +kernel
theorem dX5_stepsToPutBack_44 : decode cX5_stepsToPutBack 44 = .ok (.ireturn, 1) := by decide +kernel
theorem dX5_stepsToPutBack_45 : decode cX5_stepsToPutBack 45 = .ok (.iinc 3 1, 3) := by decide +kernel
theorem dX5_stepsToPutBack_48 : decode cX5_stepsToPutBack 48 = .ok (.goto (-29), 3) := by decide +kernel
theorem dX5_stepsToPutBack_51 : decode cX5_stepsToPutBack 51 = .ok (.iload_n 2, 1) := by decide +kernel
theorem dX5_stepsToPutBack_52 : decode cX5_stepsToPutBack 52 = .ok (.invokestatic 138, 3) := by decide +kernel
theorem dX5_stepsToPutBack_55 : decode cX5_stepsToPutBack 55 = .ok (.ireturn, 1) := by decide +kernel
theorem dX5_highest_0 : decode cX5_highest 0 = .ok (.iconst 0, 1) := by decide +kernel
theorem dX5_highest_1 : decode cX5_highest 1 = .ok (.istore_n 1, 1) := by decide +kernel
theorem dX5_highest_2 : decode cX5_highest 2 = .ok (.iconst 0, 1) := by decide +kernel
theorem dX5_highest_3 : decode cX5_highest 3 = .ok (.istore_n 2, 1) := by decide +kernel
theorem dX5_highest_4 : decode cX5_highest 4 = .ok (.iload_n 2, 1) := by decide +kernel
theorem dX5_highest_5 : decode cX5_highest 5 = .ok (.aload_n 0, 1) := by decide +kernel
theorem dX5_highest_6 : decode cX5_highest 6 = .ok (.getfield 9, 3) := by decide +kernel
theorem dX5_highest_9 : decode cX5_highest 9 = .ok (.if_icmp .ge 17, 3) := by decide +kernel
theorem dX5_highest_12 : decode cX5_highest 12 = .ok (.iload_n 1, 1) := by decide +kernel
theorem dX5_highest_13 : decode cX5_highest 13 = .ok (.aload_n 0, 1) := by decide +kernel
theorem dX5_highest_14 : decode cX5_highest 14 = .ok (.iload_n 2, 1) := by decide +kernel
theorem dX5_highest_15 : decode cX5_highest 15 = .ok (.invokevirtual 79, 3) := by decide +kernel
theorem dX5_highest_18 : decode cX5_highest 18 = .ok (.ior, 1) := by decide +kernel
theorem dX5_highest_19 : decode cX5_highest 19 = .ok (.istore_n 1, 1) := by decide +kernel
theorem dX5_highest_20 : decode cX5_highest 20 = .ok (.iinc 2 1, 3) := by decide +kernel
theorem dX5_highest_23 : decode cX5_highest 23 = .ok (.goto (-19), 3) := by decide +kernel
theorem dX5_highest_26 : decode cX5_highest 26 = .ok (.aload_n 0, 1) := by decide +kernel
theorem dX5_highest_27 : decode cX5_highest 27 = .ok (.invokevirtual 63, 3) := by decide +kernel
theorem dX5_highest_30 : decode cX5_highest 30 = .ok (.iload_n 1, 1) := by decide +kernel
theorem dX5_highest_31 : decode cX5_highest 31 = .ok (.iconst (-1), 1) := by decide +kernel
theorem dX5_highest_32 : decode cX5_highest 32 = .ok (.ixor, 1) := by decide +kernel
theorem dX5_highest_33 : decode cX5_highest 33 = .ok (.iand, 1) := by decide +kernel
theorem dX5_highest_34 : decode cX5_highest 34 = .ok (.ireturn, 1) := by decide +kernel
theorem dX5_lowest_0 : decode cX5_lowest 0 = .ok (.iconst 0, 1) := by decide +kernel
theorem dX5_lowest_1 : decode cX5_lowest 1 = .ok (.istore_n 1, 1) := by decide +kernel
theorem dX5_lowest_2 : decode cX5_lowest 2 = .ok (.iconst 0, 1) := by decide +kernel
theorem dX5_lowest_3 : decode cX5_lowest 3 = .ok (.istore_n 2, 1) := by decide +kernel
theorem dX5_lowest_4 : decode cX5_lowest 4 = .ok (.iload_n 2, 1) := by decide +kernel
theorem dX5_lowest_5 : decode cX5_lowest 5 = .ok (.aload_n 0, 1) := by decide +kernel
theorem dX5_lowest_6 : decode cX5_lowest 6 = .ok (.getfield 9, 3) := by decide +kernel
theorem dX5_lowest_9 : decode cX5_lowest 9 = .ok (.if_icmp .ge 23, 3) := by decide +kernel
theorem dX5_lowest_12 : decode cX5_lowest 12 = .ok (.aload_n 0, 1) := by decide +kernel
theorem dX5_lowest_13 : decode cX5_lowest 13 = .ok (.iload_n 2, 1) := by decide +kernel
theorem dX5_lowest_14 : decode cX5_lowest 14 = .ok (.invokevirtual 79, 3) := by decide +kernel
theorem dX5_lowest_17 : decode cX5_lowest 17 = .ok (.ifCond .ne 9, 3) := by decide +kernel
theorem dX5_lowest_20 : decode cX5_lowest 20 = .ok (.iload_n 1, 1) := by decide +kernel
theorem dX5_lowest_21 : decode cX5_lowest 21 = .ok (.iconst 1, 1) := by decide +kernel
theorem dX5_lowest_22 : decode cX5_lowest 22 = .ok (.iload_n 2, 1) := by decide +kernel
theorem dX5_lowest_23 : decode cX5_lowest 23 = .ok (.ishl, 1) := by decide +kernel
theorem dX5_lowest_24 : decode cX5_lowest 24 = .ok (.ior, 1) := by decide +kernel
theorem dX5_lowest_25 : decode cX5_lowest 25 = .ok (.istore_n 1, 1) := by decide +kernel
theorem dX5_lowest_26 : decode cX5_lowest 26 = .ok (.iinc 2 1, 3) := by decide +kernel
theorem dX5_lowest_29 : decode cX5_lowest 29 = .ok (.goto (-25), 3) := by decide +kernel
theorem dX5_lowest_32 : decode cX5_lowest 32 = .ok (.iload_n 1, 1) := by decide +kernel
theorem dX5_lowest_33 : decode cX5_lowest 33 = .ok (.ireturn, 1) := by decide +kernel
theorem dX5_measureDepths_0 : decode cX5_measureDepths 0 = .ok (.iconst 0, 1) := by decide +kernel
theorem dX5_measureDepths_1 : decode cX5_measureDepths 1 = .ok (.istore_n 1, 1) := by decide +kernel
theorem dX5_measureDepths_2 : decode cX5_measureDepths 2 = .ok (.iload_n 1, 1) := by decide +kernel
theorem dX5_measureDepths_3 : decode cX5_measureDepths 3 = .ok (.aload_n 0, 1) := by decide +kernel
theorem dX5_measureDepths_4 : decode cX5_measureDepths 4 = .ok (.getfield 50, 3) := by decide +kernel
theorem dX5_measureDepths_7 : decode cX5_measureDepths 7 = .ok (.arraylength, 1) := by decide +kernel
theorem dX5_measureDepths_8 : decode cX5_measureDepths 8 = .ok (.if_icmp .ge 56, 3) := by decide +kernel
theorem dX5_measureDepths_11 : decode cX5_measureDepths 11 = .ok (.iconst 0, 1) := by decide +kernel
theorem dX5_measureDepths_12 : decode cX5_measureDepths 12 = .ok (.istore_n 2, 1) := by decide +kernel
theorem dX5_measureDepths_13 : decode cX5_measureDepths 13 = .ok (.iconst 0, 1) := by decide +kernel
theorem dX5_measureDepths_14 : decode cX5_measureDepths 14 = .ok (.istore_n 3, 1) := by decide +kernel
theorem dX5_measureDepths_15 : decode cX5_measureDepths 15 = .ok (.iload_n 3, 1) := by decide +kernel
theorem dX5_measureDepths_16 : decode cX5_measureDepths 16 = .ok (.iload_n 1, 1) := by decide +kernel
theorem dX5_measureDepths_17 : decode cX5_measureDepths 17 = .ok (.if_icmp .ge 34, 3) := by decide +kernel
theorem dX5_measureDepths_20 : decode cX5_measureDepths 20 = .ok (.aload_n 0, 1) := by decide +kernel
theorem dX5_measureDepths_21 : decode cX5_measureDepths 21 = .ok (.iload_n 1, 1) := by decide +kernel
theorem dX5_measureDepths_22 : decode cX5_measureDepths 22 = .ok (.invokevirtual 79, 3) := by decide +kernel
theorem dX5_measureDepths_25 : decode cX5_measureDepths 25 = .ok (.iload_n 3, 1) := by decide +kernel
theorem dX5_measureDepths_26 : decode cX5_measureDepths 26 = .ok (.invokestatic 97, 3) := by decide +kernel
theorem dX5_measureDepths_29 : decode cX5_measureDepths 29 = .ok (.ifCond .eq 16, 3) := by decide +kernel
theorem dX5_measureDepths_32 : decode cX5_measureDepths 32 = .ok (.iload_n 2, 1) := by decide +kernel
theorem dX5_measureDepths_33 : decode cX5_measureDepths 33 = .ok (.aload_n 0, 1) := by decide +kernel
theorem dX5_measureDepths_34 : decode cX5_measureDepths 34 = .ok (.getfield 50, 3) := by decide +kernel
theorem dX5_measureDepths_37 : decode cX5_measureDepths 37 = .ok (.iload_n 3, 1) := by decide +kernel
theorem dX5_measureDepths_38 : decode cX5_measureDepths 38 = .ok (.iaload, 1) := by decide +kernel
theorem dX5_measureDepths_39 : decode cX5_measureDepths 39 = .ok (.iconst 1, 1) := by decide +kernel
theorem dX5_measureDepths_40 : decode cX5_measureDepths 40 = .ok (.iadd, 1) := by decide +kernel
theorem dX5_measureDepths_41 : decode cX5_measureDepths 41 = .ok (.invokestatic 101, 3) := by decide +kernel
theorem dX5_measureDepths_44 : decode cX5_measureDepths 44 = .ok (.istore_n 2, 1) := by decide +kernel
theorem dX5_measureDepths_45 : decode cX5_measureDepths 45 = .ok (.iinc 3 1, 3) := by decide +kernel
theorem dX5_measureDepths_48 : decode cX5_measureDepths 48 = .ok (.goto (-33), 3) := by decide +kernel
theorem dX5_measureDepths_51 : decode cX5_measureDepths 51 = .ok (.aload_n 0, 1) := by decide +kernel
theorem dX5_measureDepths_52 : decode cX5_measureDepths 52 = .ok (.getfield 50, 3) := by decide +kernel
theorem dX5_measureDepths_55 : decode cX5_measureDepths 55 = .ok (.iload_n 1, 1) := by decide +kernel
theorem dX5_measureDepths_56 : decode cX5_measureDepths 56 = .ok (.iload_n 2, 1) := by decide +kernel
theorem dX5_measureDepths_57 : decode cX5_measureDepths 57 = .ok (.iastore, 1) := by decide +kernel
theorem dX5_measureDepths_58 : decode cX5_measureDepths 58 = .ok (.iinc 1 1, 3) := by decide +kernel
theorem dX5_measureDepths_61 : decode cX5_measureDepths 61 = .ok (.goto (-59), 3) := by decide +kernel
theorem dX5_measureDepths_64 : decode cX5_measureDepths 64 = .ok (.return_, 1) := by decide +kernel
theorem dX5_depthOf_0 : decode cX5_depthOf 0 = .ok (.aload_n 0, 1) := by decide +kernel
theorem dX5_depthOf_1 : decode cX5_depthOf 1 = .ok (.invokevirtual 143, 3) := by decide +kernel
theorem dX5_depthOf_4 : decode cX5_depthOf 4 = .ok (.aload_n 0, 1) := by decide +kernel
theorem dX5_depthOf_5 : decode cX5_depthOf 5 = .ok (.getfield 50, 3) := by decide +kernel
theorem dX5_depthOf_8 : decode cX5_depthOf 8 = .ok (.iload_n 1, 1) := by decide +kernel
theorem dX5_depthOf_9 : decode cX5_depthOf 9 = .ok (.invokestatic 71, 3) := by decide +kernel
theorem dX5_depthOf_12 : decode cX5_depthOf 12 = .ok (.ireturn, 1) := by decide +kernel
theorem dX5_chainFrom_0 : decode cX5_chainFrom 0 = .ok (.aload_n 0, 1) := by decide +kernel
theorem dX5_chainFrom_1 : decode cX5_chainFrom 1 = .ok (.invokevirtual 143, 3) := by decide +kernel
theorem dX5_chainFrom_4 : decode cX5_chainFrom 4 = .ok (.iconst 1, 1) := by decide +kernel
theorem dX5_chainFrom_5 : decode cX5_chainFrom 5 = .ok (.iload_n 1, 1) := by decide +kernel
theorem dX5_chainFrom_6 : decode cX5_chainFrom 6 = .ok (.ishl, 1) := by decide +kernel
theorem dX5_chainFrom_7 : decode cX5_chainFrom 7 = .ok (.istore_n 2, 1) := by decide +kernel
theorem dX5_chainFrom_8 : decode cX5_chainFrom 8 = .ok (.iload_n 1, 1) := by decide +kernel
theorem dX5_chainFrom_9 : decode cX5_chainFrom 9 = .ok (.istore_n 3, 1) := by decide +kernel
theorem dX5_chainFrom_10 : decode cX5_chainFrom 10 = .ok (.aload_n 0, 1) := by decide +kernel
theorem dX5_chainFrom_11 : decode cX5_chainFrom 11 = .ok (.getfield 50, 3) := by decide +kernel
theorem dX5_chainFrom_14 : decode cX5_chainFrom 14 = .ok (.iload_n 1, 1) := by decide +kernel
theorem dX5_chainFrom_15 : decode cX5_chainFrom 15 = .ok (.invokestatic 71, 3) := by decide +kernel
theorem dX5_chainFrom_18 : decode cX5_chainFrom 18 = .ok (.iconst 1, 1) := by decide +kernel
theorem dX5_chainFrom_19 : decode cX5_chainFrom 19 = .ok (.isub, 1) := by decide +kernel
theorem dX5_chainFrom_20 : decode cX5_chainFrom 20 = .ok (.istore 4, 2) := by decide +kernel
theorem dX5_chainFrom_22 : decode cX5_chainFrom 22 = .ok (.iload 4, 2) := by decide +kernel
theorem dX5_chainFrom_24 : decode cX5_chainFrom 24 = .ok (.ifCond .lt 23, 3) := by decide +kernel
theorem dX5_chainFrom_27 : decode cX5_chainFrom 27 = .ok (.aload_n 0, 1) := by decide +kernel
theorem dX5_chainFrom_28 : decode cX5_chainFrom 28 = .ok (.iload_n 3, 1) := by decide +kernel
theorem dX5_chainFrom_29 : decode cX5_chainFrom 29 = .ok (.iload 4, 2) := by decide +kernel
theorem dX5_chainFrom_31 : decode cX5_chainFrom 31 = .ok (.invokevirtual 146, 3) := by decide +kernel
theorem dX5_chainFrom_34 : decode cX5_chainFrom 34 = .ok (.istore_n 3, 1) := by decide +kernel
theorem dX5_chainFrom_35 : decode cX5_chainFrom 35 = .ok (.iload_n 2, 1) := by decide +kernel
theorem dX5_chainFrom_36 : decode cX5_chainFrom 36 = .ok (.iconst 1, 1) := by decide +kernel
theorem dX5_chainFrom_37 : decode cX5_chainFrom 37 = .ok (.iload_n 3, 1) := by decide +kernel
theorem dX5_chainFrom_38 : decode cX5_chainFrom 38 = .ok (.ishl, 1) := by decide +kernel
theorem dX5_chainFrom_39 : decode cX5_chainFrom 39 = .ok (.ior, 1) := by decide +kernel
theorem dX5_chainFrom_40 : decode cX5_chainFrom 40 = .ok (.istore_n 2, 1) := by decide +kernel
theorem dX5_chainFrom_41 : decode cX5_chainFrom 41 = .ok (.iinc 4 (-1), 3) := by decide +kernel
theorem dX5_chainFrom_44 : decode cX5_chainFrom 44 = .ok (.goto (-22), 3) := by decide +kernel
theorem dX5_chainFrom_47 : decode cX5_chainFrom 47 = .ok (.iload_n 2, 1) := by decide +kernel
theorem dX5_chainFrom_48 : decode cX5_chainFrom 48 = .ok (.ireturn, 1) := by decide +kernel
theorem dX5_leastHungAt_0 : decode cX5_leastHungAt 0 = .ok (.iconst 0, 1) := by decide +kernel
theorem dX5_leastHungAt_1 : decode cX5_leastHungAt 1 = .ok (.istore_n 3, 1) := by decide +kernel
theorem dX5_leastHungAt_2 : decode cX5_leastHungAt 2 = .ok (.iload_n 3, 1) := by decide +kernel
theorem dX5_leastHungAt_3 : decode cX5_leastHungAt 3 = .ok (.iload_n 1, 1) := by decide +kernel
theorem dX5_leastHungAt_4 : decode cX5_leastHungAt 4 = .ok (.if_icmp .ge 35, 3) := by decide +kernel
theorem dX5_leastHungAt_7 : decode cX5_leastHungAt 7 = .ok (.aload_n 0, 1) := by decide +kernel
theorem dX5_leastHungAt_8 : decode cX5_leastHungAt 8 = .ok (.iload_n 1, 1) := by decide +kernel
theorem dX5_leastHungAt_9 : decode cX5_leastHungAt 9 = .ok (.invokevirtual 79, 3) := by decide +kernel
theorem dX5_leastHungAt_12 : decode cX5_leastHungAt 12 = .ok (.iload_n 3, 1) := by decide +kernel
theorem dX5_leastHungAt_13 : decode cX5_leastHungAt 13 = .ok (.invokestatic 97, 3) := by decide +kernel
theorem dX5_leastHungAt_16 : decode cX5_leastHungAt 16 = .ok (.ifCond .eq 17, 3) := by decide +kernel
theorem dX5_leastHungAt_19 : decode cX5_leastHungAt 19 = .ok (.aload_n 0, 1) := by decide +kernel
theorem dX5_leastHungAt_20 : decode cX5_leastHungAt 20 = .ok (.getfield 50, 3) := by decide +kernel
theorem dX5_leastHungAt_23 : decode cX5_leastHungAt 23 = .ok (.iload_n 3, 1) := by decide +kernel
theorem dX5_leastHungAt_24 : decode cX5_leastHungAt 24 = .ok (.invokestatic 71, 3) := by decide +kernel
theorem dX5_leastHungAt_27 : decode cX5_leastHungAt 27 = .ok (.iload_n 2, 1) := by decide +kernel
theorem dX5_leastHungAt_28 : decode cX5_leastHungAt 28 = .ok (.if_icmp .ne 5, 3) := by decide +kernel
theorem dX5_leastHungAt_31 : decode cX5_leastHungAt 31 = .ok (.iload_n 3, 1) := by decide +kernel
theorem dX5_leastHungAt_32 : decode cX5_leastHungAt 32 = .ok (.ireturn, 1) := by decide +kernel
theorem dX5_leastHungAt_33 : decode cX5_leastHungAt 33 = .ok (.iinc 3 1, 3) := by decide +kernel
theorem dX5_leastHungAt_36 : decode cX5_leastHungAt 36 = .ok (.goto (-34), 3) := by decide +kernel
theorem dX5_leastHungAt_39 : decode cX5_leastHungAt 39 = .ok (.iload_n 1, 1) := by decide +kernel
theorem dX5_leastHungAt_40 : decode cX5_leastHungAt 40 = .ok (.ireturn, 1) := by decide +kernel
theorem dX5_rungInWeather_0 : decode cX5_rungInWeather 0 = .ok (.iconst 0, 1) := by decide +kernel
theorem dX5_rungInWeather_1 : decode cX5_rungInWeather 1 = .ok (.istore_n 2, 1) := by decide +kernel
theorem dX5_rungInWeather_2 : decode cX5_rungInWeather 2 = .ok (.iconst 0, 1) := by decide +kernel
theorem dX5_rungInWeather_3 : decode cX5_rungInWeather 3 = .ok (.istore_n 3, 1) := by decide +kernel
theorem dX5_rungInWeather_4 : decode cX5_rungInWeather 4 = .ok (.iload_n 3, 1) := by decide +kernel
theorem dX5_rungInWeather_5 : decode cX5_rungInWeather 5 = .ok (.aload_n 0, 1) := by decide +kernel
theorem dX5_rungInWeather_6 : decode cX5_rungInWeather 6 = .ok (.getfield 9, 3) := by decide +kernel
theorem dX5_rungInWeather_9 : decode cX5_rungInWeather 9 = .ok (.if_icmp .ge 27, 3) := by decide +kernel
theorem dX5_rungInWeather_12 : decode cX5_rungInWeather 12 = .ok (.aload_n 0, 1) := by decide +kernel
theorem dX5_rungInWeather_13 : decode cX5_rungInWeather 13 = .ok (.getfield 19, 3) := by decide +kernel
theorem dX5_rungInWeather_16 : decode cX5_rungInWeather 16 = .ok (.iload_n 3, 1) := by decide +kernel
theorem dX5_rungInWeather_17 : decode cX5_rungInWeather 17 = .ok (.invokestatic 71, 3) := by decide +kernel
theorem dX5_rungInWeather_20 : decode cX5_rungInWeather 20 = .ok (.iload_n 1, 1) := by decide +kernel
theorem dX5_rungInWeather_21 : decode cX5_rungInWeather 21 = .ok (.if_icmp .ne 9, 3) := by decide +kernel
theorem dX5_rungInWeather_24 : decode cX5_rungInWeather 24 = .ok (.iload_n 2, 1) := by decide +kernel
theorem dX5_rungInWeather_25 : decode cX5_rungInWeather 25 = .ok (.iconst 1, 1) := by decide +kernel
theorem dX5_rungInWeather_26 : decode cX5_rungInWeather 26 = .ok (.iload_n 3, 1) := by decide +kernel
theorem dX5_rungInWeather_27 : decode cX5_rungInWeather 27 = .ok (.ishl, 1) := by decide +kernel
theorem dX5_rungInWeather_28 : decode cX5_rungInWeather 28 = .ok (.ior, 1) := by decide +kernel
theorem dX5_rungInWeather_29 : decode cX5_rungInWeather 29 = .ok (.istore_n 2, 1) := by decide +kernel
theorem dX5_rungInWeather_30 : decode cX5_rungInWeather 30 = .ok (.iinc 3 1, 3) := by decide +kernel
theorem dX5_rungInWeather_33 : decode cX5_rungInWeather 33 = .ok (.goto (-29), 3) := by decide +kernel
theorem dX5_rungInWeather_36 : decode cX5_rungInWeather 36 = .ok (.iload_n 2, 1) := by decide +kernel
theorem dX5_rungInWeather_37 : decode cX5_rungInWeather 37 = .ok (.ireturn, 1) := by decide +kernel
theorem dX5_countBackIn_0 : decode cX5_countBackIn 0 = .ok (.iconst 0, 1) := by decide +kernel
theorem dX5_countBackIn_1 : decode cX5_countBackIn 1 = .ok (.istore_n 2, 1) := by decide +kernel
theorem dX5_countBackIn_2 : decode cX5_countBackIn 2 = .ok (.iconst 0, 1) := by decide +kernel
theorem dX5_countBackIn_3 : decode cX5_countBackIn 3 = .ok (.istore_n 3, 1) := by decide +kernel
theorem dX5_countBackIn_4 : decode cX5_countBackIn 4 = .ok (.iload_n 3, 1) := by decide +kernel
theorem dX5_countBackIn_5 : decode cX5_countBackIn 5 = .ok (.aload_n 0, 1) := by decide +kernel
theorem dX5_countBackIn_6 : decode cX5_countBackIn 6 = .ok (.getfield 9, 3) := by decide +kernel
theorem dX5_countBackIn_9 : decode cX5_countBackIn 9 = .ok (.if_icmp .ge 43, 3) := by decide +kernel
theorem dX5_countBackIn_12 : decode cX5_countBackIn 12 = .ok (.aload_n 0, 1) := by decide +kernel
theorem dX5_countBackIn_13 : decode cX5_countBackIn 13 = .ok (.getfield 28, 3) := by decide +kernel
theorem dX5_countBackIn_16 : decode cX5_countBackIn 16 = .ok (.iload_n 3, 1) := by decide +kernel
theorem dX5_countBackIn_17 : decode cX5_countBackIn 17 = .ok (.invokestatic 97, 3) := by decide +kernel
theorem dX5_countBackIn_20 : decode cX5_countBackIn 20 = .ok (.ifCond .eq 26, 3) := by decide +kernel
theorem dX5_countBackIn_23 : decode cX5_countBackIn 23 = .ok (.aload_n 0, 1) := by decide +kernel
theorem dX5_countBackIn_24 : decode cX5_countBackIn 24 = .ok (.iload_n 3, 1) := by decide +kernel
theorem dX5_countBackIn_25 : decode cX5_countBackIn 25 = .ok (.invokevirtual 86, 3) := by decide +kernel
theorem dX5_countBackIn_28 : decode cX5_countBackIn 28 = .ok (.ifCond .eq 18, 3) := by decide +kernel
theorem dX5_countBackIn_31 : decode cX5_countBackIn 31 = .ok (.aload_n 0, 1) := by decide +kernel
theorem dX5_countBackIn_32 : decode cX5_countBackIn 32 = .ok (.getfield 19, 3) := by decide +kernel
theorem dX5_countBackIn_35 : decode cX5_countBackIn 35 = .ok (.iload_n 3, 1) := by decide +kernel
theorem dX5_countBackIn_36 : decode cX5_countBackIn 36 = .ok (.invokestatic 71, 3) := by decide +kernel
theorem dX5_countBackIn_39 : decode cX5_countBackIn 39 = .ok (.iload_n 1, 1) := by decide +kernel
theorem dX5_countBackIn_40 : decode cX5_countBackIn 40 = .ok (.if_icmp .ne 6, 3) := by decide +kernel
theorem dX5_countBackIn_43 : decode cX5_countBackIn 43 = .ok (.iinc 2 1, 3) := by decide +kernel
theorem dX5_countBackIn_46 : decode cX5_countBackIn 46 = .ok (.iinc 3 1, 3) := by decide +kernel
theorem dX5_countBackIn_49 : decode cX5_countBackIn 49 = .ok (.goto (-45), 3) := by decide +kernel
theorem dX5_countBackIn_52 : decode cX5_countBackIn 52 = .ok (.iload_n 2, 1) := by decide +kernel
theorem dX5_countBackIn_53 : decode cX5_countBackIn 53 = .ok (.ireturn, 1) := by decide +kernel
theorem dX5_fullestWeather_0 : decode cX5_fullestWeather 0 = .ok (.iconst 0, 1) := by decide +kernel
theorem dX5_fullestWeather_1 : decode cX5_fullestWeather 1 = .ok (.istore_n 1, 1) := by decide +kernel
theorem dX5_fullestWeather_2 : decode cX5_fullestWeather 2 = .ok (.iconst 1, 1) := by decide +kernel
theorem dX5_fullestWeather_3 : decode cX5_fullestWeather 3 = .ok (.istore_n 2, 1) := by decide +kernel
theorem dX5_fullestWeather_4 : decode cX5_fullestWeather 4 = .ok (.iload_n 2, 1) := by decide +kernel
theorem dX5_fullestWeather_5 : decode cX5_fullestWeather 5 = .ok (.iconst 3, 1) := by decide +kernel
theorem dX5_fullestWeather_6 : decode cX5_fullestWeather 6 = .ok (.if_icmp .gt 24, 3) := by decide +kernel
theorem dX5_fullestWeather_9 : decode cX5_fullestWeather 9 = .ok (.aload_n 0, 1) := by decide +kernel
theorem dX5_fullestWeather_10 : decode cX5_fullestWeather 10 = .ok (.iload_n 2, 1) := by decide +kernel
theorem dX5_fullestWeather_11 : decode cX5_fullestWeather 11 = .ok (.invokevirtual 149, 3) := by decide +kernel
theorem dX5_fullestWeather_14 : decode cX5_fullestWeather 14 = .ok (.aload_n 0, 1) := by decide +kernel
theorem dX5_fullestWeather_15 : decode cX5_fullestWeather 15 = .ok (.iload_n 1, 1) := by decide +kernel
theorem dX5_fullestWeather_16 : decode cX5_fullestWeather 16 = .ok (.invokevirtual 149, 3) := by decide +kernel
theorem dX5_fullestWeather_19 : decode cX5_fullestWeather 19 = .ok (.if_icmp .le 5, 3) := by decide +kernel
theorem dX5_fullestWeather_22 : decode cX5_fullestWeather 22 = .ok (.iload_n 2, 1) := by decide +kernel
theorem dX5_fullestWeather_23 : decode cX5_fullestWeather 23 = .ok (.istore_n 1, 1) := by decide +kernel
theorem dX5_fullestWeather_24 : decode cX5_fullestWeather 24 = .ok (.iinc 2 1, 3) := by decide +kernel
theorem dX5_fullestWeather_27 : decode cX5_fullestWeather 27 = .ok (.goto (-23), 3) := by decide +kernel
theorem dX5_fullestWeather_30 : decode cX5_fullestWeather 30 = .ok (.iload_n 1, 1) := by decide +kernel
theorem dX5_fullestWeather_31 : decode cX5_fullestWeather 31 = .ok (.ireturn, 1) := by decide +kernel
theorem dX5_countOpenOn_0 : decode cX5_countOpenOn 0 = .ok (.iconst 0, 1) := by decide +kernel
theorem dX5_countOpenOn_1 : decode cX5_countOpenOn 1 = .ok (.istore_n 2, 1) := by decide +kernel
theorem dX5_countOpenOn_2 : decode cX5_countOpenOn 2 = .ok (.iconst 0, 1) := by decide +kernel
theorem dX5_countOpenOn_3 : decode cX5_countOpenOn 3 = .ok (.istore_n 3, 1) := by decide +kernel
theorem dX5_countOpenOn_4 : decode cX5_countOpenOn 4 = .ok (.iload_n 3, 1) := by decide +kernel
theorem dX5_countOpenOn_5 : decode cX5_countOpenOn 5 = .ok (.aload_n 0, 1) := by decide +kernel
theorem dX5_countOpenOn_6 : decode cX5_countOpenOn 6 = .ok (.getfield 9, 3) := by decide +kernel
theorem dX5_countOpenOn_9 : decode cX5_countOpenOn 9 = .ok (.if_icmp .ge 28, 3) := by decide +kernel
theorem dX5_countOpenOn_12 : decode cX5_countOpenOn 12 = .ok (.iload_n 3, 1) := by decide +kernel
theorem dX5_countOpenOn_13 : decode cX5_countOpenOn 13 = .ok (.bipush 8, 2) := by decide +kernel
theorem dX5_countOpenOn_15 : decode cX5_countOpenOn 15 = .ok (.irem, 1) := by decide +kernel
theorem dX5_countOpenOn_16 : decode cX5_countOpenOn 16 = .ok (.iload_n 1, 1) := by decide +kernel
theorem dX5_countOpenOn_17 : decode cX5_countOpenOn 17 = .ok (.if_icmp .ne 14, 3) := by decide +kernel
theorem dX5_countOpenOn_20 : decode cX5_countOpenOn 20 = .ok (.aload_n 0, 1) := by decide +kernel
theorem dX5_countOpenOn_21 : decode cX5_countOpenOn 21 = .ok (.iload_n 3, 1) := by decide +kernel
theorem dX5_countOpenOn_22 : decode cX5_countOpenOn 22 = .ok (.invokevirtual 86, 3) := by decide +kernel
theorem dX5_countOpenOn_25 : decode cX5_countOpenOn 25 = .ok (.ifCond .eq 6, 3) := by decide +kernel
theorem dX5_countOpenOn_28 : decode cX5_countOpenOn 28 = .ok (.iinc 2 1, 3) := by decide +kernel
theorem dX5_countOpenOn_31 : decode cX5_countOpenOn 31 = .ok (.iinc 3 1, 3) := by decide +kernel
theorem dX5_countOpenOn_34 : decode cX5_countOpenOn 34 = .ok (.goto (-30), 3) := by decide +kernel
theorem dX5_countOpenOn_37 : decode cX5_countOpenOn 37 = .ok (.iload_n 2, 1) := by decide +kernel
theorem dX5_countOpenOn_38 : decode cX5_countOpenOn 38 = .ok (.ireturn, 1) := by decide +kernel
theorem dX5_fullestBell_0 : decode cX5_fullestBell 0 = .ok (.iconst 0, 1) := by decide +kernel
theorem dX5_fullestBell_1 : decode cX5_fullestBell 1 = .ok (.istore_n 1, 1) := by decide +kernel
theorem dX5_fullestBell_2 : decode cX5_fullestBell 2 = .ok (.iconst 1, 1) := by decide +kernel
theorem dX5_fullestBell_3 : decode cX5_fullestBell 3 = .ok (.istore_n 2, 1) := by decide +kernel
theorem dX5_fullestBell_4 : decode cX5_fullestBell 4 = .ok (.iload_n 2, 1) := by decide +kernel
theorem dX5_fullestBell_5 : decode cX5_fullestBell 5 = .ok (.bipush 7, 2) := by decide +kernel
theorem dX5_fullestBell_7 : decode cX5_fullestBell 7 = .ok (.if_icmp .gt 24, 3) := by decide +kernel
theorem dX5_fullestBell_10 : decode cX5_fullestBell 10 = .ok (.aload_n 0, 1) := by decide +kernel
theorem dX5_fullestBell_11 : decode cX5_fullestBell 11 = .ok (.iload_n 2, 1) := by decide +kernel
theorem dX5_fullestBell_12 : decode cX5_fullestBell 12 = .ok (.invokevirtual 152, 3) := by decide +kernel
theorem dX5_fullestBell_15 : decode cX5_fullestBell 15 = .ok (.aload_n 0, 1) := by decide +kernel
theorem dX5_fullestBell_16 : decode cX5_fullestBell 16 = .ok (.iload_n 1, 1) := by decide +kernel
theorem dX5_fullestBell_17 : decode cX5_fullestBell 17 = .ok (.invokevirtual 152, 3) := by decide +kernel
theorem dX5_fullestBell_20 : decode cX5_fullestBell 20 = .ok (.if_icmp .le 5, 3) := by decide +kernel
theorem dX5_fullestBell_23 : decode cX5_fullestBell 23 = .ok (.iload_n 2, 1) := by decide +kernel
theorem dX5_fullestBell_24 : decode cX5_fullestBell 24 = .ok (.istore_n 1, 1) := by decide +kernel
theorem dX5_fullestBell_25 : decode cX5_fullestBell 25 = .ok (.iinc 2 1, 3) := by decide +kernel
theorem dX5_fullestBell_28 : decode cX5_fullestBell 28 = .ok (.goto (-24), 3) := by decide +kernel
theorem dX5_fullestBell_31 : decode cX5_fullestBell 31 = .ok (.iload_n 1, 1) := by decide +kernel
theorem dX5_fullestBell_32 : decode cX5_fullestBell 32 = .ok (.ireturn, 1) := by decide +kernel
theorem dX5_oldestBeen_0 : decode cX5_oldestBeen 0 = .ok (.iconst (-1), 1) := by decide +kernel
theorem dX5_oldestBeen_1 : decode cX5_oldestBeen 1 = .ok (.istore_n 2, 1) := by decide +kernel
theorem dX5_oldestBeen_2 : decode cX5_oldestBeen 2 = .ok (.iconst 0, 1) := by decide +kernel
theorem dX5_oldestBeen_3 : decode cX5_oldestBeen 3 = .ok (.istore_n 3, 1) := by decide +kernel
theorem dX5_oldestBeen_4 : decode cX5_oldestBeen 4 = .ok (.iload_n 3, 1) := by decide +kernel
theorem dX5_oldestBeen_5 : decode cX5_oldestBeen 5 = .ok (.aload_n 0, 1) := by decide +kernel
theorem dX5_oldestBeen_6 : decode cX5_oldestBeen 6 = .ok (.getfield 9, 3) := by decide +kernel
theorem dX5_oldestBeen_9 : decode cX5_oldestBeen 9 = .ok (.if_icmp .ge 63, 3) := by decide +kernel
theorem dX5_oldestBeen_12 : decode cX5_oldestBeen 12 = .ok (.aload_n 0, 1) := by decide +kernel
theorem dX5_oldestBeen_13 : decode cX5_oldestBeen 13 = .ok (.getfield 28, 3) := by decide +kernel
theorem dX5_oldestBeen_16 : decode cX5_oldestBeen 16 = .ok (.iload_n 3, 1) := by decide +kernel
theorem dX5_oldestBeen_17 : decode cX5_oldestBeen 17 = .ok (.invokestatic 97, 3) := by decide +kernel
theorem dX5_oldestBeen_20 : decode cX5_oldestBeen 20 = .ok (.ifCond .eq 46, 3) := by decide +kernel
theorem dX5_oldestBeen_23 : decode cX5_oldestBeen 23 = .ok (.aload_n 0, 1) := by decide +kernel
theorem dX5_oldestBeen_24 : decode cX5_oldestBeen 24 = .ok (.getfield 22, 3) := by decide +kernel
theorem dX5_oldestBeen_27 : decode cX5_oldestBeen 27 = .ok (.iload_n 3, 1) := by decide +kernel
theorem dX5_oldestBeen_28 : decode cX5_oldestBeen 28 = .ok (.invokestatic 71, 3) := by decide +kernel
theorem dX5_oldestBeen_31 : decode cX5_oldestBeen 31 = .ok (.aload_n 0, 1) := by decide +kernel
theorem dX5_oldestBeen_32 : decode cX5_oldestBeen 32 = .ok (.getfield 22, 3) := by decide +kernel
theorem dX5_oldestBeen_35 : decode cX5_oldestBeen 35 = .ok (.iload_n 2, 1) := by decide +kernel
theorem dX5_oldestBeen_36 : decode cX5_oldestBeen 36 = .ok (.invokestatic 71, 3) := by decide +kernel
theorem dX5_oldestBeen_39 : decode cX5_oldestBeen 39 = .ok (.isub, 1) := by decide +kernel
theorem dX5_oldestBeen_40 : decode cX5_oldestBeen 40 = .ok (.istore 4, 2) := by decide +kernel
theorem dX5_oldestBeen_42 : decode cX5_oldestBeen 42 = .ok (.iload_n 2, 1) := by decide +kernel
theorem dX5_oldestBeen_43 : decode cX5_oldestBeen 43 = .ok (.iconst (-1), 1) := by decide +kernel
theorem dX5_oldestBeen_44 : decode cX5_oldestBeen 44 = .ok (.if_icmp .eq 20, 3) := by decide +kernel
theorem dX5_oldestBeen_47 : decode cX5_oldestBeen 47 = .ok (.iload_n 1, 1) := by decide +kernel
theorem dX5_oldestBeen_48 : decode cX5_oldestBeen 48 = .ok (.ifCond .eq 11, 3) := by decide +kernel
theorem dX5_oldestBeen_51 : decode cX5_oldestBeen 51 = .ok (.iload 4, 2) := by decide +kernel
theorem dX5_oldestBeen_53 : decode cX5_oldestBeen 53 = .ok (.ifCond .le 13, 3) := by decide +kernel
theorem dX5_oldestBeen_56 : decode cX5_oldestBeen 56 = .ok (.goto 8, 3) := by decide +kernel
theorem dX5_oldestBeen_59 : decode cX5_oldestBeen 59 = .ok (.iload 4, 2) := by decide +kernel
theorem dX5_oldestBeen_61 : decode cX5_oldestBeen 61 = .ok (.ifCond .ge 5, 3) := by decide +kernel
theorem dX5_oldestBeen_64 : decode cX5_oldestBeen 64 = .ok (.iload_n 3, 1) := by decide +kernel
theorem dX5_oldestBeen_65 : decode cX5_oldestBeen 65 = .ok (.istore_n 2, 1) := by decide +kernel
theorem dX5_oldestBeen_66 : decode cX5_oldestBeen 66 = .ok (.iinc 3 1, 3) := by decide +kernel
theorem dX5_oldestBeen_69 : decode cX5_oldestBeen 69 = .ok (.goto (-65), 3) := by decide +kernel
theorem dX5_oldestBeen_72 : decode cX5_oldestBeen 72 = .ok (.iload_n 2, 1) := by decide +kernel
theorem dX5_oldestBeen_73 : decode cX5_oldestBeen 73 = .ok (.ireturn, 1) := by decide +kernel
theorem dX6_init_0 : decode cX6_init 0 = .ok (.aload_n 0, 1) := by decide +kernel
theorem dX6_init_1 : decode cX6_init 1 = .ok (.invokespecial 1, 3) := by decide +kernel
theorem dX6_init_4 : decode cX6_init 4 = .ok (.aload_n 0, 1) := by decide +kernel
theorem dX6_init_5 : decode cX6_init 5 = .ok (.new 7, 3) := by decide +kernel
theorem dX6_init_8 : decode cX6_init 8 = .ok (.dup, 1) := by decide +kernel
theorem dX6_init_9 : decode cX6_init 9 = .ok (.invokespecial 9, 3) := by decide +kernel
theorem dX6_init_12 : decode cX6_init 12 = .ok (.putfield 10, 3) := by decide +kernel
theorem dX6_init_15 : decode cX6_init 15 = .ok (.aload_n 0, 1) := by decide +kernel
theorem dX6_init_16 : decode cX6_init 16 = .ok (.new 7, 3) := by decide +kernel
theorem dX6_init_19 : decode cX6_init 19 = .ok (.dup, 1) := by decide +kernel
theorem dX6_init_20 : decode cX6_init 20 = .ok (.invokespecial 9, 3) := by decide +kernel
theorem dX6_init_23 : decode cX6_init 23 = .ok (.putfield 16, 3) := by decide +kernel
theorem dX6_init_26 : decode cX6_init 26 = .ok (.aload_n 0, 1) := by decide +kernel
theorem dX6_init_27 : decode cX6_init 27 = .ok (.new 7, 3) := by decide +kernel
theorem dX6_init_30 : decode cX6_init 30 = .ok (.dup, 1) := by decide +kernel
theorem dX6_init_31 : decode cX6_init 31 = .ok (.invokespecial 9, 3) := by decide +kernel
theorem dX6_init_34 : decode cX6_init 34 = .ok (.putfield 19, 3) := by decide +kernel
theorem dX6_init_37 : decode cX6_init 37 = .ok (.aload_n 0, 1) := by decide +kernel
theorem dX6_init_38 : decode cX6_init 38 = .ok (.new 22, 3) := by decide +kernel
theorem dX6_init_41 : decode cX6_init 41 = .ok (.dup, 1) := by decide +kernel
theorem dX6_init_42 : decode cX6_init 42 = .ok (.invokespecial 24, 3) := by decide +kernel
theorem dX6_init_45 : decode cX6_init 45 = .ok (.putfield 25, 3) := by decide +kernel
theorem dX6_init_48 : decode cX6_init 48 = .ok (.aload_n 0, 1) := by decide +kernel
theorem dX6_init_49 : decode cX6_init 49 = .ok (.new 29, 3) := by decide +kernel
theorem dX6_init_52 : decode cX6_init 52 = .ok (.dup, 1) := by decide +kernel
theorem dX6_init_53 : decode cX6_init 53 = .ok (.invokespecial 31, 3) := by decide +kernel
theorem dX6_init_56 : decode cX6_init 56 = .ok (.putfield 32, 3) := by decide +kernel
theorem dX6_init_59 : decode cX6_init 59 = .ok (.aload_n 0, 1) := by decide +kernel
theorem dX6_init_60 : decode cX6_init 60 = .ok (.new 36, 3) := by decide +kernel
theorem dX6_init_63 : decode cX6_init 63 = .ok (.dup, 1) := by decide +kernel
theorem dX6_init_64 : decode cX6_init 64 = .ok (.invokespecial 38, 3) := by decide +kernel
theorem dX6_init_67 : decode cX6_init 67 = .ok (.putfield 39, 3) := by decide +kernel
theorem dX6_init_70 : decode cX6_init 70 = .ok (.aload_n 0, 1) := by decide +kernel
theorem dX6_init_71 : decode cX6_init 71 = .ok (.iconst 5, 1) := by decide +kernel
theorem dX6_init_72 : decode cX6_init 72 = .ok (.newarray .int, 2) := by decide +kernel
theorem dX6_init_74 : decode cX6_init 74 = .ok (.putfield 43, 3) := by decide +kernel
theorem dX6_init_77 : decode cX6_init 77 = .ok (.aload_n 0, 1) := by decide +kernel
theorem dX6_init_78 : decode cX6_init 78 = .ok (.iconst 0, 1) := by decide +kernel
theorem dX6_init_79 : decode cX6_init 79 = .ok (.putfield 47, 3) := by decide +kernel
theorem dX6_init_82 : decode cX6_init 82 = .ok (.return_, 1) := by decide +kernel
theorem dX6_row_0 : decode cX6_row 0 = .ok (.iload_n 1, 1) := by decide +kernel
theorem dX6_row_1 : decode cX6_row 1 = .ok (.invokestatic 51, 3) := by decide +kernel
theorem dX6_row_4 : decode cX6_row 4 = .ok (.ifCond .eq 20, 3) := by decide +kernel
theorem dX6_row_7 : decode cX6_row 7 = .ok (.iload_n 2, 1) := by decide +kernel
theorem dX6_row_8 : decode cX6_row 8 = .ok (.iconst 4, 1) := by decide +kernel
theorem dX6_row_9 : decode cX6_row 9 = .ok (.invokestatic 55, 3) := by decide +kernel
theorem dX6_row_12 : decode cX6_row 12 = .ok (.ifCond .eq 12, 3) := by decide +kernel
theorem dX6_row_15 : decode cX6_row 15 = .ok (.iload_n 3, 1) := by decide +kernel
theorem dX6_row_16 : decode cX6_row 16 = .ok (.bipush 40, 2) := by decide +kernel
theorem dX6_row_18 : decode cX6_row 18 = .ok (.invokestatic 55, 3) := by decide +kernel
theorem dX6_row_21 : decode cX6_row 21 = .ok (.ifCond .ne 10, 3) := by decide +kernel
theorem dX6_row_24 : decode cX6_row 24 = .ok (.aload_n 0, 1) := by decide +kernel
theorem dX6_row_25 : decode cX6_row 25 = .ok (.bipush (-2), 2) := by decide +kernel
theorem dX6_row_27 : decode cX6_row 27 = .ok (.invokevirtual 59, 3) := by decide +kernel
theorem dX6_row_30 : decode cX6_row 30 = .ok (.ireturn, 1) := by decide +kernel
theorem dX6_row_31 : decode cX6_row 31 = .ok (.aload_n 0, 1) := by decide +kernel
theorem dX6_row_32 : decode cX6_row 32 = .ok (.getfield 25, 3) := by decide +kernel
theorem dX6_row_35 : decode cX6_row 35 = .ok (.iload_n 1, 1) := by decide +kernel
theorem dX6_row_36 : decode cX6_row 36 = .ok (.iload_n 2, 1) := by decide +kernel
theorem dX6_row_37 : decode cX6_row 37 = .ok (.iload_n 3, 1) := by decide +kernel
theorem dX6_row_38 : decode cX6_row 38 = .ok (.invokevirtual 63, 3) := by decide +kernel
theorem dX6_row_41 : decode cX6_row 41 = .ok (.iconst 1, 1) := by decide +kernel
theorem dX6_row_42 : decode cX6_row 42 = .ok (.ireturn, 1) := by decide +kernel
theorem dX6_set_0 : decode cX6_set 0 = .ok (.aload_n 0, 1) := by decide +kernel
theorem dX6_set_1 : decode cX6_set 1 = .ok (.iload_n 1, 1) := by decide +kernel
theorem dX6_set_2 : decode cX6_set 2 = .ok (.invokevirtual 67, 3) := by decide +kernel
theorem dX6_set_5 : decode cX6_set 5 = .ok (.istore 5, 2) := by decide +kernel
theorem dX6_set_7 : decode cX6_set 7 = .ok (.iload 5, 2) := by decide +kernel
theorem dX6_set_9 : decode cX6_set 9 = .ok (.ifCond .eq 10, 3) := by decide +kernel
theorem dX6_set_12 : decode cX6_set 12 = .ok (.aload_n 0, 1) := by decide +kernel
theorem dX6_set_13 : decode cX6_set 13 = .ok (.iload 5, 2) := by decide +kernel
theorem dX6_set_15 : decode cX6_set 15 = .ok (.invokevirtual 59, 3) := by decide +kernel
theorem dX6_set_18 : decode cX6_set 18 = .ok (.ireturn, 1) := by decide +kernel
theorem dX6_set_19 : decode cX6_set 19 = .ok (.iload_n 2, 1) := by decide +kernel
theorem dX6_set_20 : decode cX6_set 20 = .ok (.ifCond .lt 15, 3) := by decide +kernel
theorem dX6_set_23 : decode cX6_set 23 = .ok (.iload_n 2, 1) := by decide +kernel
theorem dX6_set_24 : decode cX6_set 24 = .ok (.aload_n 0, 1) := by decide +kernel
theorem dX6_set_25 : decode cX6_set 25 = .ok (.getfield 25, 3) := by decide +kernel
theorem dX6_set_28 : decode cX6_set 28 = .ok (.iload_n 1, 1) := by decide +kernel
theorem dX6_set_29 : decode cX6_set 29 = .ok (.invokevirtual 70, 3) := by decide +kernel
theorem dX6_set_32 : decode cX6_set 32 = .ok (.if_icmp .lt 10, 3) := by decide +kernel
theorem dX6_set_35 : decode cX6_set 35 = .ok (.aload_n 0, 1) := by decide +kernel
theorem dX6_set_36 : decode cX6_set 36 = .ok (.bipush (-2), 2) := by decide +kernel
theorem dX6_set_38 : decode cX6_set 38 = .ok (.invokevirtual 59, 3) := by decide +kernel
theorem dX6_set_41 : decode cX6_set 41 = .ok (.ireturn, 1) := by decide +kernel
theorem dX6_set_42 : decode cX6_set 42 = .ok (.aload_n 0, 1) := by decide +kernel
theorem dX6_set_43 : decode cX6_set 43 = .ok (.getfield 25, 3) := by decide +kernel
theorem dX6_set_46 : decode cX6_set 46 = .ok (.iload_n 1, 1) := by decide +kernel
theorem dX6_set_47 : decode cX6_set 47 = .ok (.iload_n 2, 1) := by decide +kernel
theorem dX6_set_48 : decode cX6_set 48 = .ok (.lload_n 3, 1) := by decide +kernel
theorem dX6_set_49 : decode cX6_set 49 = .ok (.invokevirtual 73, 3) := by decide +kernel
theorem dX6_set_52 : decode cX6_set 52 = .ok (.iconst 1, 1) := by decide +kernel
theorem dX6_set_53 : decode cX6_set 53 = .ok (.ireturn, 1) := by decide +kernel
theorem dX6_copy_0 : decode cX6_copy 0 = .ok (.iload_n 1, 1) := by decide +kernel
theorem dX6_copy_1 : decode cX6_copy 1 = .ok (.invokestatic 51, 3) := by decide +kernel
theorem dX6_copy_4 : decode cX6_copy 4 = .ok (.ifCond .eq 10, 3) := by decide +kernel
theorem dX6_copy_7 : decode cX6_copy 7 = .ok (.iload_n 2, 1) := by decide +kernel
theorem dX6_copy_8 : decode cX6_copy 8 = .ok (.invokestatic 51, 3) := by decide +kernel
theorem dX6_copy_11 : decode cX6_copy 11 = .ok (.ifCond .ne 10, 3) := by decide +kernel
theorem dX6_copy_14 : decode cX6_copy 14 = .ok (.aload_n 0, 1) := by decide +kernel
theorem dX6_copy_15 : decode cX6_copy 15 = .ok (.bipush (-2), 2) := by decide +kernel
theorem dX6_copy_17 : decode cX6_copy 17 = .ok (.invokevirtual 59, 3) := by decide +kernel
theorem dX6_copy_20 : decode cX6_copy 20 = .ok (.ireturn, 1) := by decide +kernel
theorem dX6_copy_21 : decode cX6_copy 21 = .ok (.aload_n 0, 1) := by decide +kernel
theorem dX6_copy_22 : decode cX6_copy 22 = .ok (.getfield 25, 3) := by decide +kernel
theorem dX6_copy_25 : decode cX6_copy 25 = .ok (.iload_n 1, 1) := by decide +kernel
theorem dX6_copy_26 : decode cX6_copy 26 = .ok (.invokevirtual 77, 3) := by decide +kernel
theorem dX6_copy_29 : decode cX6_copy 29 = .ok (.ifCond .ne 14, 3) := by decide +kernel
theorem dX6_copy_32 : decode cX6_copy 32 = .ok (.aload_n 0, 1) := by decide +kernel
theorem dX6_copy_33 : decode cX6_copy 33 = .ok (.getfield 25, 3) := by decide +kernel
theorem dX6_copy_36 : decode cX6_copy 36 = .ok (.iload_n 2, 1) := by decide +kernel
theorem dX6_copy_37 : decode cX6_copy 37 = .ok (.invokevirtual 77, 3) := by decide +kernel
theorem dX6_copy_40 : decode cX6_copy 40 = .ok (.ifCond .eq 10, 3) := by decide +kernel
theorem dX6_copy_43 : decode cX6_copy 43 = .ok (.aload_n 0, 1) := by decide +kernel
theorem dX6_copy_44 : decode cX6_copy 44 = .ok (.bipush (-3), 2) := by decide +kernel
theorem dX6_copy_46 : decode cX6_copy 46 = .ok (.invokevirtual 59, 3) := by decide +kernel
theorem dX6_copy_49 : decode cX6_copy 49 = .ok (.ireturn, 1) := by decide +kernel
theorem dX6_copy_50 : decode cX6_copy 50 = .ok (.aload_n 0, 1) := by decide +kernel
theorem dX6_copy_51 : decode cX6_copy 51 = .ok (.getfield 25, 3) := by decide +kernel
theorem dX6_copy_54 : decode cX6_copy 54 = .ok (.iload_n 1, 1) := by decide +kernel
theorem dX6_copy_55 : decode cX6_copy 55 = .ok (.invokevirtual 80, 3) := by decide +kernel
theorem dX6_copy_58 : decode cX6_copy 58 = .ok (.ifCond .eq 18, 3) := by decide +kernel
theorem dX6_copy_61 : decode cX6_copy 61 = .ok (.aload_n 0, 1) := by decide +kernel
theorem dX6_copy_62 : decode cX6_copy 62 = .ok (.getfield 25, 3) := by decide +kernel
theorem dX6_copy_65 : decode cX6_copy 65 = .ok (.iload_n 2, 1) := by decide +kernel
theorem dX6_copy_66 : decode cX6_copy 66 = .ok (.invokevirtual 80, 3) := by decide +kernel
theorem dX6_copy_69 : decode cX6_copy 69 = .ok (.ifCond .eq 7, 3) := by decide +kernel
theorem dX6_copy_72 : decode cX6_copy 72 = .ok (.iconst 1, 1) := by decide +kernel
theorem dX6_copy_73 : decode cX6_copy 73 = .ok (.goto 4, 3) := by decide +kernel
theorem dX6_copy_76 : decode cX6_copy 76 = .ok (.iconst 0, 1) := by decide +kernel
theorem dX6_copy_77 : decode cX6_copy 77 = .ok (.istore 6, 2) := by decide +kernel
theorem dX6_copy_79 : decode cX6_copy 79 = .ok (.iload 6, 2) := by decide +kernel
theorem dX6_copy_81 : decode cX6_copy 81 = .ok (.ifCond .eq 29, 3) := by decide +kernel
theorem dX6_copy_84 : decode cX6_copy 84 = .ok (.aload_n 0, 1) := by decide +kernel
theorem dX6_copy_85 : decode cX6_copy 85 = .ok (.getfield 25, 3) := by decide +kernel
theorem dX6_copy_88 : decode cX6_copy 88 = .ok (.iload_n 1, 1) := by decide +kernel
theorem dX6_copy_89 : decode cX6_copy 89 = .ok (.invokevirtual 83, 3) := by decide +kernel
theorem dX6_copy_92 : decode cX6_copy 92 = .ok (.aload_n 0, 1) := by decide +kernel
theorem dX6_copy_93 : decode cX6_copy 93 = .ok (.getfield 25, 3) := by decide +kernel
theorem dX6_copy_96 : decode cX6_copy 96 = .ok (.iload_n 2, 1) := by decide +kernel
theorem dX6_copy_97 : decode cX6_copy 97 = .ok (.invokevirtual 83, 3) := by decide +kernel
theorem dX6_copy_100 : decode cX6_copy 100 = .ok (.if_icmp .eq 10, 3) := by decide +kernel
theorem dX6_copy_103 : decode cX6_copy 103 = .ok (.aload_n 0, 1) := by decide +kernel
theorem dX6_copy_104 : decode cX6_copy 104 = .ok (.bipush (-3), 2) := by decide +kernel
theorem dX6_copy_106 : decode cX6_copy 106 = .ok (.invokevirtual 59, 3) := by decide +kernel
theorem dX6_copy_109 : decode cX6_copy 109 = .ok (.ireturn, 1) := by decide +kernel
theorem dX6_copy_110 : decode cX6_copy 110 = .ok (.iload 6, 2) := by decide +kernel
theorem dX6_copy_112 : decode cX6_copy 112 = .ok (.ifCond .ne 10, 3) := by decide +kernel
theorem dX6_copy_115 : decode cX6_copy 115 = .ok (.aload_n 0, 1) := by decide +kernel
theorem dX6_copy_116 : decode cX6_copy 116 = .ok (.bipush (-4), 2) := by decide +kernel
theorem dX6_copy_118 : decode cX6_copy 118 = .ok (.invokevirtual 59, 3) := by decide +kernel
theorem dX6_copy_121 : decode cX6_copy 121 = .ok (.ireturn, 1) := by decide +kernel
theorem dX6_copy_122 : decode cX6_copy 122 = .ok (.aload_n 0, 1) := by decide +kernel
theorem dX6_copy_123 : decode cX6_copy 123 = .ok (.getfield 25, 3) := by decide +kernel
theorem dX6_copy_126 : decode cX6_copy 126 = .ok (.iload_n 1, 1) := by decide +kernel
theorem dX6_copy_127 : decode cX6_copy 127 = .ok (.iload_n 3, 1) := by decide +kernel
theorem dX6_copy_128 : decode cX6_copy 128 = .ok (.iload 5, 2) := by decide +kernel
theorem dX6_copy_130 : decode cX6_copy 130 = .ok (.invokevirtual 86, 3) := by decide +kernel
theorem dX6_copy_133 : decode cX6_copy 133 = .ok (.ifCond .eq 18, 3) := by decide +kernel
theorem dX6_copy_136 : decode cX6_copy 136 = .ok (.aload_n 0, 1) := by decide +kernel
theorem dX6_copy_137 : decode cX6_copy 137 = .ok (.getfield 25, 3) := by decide +kernel
theorem dX6_copy_140 : decode cX6_copy 140 = .ok (.iload_n 2, 1) := by decide +kernel
theorem dX6_copy_141 : decode cX6_copy 141 = .ok (.iload 4, 2) := by decide +kernel
theorem dX6_copy_143 : decode cX6_copy 143 = .ok (.iload 5, 2) := by decide +kernel
theorem dX6_copy_145 : decode cX6_copy 145 = .ok (.invokevirtual 86, 3) := by decide +kernel
theorem dX6_copy_148 : decode cX6_copy 148 = .ok (.ifCond .ne 10, 3) := by decide +kernel
theorem dX6_copy_151 : decode cX6_copy 151 = .ok (.aload_n 0, 1) := by decide +kernel
theorem dX6_copy_152 : decode cX6_copy 152 = .ok (.bipush (-2), 2) := by decide +kernel
theorem dX6_copy_154 : decode cX6_copy 154 = .ok (.invokevirtual 59, 3) := by decide +kernel
theorem dX6_copy_157 : decode cX6_copy 157 = .ok (.ireturn, 1) := by decide +kernel
theorem dX6_copy_158 : decode cX6_copy 158 = .ok (.aload_n 0, 1) := by decide +kernel
theorem dX6_copy_159 : decode cX6_copy 159 = .ok (.getfield 25, 3) := by decide +kernel
theorem dX6_copy_162 : decode cX6_copy 162 = .ok (.iload_n 1, 1) := by decide +kernel
theorem dX6_copy_163 : decode cX6_copy 163 = .ok (.iload_n 2, 1) := by decide +kernel
theorem dX6_copy_164 : decode cX6_copy 164 = .ok (.iload_n 3, 1) := by decide +kernel
theorem dX6_copy_165 : decode cX6_copy 165 = .ok (.iload 4, 2) := by decide +kernel
theorem dX6_copy_167 : decode cX6_copy 167 = .ok (.iload 5, 2) := by decide +kernel
theorem dX6_copy_169 : decode cX6_copy 169 = .ok (.invokevirtual 90, 3) := by decide +kernel
theorem dX6_copy_172 : decode cX6_copy 172 = .ok (.iload 5, 2) := by decide +kernel
theorem dX6_copy_174 : decode cX6_copy 174 = .ok (.ireturn, 1) := by decide +kernel
theorem dX6_element_0 : decode cX6_element 0 = .ok (.aload_n 0, 1) := by decide +kernel
theorem dX6_element_1 : decode cX6_element 1 = .ok (.getfield 25, 3) := by decide +kernel
theorem dX6_element_4 : decode cX6_element 4 = .ok (.iload_n 1, 1) := by decide +kernel
theorem dX6_element_5 : decode cX6_element 5 = .ok (.iload_n 2, 1) := by decide +kernel
theorem dX6_element_6 : decode cX6_element 6 = .ok (.invokevirtual 94, 3) := by decide +kernel
theorem dX6_element_9 : decode cX6_element 9 = .ok (.lreturn, 1) := by decide +kernel
theorem dX6_holds_0 : decode cX6_holds 0 = .ok (.aload_n 0, 1) := by decide +kernel
theorem dX6_holds_1 : decode cX6_holds 1 = .ok (.getfield 25, 3) := by decide +kernel
theorem dX6_holds_4 : decode cX6_holds 4 = .ok (.iload_n 1, 1) := by decide +kernel
theorem dX6_holds_5 : decode cX6_holds 5 = .ok (.invokevirtual 83, 3) := by decide +kernel
theorem dX6_holds_8 : decode cX6_holds 8 = .ok (.ireturn, 1) := by decide +kernel
theorem dX6_show_0 : decode cX6_show 0 = .ok (.iload_n 1, 1) := by decide +kernel
theorem dX6_show_1 : decode cX6_show 1 = .ok (.invokestatic 51, 3) := by decide +kernel
theorem dX6_show_4 : decode cX6_show 4 = .ok (.ifCond .eq 22, 3) := by decide +kernel
theorem dX6_show_7 : decode cX6_show 7 = .ok (.iload_n 2, 1) := by decide +kernel
theorem dX6_show_8 : decode cX6_show 8 = .ok (.iconst (-1), 1) := by decide +kernel
theorem dX6_show_9 : decode cX6_show 9 = .ok (.if_icmp .eq 24, 3) := by decide +kernel
theorem dX6_show_12 : decode cX6_show 12 = .ok (.aload_n 0, 1) := by decide +kernel
theorem dX6_show_13 : decode cX6_show 13 = .ok (.getfield 10, 3) := by decide +kernel
theorem dX6_show_16 : decode cX6_show 16 = .ok (.getfield 98, 3) := by decide +kernel
theorem dX6_show_19 : decode cX6_show 19 = .ok (.iload_n 2, 1) := by decide +kernel
theorem dX6_show_20 : decode cX6_show 20 = .ok (.invokevirtual 102, 3) := by decide +kernel
theorem dX6_show_23 : decode cX6_show 23 = .ok (.ifCond .ne 10, 3) := by decide +kernel
theorem dX6_show_26 : decode cX6_show 26 = .ok (.aload_n 0, 1) := by decide +kernel
theorem dX6_show_27 : decode cX6_show 27 = .ok (.bipush (-2), 2) := by decide +kernel
theorem dX6_show_29 : decode cX6_show 29 = .ok (.invokevirtual 59, 3) := by decide +kernel
theorem dX6_show_32 : decode cX6_show 32 = .ok (.ireturn, 1) := by decide +kernel
theorem dX6_show_33 : decode cX6_show 33 = .ok (.aload_n 0, 1) := by decide +kernel
theorem dX6_show_34 : decode cX6_show 34 = .ok (.getfield 25, 3) := by decide +kernel
theorem dX6_show_37 : decode cX6_show 37 = .ok (.iload_n 1, 1) := by decide +kernel
theorem dX6_show_38 : decode cX6_show 38 = .ok (.iload_n 2, 1) := by decide +kernel
theorem dX6_show_39 : decode cX6_show 39 = .ok (.invokevirtual 107, 3) := by decide +kernel
theorem dX6_show_42 : decode cX6_show 42 = .ok (.iconst 1, 1) := by decide +kernel
theorem dX6_show_43 : decode cX6_show 43 = .ok (.ireturn, 1) := by decide +kernel
theorem dX6_says_0 : decode cX6_says 0 = .ok (.iload_n 1, 1) := by decide +kernel
theorem dX6_says_1 : decode cX6_says 1 = .ok (.invokestatic 51, 3) := by decide +kernel
theorem dX6_says_4 : decode cX6_says 4 = .ok (.ifCond .eq 11, 3) := by decide +kernel
theorem dX6_says_7 : decode cX6_says 7 = .ok (.iload_n 2, 1) := by decide +kernel
theorem dX6_says_8 : decode cX6_says 8 = .ok (.iconst 5, 1) := by decide +kernel
theorem dX6_says_9 : decode cX6_says 9 = .ok (.invokestatic 55, 3) := by decide +kernel
theorem dX6_says_12 : decode cX6_says 12 = .ok (.ifCond .ne 10, 3) := by decide +kernel
theorem dX6_says_15 : decode cX6_says 15 = .ok (.aload_n 0, 1) := by decide +kernel
theorem dX6_says_16 : decode cX6_says 16 = .ok (.bipush (-2), 2) := by decide +kernel
theorem dX6_says_18 : decode cX6_says 18 = .ok (.invokevirtual 59, 3) := by decide +kernel
theorem dX6_says_21 : decode cX6_says 21 = .ok (.ireturn, 1) := by decide +kernel
theorem dX6_says_22 : decode cX6_says 22 = .ok (.aload_n 0, 1) := by decide +kernel
theorem dX6_says_23 : decode cX6_says 23 = .ok (.getfield 25, 3) := by decide +kernel
theorem dX6_says_26 : decode cX6_says 26 = .ok (.iload_n 1, 1) := by decide +kernel
theorem dX6_says_27 : decode cX6_says 27 = .ok (.invokevirtual 111, 3) := by decide +kernel
theorem dX6_says_30 : decode cX6_says 30 = .ok (.istore_n 3, 1) := by decide +kernel
theorem dX6_says_31 : decode cX6_says 31 = .ok (.iload_n 3, 1) := by decide +kernel
theorem dX6_says_32 : decode cX6_says 32 = .ok (.iconst (-1), 1) := by decide +kernel
theorem dX6_says_33 : decode cX6_says 33 = .ok (.if_icmp .eq 25, 3) := by decide +kernel
theorem dX6_says_36 : decode cX6_says 36 = .ok (.aload_n 0, 1) := by decide +kernel
theorem dX6_says_37 : decode cX6_says 37 = .ok (.getfield 10, 3) := by decide +kernel
theorem dX6_says_40 : decode cX6_says 40 = .ok (.getfield 98, 3) := by decide +kernel
theorem dX6_says_43 : decode cX6_says 43 = .ok (.iload_n 3, 1) := by decide +kernel
theorem dX6_says_44 : decode cX6_says 44 = .ok (.invokevirtual 114, 3) := by decide +kernel
theorem dX6_says_47 : decode cX6_says 47 = .ok (.iload_n 2, 1) := by decide +kernel
theorem dX6_says_48 : decode cX6_says 48 = .ok (.invokestatic 117, 3) := by decide +kernel
theorem dX6_says_51 : decode cX6_says 51 = .ok (.ifCond .eq 7, 3) := by decide +kernel
theorem dX6_says_54 : decode cX6_says 54 = .ok (.iconst 1, 1) := by decide +kernel
theorem dX6_says_55 : decode cX6_says 55 = .ok (.goto 4, 3) := by decide +kernel
theorem dX6_says_58 : decode cX6_says 58 = .ok (.iconst 0, 1) := by decide +kernel
theorem dX6_says_59 : decode cX6_says 59 = .ok (.istore 4, 2) := by decide +kernel
theorem dX6_says_61 : decode cX6_says 61 = .ok (.aload_n 0, 1) := by decide +kernel
theorem dX6_says_62 : decode cX6_says 62 = .ok (.getfield 25, 3) := by decide +kernel
theorem dX6_says_65 : decode cX6_says 65 = .ok (.iload_n 1, 1) := by decide +kernel
theorem dX6_says_66 : decode cX6_says 66 = .ok (.invokevirtual 80, 3) := by decide +kernel
theorem dX6_says_69 : decode cX6_says 69 = .ok (.ifCond .ne 13, 3) := by decide +kernel
theorem dX6_says_72 : decode cX6_says 72 = .ok (.iload_n 3, 1) := by decide +kernel
theorem dX6_says_73 : decode cX6_says 73 = .ok (.iconst (-1), 1) := by decide +kernel
theorem dX6_says_74 : decode cX6_says 74 = .ok (.if_icmp .eq 15, 3) := by decide +kernel
theorem dX6_says_77 : decode cX6_says 77 = .ok (.iload 4, 2) := by decide +kernel
theorem dX6_says_79 : decode cX6_says 79 = .ok (.ifCond .ne 10, 3) := by decide +kernel
theorem dX6_says_82 : decode cX6_says 82 = .ok (.aload_n 0, 1) := by decide +kernel
theorem dX6_says_83 : decode cX6_says 83 = .ok (.bipush (-3), 2) := by decide +kernel
theorem dX6_says_85 : decode cX6_says 85 = .ok (.invokevirtual 59, 3) := by decide +kernel
theorem dX6_says_88 : decode cX6_says 88 = .ok (.ireturn, 1) := by decide +kernel
theorem dX6_says_89 : decode cX6_says 89 = .ok (.iload_n 3, 1) := by decide +kernel
theorem dX6_says_90 : decode cX6_says 90 = .ok (.iconst (-1), 1) := by decide +kernel
theorem dX6_says_91 : decode cX6_says 91 = .ok (.if_icmp .ne 10, 3) := by decide +kernel
theorem dX6_says_94 : decode cX6_says 94 = .ok (.aload_n 0, 1) := by decide +kernel
theorem dX6_says_95 : decode cX6_says 95 = .ok (.bipush (-4), 2) := by decide +kernel
theorem dX6_says_97 : decode cX6_says 97 = .ok (.invokevirtual 59, 3) := by decide +kernel
theorem dX6_says_100 : decode cX6_says 100 = .ok (.ireturn, 1) := by decide +kernel
theorem dX6_says_101 : decode cX6_says 101 = .ok (.iload_n 2, 1) := by decide +kernel
theorem dX6_says_102 : decode cX6_says 102 = .ok (.ifCond .ne 17, 3) := by decide +kernel
theorem dX6_says_105 : decode cX6_says 105 = .ok (.aload_n 0, 1) := by decide +kernel
theorem dX6_says_106 : decode cX6_says 106 = .ok (.getfield 10, 3) := by decide +kernel
theorem dX6_says_109 : decode cX6_says 109 = .ok (.getfield 98, 3) := by decide +kernel
theorem dX6_says_112 : decode cX6_says 112 = .ok (.iload_n 3, 1) := by decide +kernel
theorem dX6_says_113 : decode cX6_says 113 = .ok (.invokevirtual 120, 3) := by decide +kernel
theorem dX6_says_116 : decode cX6_says 116 = .ok (.goto 21, 3) := by decide +kernel
theorem dX6_says_119 : decode cX6_says 119 = .ok (.aload_n 0, 1) := by decide +kernel
theorem dX6_says_120 : decode cX6_says 120 = .ok (.getfield 10, 3) := by decide +kernel
theorem dX6_says_123 : decode cX6_says 123 = .ok (.getfield 98, 3) := by decide +kernel
theorem dX6_says_126 : decode cX6_says 126 = .ok (.iload_n 3, 1) := by decide +kernel
theorem dX6_says_127 : decode cX6_says 127 = .ok (.aload_n 0, 1) := by decide +kernel
theorem dX6_says_128 : decode cX6_says 128 = .ok (.getfield 10, 3) := by decide +kernel
theorem dX6_says_131 : decode cX6_says 131 = .ok (.getfield 123, 3) := by decide +kernel
theorem dX6_says_134 : decode cX6_says 134 = .ok (.invokevirtual 127, 3) := by decide +kernel
theorem dX6_says_137 : decode cX6_says 137 = .ok (.ireturn, 1) := by decide +kernel
theorem dX6_thing_0 : decode cX6_thing 0 = .ok (.iload_n 1, 1) := by decide +kernel
theorem dX6_thing_1 : decode cX6_thing 1 = .ok (.iconst 0, 1) := by decide +kernel
theorem dX6_thing_2 : decode cX6_thing 2 = .ok (.invokestatic 131, 3) := by decide +kernel
theorem dX6_thing_5 : decode cX6_thing 5 = .ok (.invokestatic 55, 3) := by decide +kernel
theorem dX6_thing_8 : decode cX6_thing 8 = .ok (.ifCond .eq 11, 3) := by decide +kernel
theorem dX6_thing_11 : decode cX6_thing 11 = .ok (.iload_n 2, 1) := by decide +kernel
theorem dX6_thing_12 : decode cX6_thing 12 = .ok (.iconst 3, 1) := by decide +kernel
theorem dX6_thing_13 : decode cX6_thing 13 = .ok (.invokestatic 55, 3) := by decide +kernel
theorem dX6_thing_16 : decode cX6_thing 16 = .ok (.ifCond .ne 10, 3) := by decide +kernel
theorem dX6_thing_19 : decode cX6_thing 19 = .ok (.aload_n 0, 1) := by decide +kernel
theorem dX6_thing_20 : decode cX6_thing 20 = .ok (.bipush (-2), 2) := by decide +kernel
theorem dX6_thing_22 : decode cX6_thing 22 = .ok (.invokevirtual 59, 3) := by decide +kernel
theorem dX6_thing_25 : decode cX6_thing 25 = .ok (.ireturn, 1) := by decide +kernel
theorem dX6_thing_26 : decode cX6_thing 26 = .ok (.aload_n 0, 1) := by decide +kernel
theorem dX6_thing_27 : decode cX6_thing 27 = .ok (.getfield 10, 3) := by decide +kernel
theorem dX6_thing_30 : decode cX6_thing 30 = .ok (.invokevirtual 134, 3) := by decide +kernel
theorem dX6_thing_33 : decode cX6_thing 33 = .ok (.ifCond .ne 10, 3) := by decide +kernel
theorem dX6_thing_36 : decode cX6_thing 36 = .ok (.aload_n 0, 1) := by decide +kernel
theorem dX6_thing_37 : decode cX6_thing 37 = .ok (.bipush (-6), 2) := by decide +kernel
theorem dX6_thing_39 : decode cX6_thing 39 = .ok (.invokevirtual 59, 3) := by decide +kernel
theorem dX6_thing_42 : decode cX6_thing 42 = .ok (.ireturn, 1) := by decide +kernel
theorem dX6_thing_43 : decode cX6_thing 43 = .ok (.aload_n 0, 1) := by decide +kernel
theorem dX6_thing_44 : decode cX6_thing 44 = .ok (.getfield 10, 3) := by decide +kernel
theorem dX6_thing_47 : decode cX6_thing 47 = .ok (.iload_n 1, 1) := by decide +kernel
theorem dX6_thing_48 : decode cX6_thing 48 = .ok (.iload_n 2, 1) := by decide +kernel
theorem dX6_thing_49 : decode cX6_thing 49 = .ok (.invokevirtual 138, 3) := by decide +kernel
theorem dX6_thing_52 : decode cX6_thing 52 = .ok (.ireturn, 1) := by decide +kernel
theorem dX6_ringer_0 : decode cX6_ringer 0 = .ok (.iload_n 1, 1) := by decide +kernel
theorem dX6_ringer_1 : decode cX6_ringer 1 = .ok (.iconst 5, 1) := by decide +kernel
theorem dX6_ringer_2 : decode cX6_ringer 2 = .ok (.invokestatic 55, 3) := by decide +kernel
theorem dX6_ringer_5 : decode cX6_ringer 5 = .ok (.ifCond .eq 21, 3) := by decide +kernel
theorem dX6_ringer_8 : decode cX6_ringer 8 = .ok (.iload_n 2, 1) := by decide +kernel
theorem dX6_ringer_9 : decode cX6_ringer 9 = .ok (.bipush 9, 2) := by decide +kernel
theorem dX6_ringer_11 : decode cX6_ringer 11 = .ok (.invokestatic 55, 3) := by decide +kernel
theorem dX6_ringer_14 : decode cX6_ringer 14 = .ok (.ifCond .eq 12, 3) := by decide +kernel
theorem dX6_ringer_17 : decode cX6_ringer 17 = .ok (.iload_n 3, 1) := by decide +kernel
theorem dX6_ringer_18 : decode cX6_ringer 18 = .ok (.bipush 7, 2) := by decide +kernel
theorem dX6_ringer_20 : decode cX6_ringer 20 = .ok (.invokestatic 55, 3) := by decide +kernel
theorem dX6_ringer_23 : decode cX6_ringer 23 = .ok (.ifCond .ne 10, 3) := by decide +kernel
theorem dX6_ringer_26 : decode cX6_ringer 26 = .ok (.aload_n 0, 1) := by decide +kernel
theorem dX6_ringer_27 : decode cX6_ringer 27 = .ok (.bipush (-2), 2) := by decide +kernel
theorem dX6_ringer_29 : decode cX6_ringer 29 = .ok (.invokevirtual 59, 3) := by decide +kernel
theorem dX6_ringer_32 : decode cX6_ringer 32 = .ok (.ireturn, 1) := by decide +kernel
theorem dX6_ringer_33 : decode cX6_ringer 33 = .ok (.aload_n 0, 1) := by decide +kernel
theorem dX6_ringer_34 : decode cX6_ringer 34 = .ok (.getfield 10, 3) := by decide +kernel
theorem dX6_ringer_37 : decode cX6_ringer 37 = .ok (.getfield 98, 3) := by decide +kernel
theorem dX6_ringer_40 : decode cX6_ringer 40 = .ok (.invokevirtual 141, 3) := by decide +kernel
theorem dX6_ringer_43 : decode cX6_ringer 43 = .ok (.ifCond .ne 10, 3) := by decide +kernel
theorem dX6_ringer_46 : decode cX6_ringer 46 = .ok (.aload_n 0, 1) := by decide +kernel
theorem dX6_ringer_47 : decode cX6_ringer 47 = .ok (.bipush (-6), 2) := by decide +kernel
theorem dX6_ringer_49 : decode cX6_ringer 49 = .ok (.invokevirtual 59, 3) := by decide +kernel
theorem dX6_ringer_52 : decode cX6_ringer 52 = .ok (.ireturn, 1) := by decide +kernel
theorem dX6_ringer_53 : decode cX6_ringer 53 = .ok (.aload_n 0, 1) := by decide +kernel
theorem dX6_ringer_54 : decode cX6_ringer 54 = .ok (.getfield 10, 3) := by decide +kernel
theorem dX6_ringer_57 : decode cX6_ringer 57 = .ok (.getfield 98, 3) := by decide +kernel
theorem dX6_ringer_60 : decode cX6_ringer 60 = .ok (.iload_n 1, 1) := by decide +kernel
theorem dX6_ringer_61 : decode cX6_ringer 61 = .ok (.iload_n 2, 1) := by decide +kernel
theorem dX6_ringer_62 : decode cX6_ringer 62 = .ok (.iload_n 3, 1) := by decide +kernel
theorem dX6_ringer_63 : decode cX6_ringer 63 = .ok (.invokevirtual 142, 3) := by decide +kernel
theorem dX6_ringer_66 : decode cX6_ringer 66 = .ok (.ireturn, 1) := by decide +kernel
theorem dX6_hang_0 : decode cX6_hang 0 = .ok (.aload_n 0, 1) := by decide +kernel
theorem dX6_hang_1 : decode cX6_hang 1 = .ok (.getfield 10, 3) := by decide +kernel
theorem dX6_hang_4 : decode cX6_hang 4 = .ok (.iload_n 1, 1) := by decide +kernel
theorem dX6_hang_5 : decode cX6_hang 5 = .ok (.invokevirtual 146, 3) := by decide +kernel
theorem dX6_hang_8 : decode cX6_hang 8 = .ok (.ifCond .eq 20, 3) := by decide +kernel
theorem dX6_hang_11 : decode cX6_hang 11 = .ok (.iload_n 2, 1) := by decide +kernel
theorem dX6_hang_12 : decode cX6_hang 12 = .ok (.ifCond .lt 16, 3) := by decide +kernel
theorem dX6_hang_15 : decode cX6_hang 15 = .ok (.iload_n 2, 1) := by decide +kernel
theorem dX6_hang_16 : decode cX6_hang 16 = .ok (.iload_n 1, 1) := by decide +kernel
theorem dX6_hang_17 : decode cX6_hang 17 = .ok (.if_icmp .ge 11, 3) := by decide +kernel
theorem dX6_hang_20 : decode cX6_hang 20 = .ok (.iload_n 3, 1) := by decide +kernel
theorem dX6_hang_21 : decode cX6_hang 21 = .ok (.iconst 1, 1) := by decide +kernel
theorem dX6_hang_22 : decode cX6_hang 22 = .ok (.invokestatic 55, 3) := by decide +kernel
theorem dX6_hang_25 : decode cX6_hang 25 = .ok (.ifCond .ne 10, 3) := by decide +kernel
theorem dX6_hang_28 : decode cX6_hang 28 = .ok (.aload_n 0, 1) := by decide +kernel
theorem dX6_hang_29 : decode cX6_hang 29 = .ok (.bipush (-2), 2) := by decide +kernel
theorem dX6_hang_31 : decode cX6_hang 31 = .ok (.invokevirtual 59, 3) := by decide +kernel
theorem dX6_hang_34 : decode cX6_hang 34 = .ok (.ireturn, 1) := by decide +kernel
theorem dX6_hang_35 : decode cX6_hang 35 = .ok (.aload_n 0, 1) := by decide +kernel
theorem dX6_hang_36 : decode cX6_hang 36 = .ok (.getfield 10, 3) := by decide +kernel
theorem dX6_hang_39 : decode cX6_hang 39 = .ok (.iload_n 1, 1) := by decide +kernel
theorem dX6_hang_40 : decode cX6_hang 40 = .ok (.invokevirtual 149, 3) := by decide +kernel
theorem dX6_hang_43 : decode cX6_hang 43 = .ok (.iload_n 2, 1) := by decide +kernel
theorem dX6_hang_44 : decode cX6_hang 44 = .ok (.invokestatic 152, 3) := by decide +kernel
theorem dX6_hang_47 : decode cX6_hang 47 = .ok (.istore 4, 2) := by decide +kernel
theorem dX6_hang_49 : decode cX6_hang 49 = .ok (.aload_n 0, 1) := by decide +kernel
theorem dX6_hang_50 : decode cX6_hang 50 = .ok (.getfield 10, 3) := by decide +kernel
theorem dX6_hang_53 : decode cX6_hang 53 = .ok (.iload_n 1, 1) := by decide +kernel
theorem dX6_hang_54 : decode cX6_hang 54 = .ok (.iload_n 2, 1) := by decide +kernel
theorem dX6_hang_55 : decode cX6_hang 55 = .ok (.iload_n 3, 1) := by decide +kernel
theorem dX6_hang_56 : decode cX6_hang 56 = .ok (.iconst 1, 1) := by decide +kernel
theorem dX6_hang_57 : decode cX6_hang 57 = .ok (.if_icmp .ne 7, 3) := by decide +kernel
theorem dX6_hang_60 : decode cX6_hang 60 = .ok (.iconst 1, 1) := by decide +kernel
theorem dX6_hang_61 : decode cX6_hang 61 = .ok (.goto 4, 3) := by decide +kernel
theorem dX6_hang_64 : decode cX6_hang 64 = .ok (.iconst 0, 1) := by decide +kernel
theorem dX6_hang_65 : decode cX6_hang 65 = .ok (.invokevirtual 155, 3) := by decide +kernel
theorem dX6_hang_68 : decode cX6_hang 68 = .ok (.iload 4, 2) := by decide +kernel
theorem dX6_hang_70 : decode cX6_hang 70 = .ok (.ireturn, 1) := by decide +kernel
theorem dX6_give_0 : decode cX6_give 0 = .ok (.aload_n 0, 1) := by decide +kernel
theorem dX6_give_1 : decode cX6_give 1 = .ok (.getfield 10, 3) := by decide +kernel
theorem dX6_give_4 : decode cX6_give 4 = .ok (.iload_n 1, 1) := by decide +kernel
theorem dX6_give_5 : decode cX6_give 5 = .ok (.invokevirtual 146, 3) := by decide +kernel
theorem dX6_give_8 : decode cX6_give 8 = .ok (.ifCond .eq 22, 3) := by decide +kernel
theorem dX6_give_11 : decode cX6_give 11 = .ok (.iload_n 2, 1) := by decide +kernel
theorem dX6_give_12 : decode cX6_give 12 = .ok (.iconst 3, 1) := by decide +kernel
theorem dX6_give_13 : decode cX6_give 13 = .ok (.invokestatic 55, 3) := by decide +kernel
theorem dX6_give_16 : decode cX6_give 16 = .ok (.ifCond .eq 14, 3) := by decide +kernel
theorem dX6_give_19 : decode cX6_give 19 = .ok (.iload_n 3, 1) := by decide +kernel
theorem dX6_give_20 : decode cX6_give 20 = .ok (.iload_n 2, 1) := by decide +kernel
theorem dX6_give_21 : decode cX6_give 21 = .ok (.invokestatic 131, 3) := by decide +kernel
theorem dX6_give_24 : decode cX6_give 24 = .ok (.invokestatic 55, 3) := by decide +kernel
theorem dX6_give_27 : decode cX6_give 27 = .ok (.ifCond .ne 10, 3) := by decide +kernel
theorem dX6_give_30 : decode cX6_give 30 = .ok (.aload_n 0, 1) := by decide +kernel
theorem dX6_give_31 : decode cX6_give 31 = .ok (.bipush (-2), 2) := by decide +kernel
theorem dX6_give_33 : decode cX6_give 33 = .ok (.invokevirtual 59, 3) := by decide +kernel
theorem dX6_give_36 : decode cX6_give 36 = .ok (.ireturn, 1) := by decide +kernel
theorem dX6_give_37 : decode cX6_give 37 = .ok (.aload_n 0, 1) := by decide +kernel
theorem dX6_give_38 : decode cX6_give 38 = .ok (.getfield 10, 3) := by decide +kernel
theorem dX6_give_41 : decode cX6_give 41 = .ok (.iload_n 1, 1) := by decide +kernel
theorem dX6_give_42 : decode cX6_give 42 = .ok (.iload_n 2, 1) := by decide +kernel
theorem dX6_give_43 : decode cX6_give 43 = .ok (.invokevirtual 159, 3) := by decide +kernel
theorem dX6_give_46 : decode cX6_give 46 = .ok (.istore 4, 2) := by decide +kernel
theorem dX6_give_48 : decode cX6_give 48 = .ok (.aload_n 0, 1) := by decide +kernel
theorem dX6_give_49 : decode cX6_give 49 = .ok (.getfield 10, 3) := by decide +kernel
theorem dX6_give_52 : decode cX6_give 52 = .ok (.iload_n 1, 1) := by decide +kernel
theorem dX6_give_53 : decode cX6_give 53 = .ok (.iload_n 2, 1) := by decide +kernel
theorem dX6_give_54 : decode cX6_give 54 = .ok (.iload_n 3, 1) := by decide +kernel
theorem dX6_give_55 : decode cX6_give 55 = .ok (.invokevirtual 162, 3) := by decide +kernel
theorem dX6_give_58 : decode cX6_give 58 = .ok (.iload 4, 2) := by decide +kernel
theorem dX6_give_60 : decode cX6_give 60 = .ok (.ireturn, 1) := by decide +kernel
theorem dX6_tell_0 : decode cX6_tell 0 = .ok (.iload_n 1, 1) := by decide +kernel
theorem dX6_tell_1 : decode cX6_tell 1 = .ok (.iconst 2, 1) := by decide +kernel
theorem dX6_tell_2 : decode cX6_tell 2 = .ok (.invokestatic 55, 3) := by decide +kernel
theorem dX6_tell_5 : decode cX6_tell 5 = .ok (.ifCond .eq 14, 3) := by decide +kernel
theorem dX6_tell_8 : decode cX6_tell 8 = .ok (.iload_n 2, 1) := by decide +kernel
theorem dX6_tell_9 : decode cX6_tell 9 = .ok (.iload_n 1, 1) := by decide +kernel
theorem dX6_tell_10 : decode cX6_tell 10 = .ok (.invokestatic 165, 3) := by decide +kernel
theorem dX6_tell_13 : decode cX6_tell 13 = .ok (.invokestatic 55, 3) := by decide +kernel
theorem dX6_tell_16 : decode cX6_tell 16 = .ok (.ifCond .ne 10, 3) := by decide +kernel
theorem dX6_tell_19 : decode cX6_tell 19 = .ok (.aload_n 0, 1) := by decide +kernel
theorem dX6_tell_20 : decode cX6_tell 20 = .ok (.bipush (-2), 2) := by decide +kernel
theorem dX6_tell_22 : decode cX6_tell 22 = .ok (.invokevirtual 59, 3) := by decide +kernel
theorem dX6_tell_25 : decode cX6_tell 25 = .ok (.ireturn, 1) := by decide +kernel
theorem dX6_tell_26 : decode cX6_tell 26 = .ok (.aload_n 0, 1) := by decide +kernel
theorem dX6_tell_27 : decode cX6_tell 27 = .ok (.getfield 10, 3) := by decide +kernel
theorem dX6_tell_30 : decode cX6_tell 30 = .ok (.iload_n 1, 1) := by decide +kernel
theorem dX6_tell_31 : decode cX6_tell 31 = .ok (.invokevirtual 168, 3) := by decide +kernel
theorem dX6_tell_34 : decode cX6_tell 34 = .ok (.istore_n 3, 1) := by decide +kernel
theorem dX6_tell_35 : decode cX6_tell 35 = .ok (.aload_n 0, 1) := by decide +kernel
theorem dX6_tell_36 : decode cX6_tell 36 = .ok (.getfield 10, 3) := by decide +kernel
theorem dX6_tell_39 : decode cX6_tell 39 = .ok (.iload_n 1, 1) := by decide +kernel
theorem dX6_tell_40 : decode cX6_tell 40 = .ok (.iload_n 2, 1) := by decide +kernel
theorem dX6_tell_41 : decode cX6_tell 41 = .ok (.invokevirtual 171, 3) := by decide +kernel
theorem dX6_tell_44 : decode cX6_tell 44 = .ok (.iload_n 3, 1) := by decide +kernel
theorem dX6_tell_45 : decode cX6_tell 45 = .ok (.ireturn, 1) := by decide +kernel
theorem dX6_feed_0 : decode cX6_feed 0 = .ok (.iload_n 1, 1) := by decide +kernel
theorem dX6_feed_1 : decode cX6_feed 1 = .ok (.sipush 255, 3) := by decide +kernel
theorem dX6_feed_4 : decode cX6_feed 4 = .ok (.invokestatic 55, 3) := by decide +kernel
theorem dX6_feed_7 : decode cX6_feed 7 = .ok (.ifCond .ne 10, 3) := by decide +kernel
theorem dX6_feed_10 : decode cX6_feed 10 = .ok (.aload_n 0, 1) := by decide +kernel
theorem dX6_feed_11 : decode cX6_feed 11 = .ok (.bipush (-2), 2) := by decide +kernel
theorem dX6_feed_13 : decode cX6_feed 13 = .ok (.invokevirtual 59, 3) := by decide +kernel
theorem dX6_feed_16 : decode cX6_feed 16 = .ok (.ireturn, 1) := by decide +kernel
theorem dX6_feed_17 : decode cX6_feed 17 = .ok (.aload_n 0, 1) := by decide +kernel
theorem dX6_feed_18 : decode cX6_feed 18 = .ok (.getfield 32, 3) := by decide +kernel
theorem dX6_feed_21 : decode cX6_feed 21 = .ok (.invokevirtual 174, 3) := by decide +kernel
theorem dX6_feed_24 : decode cX6_feed 24 = .ok (.ifCond .ne 10, 3) := by decide +kernel
theorem dX6_feed_27 : decode cX6_feed 27 = .ok (.aload_n 0, 1) := by decide +kernel
theorem dX6_feed_28 : decode cX6_feed 28 = .ok (.bipush (-6), 2) := by decide +kernel
theorem dX6_feed_30 : decode cX6_feed 30 = .ok (.invokevirtual 59, 3) := by decide +kernel
theorem dX6_feed_33 : decode cX6_feed 33 = .ok (.ireturn, 1) := by decide +kernel
theorem dX6_feed_34 : decode cX6_feed 34 = .ok (.aload_n 0, 1) := by decide +kernel
theorem dX6_feed_35 : decode cX6_feed 35 = .ok (.getfield 32, 3) := by decide +kernel
theorem dX6_feed_38 : decode cX6_feed 38 = .ok (.iload_n 1, 1) := by decide +kernel
theorem dX6_feed_39 : decode cX6_feed 39 = .ok (.invokevirtual 175, 3) := by decide +kernel
theorem dX6_feed_42 : decode cX6_feed 42 = .ok (.ireturn, 1) := by decide +kernel
theorem dX6_wipe_0 : decode cX6_wipe 0 = .ok (.aload_n 0, 1) := by decide +kernel
theorem dX6_wipe_1 : decode cX6_wipe 1 = .ok (.getfield 32, 3) := by decide +kernel
theorem dX6_wipe_4 : decode cX6_wipe 4 = .ok (.invokevirtual 178, 3) := by decide +kernel
theorem dX6_wipe_7 : decode cX6_wipe 7 = .ok (.ireturn, 1) := by decide +kernel
theorem dX6_tower_0 : decode cX6_tower 0 = .ok (.aload_n 0, 1) := by decide +kernel
theorem dX6_tower_1 : decode cX6_tower 1 = .ok (.getfield 19, 3) := by decide +kernel
theorem dX6_tower_4 : decode cX6_tower 4 = .ok (.aload_n 0, 1) := by decide +kernel
theorem dX6_tower_5 : decode cX6_tower 5 = .ok (.getfield 10, 3) := by decide +kernel
theorem dX6_tower_8 : decode cX6_tower 8 = .ok (.invokevirtual 182, 3) := by decide +kernel
theorem dX6_tower_11 : decode cX6_tower 11 = .ok (.aload_n 0, 1) := by decide +kernel
theorem dX6_tower_12 : decode cX6_tower 12 = .ok (.getfield 39, 3) := by decide +kernel
theorem dX6_tower_15 : decode cX6_tower 15 = .ok (.aload_n 0, 1) := by decide +kernel
theorem dX6_tower_16 : decode cX6_tower 16 = .ok (.getfield 32, 3) := by decide +kernel
theorem dX6_tower_19 : decode cX6_tower 19 = .ok (.aload_n 0, 1) := by decide +kernel
theorem dX6_tower_20 : decode cX6_tower 20 = .ok (.getfield 19, 3) := by decide +kernel
theorem dX6_tower_23 : decode cX6_tower 23 = .ok (.invokevirtual 186, 3) := by decide +kernel
theorem dX6_tower_26 : decode cX6_tower 26 = .ok (.istore_n 1, 1) := by decide +kernel
theorem dX6_tower_27 : decode cX6_tower 27 = .ok (.aload_n 0, 1) := by decide +kernel
theorem dX6_tower_28 : decode cX6_tower 28 = .ok (.getfield 32, 3) := by decide +kernel
theorem dX6_tower_31 : decode cX6_tower 31 = .ok (.invokevirtual 178, 3) := by decide +kernel
theorem dX6_tower_34 : decode cX6_tower 34 = .ok (.pop, 1) := by decide +kernel
theorem dX6_tower_35 : decode cX6_tower 35 = .ok (.aload_n 0, 1) := by decide +kernel
theorem dX6_tower_36 : decode cX6_tower 36 = .ok (.getfield 39, 3) := by decide +kernel
theorem dX6_tower_39 : decode cX6_tower 39 = .ok (.getfield 190, 3) := by decide +kernel
theorem dX6_tower_42 : decode cX6_tower 42 = .ok (.iconst (-1), 1) := by decide +kernel
theorem dX6_tower_43 : decode cX6_tower 43 = .ok (.if_icmp .eq 21, 3) := by decide +kernel
theorem dX6_tower_46 : decode cX6_tower 46 = .ok (.aload_n 0, 1) := by decide +kernel
theorem dX6_tower_47 : decode cX6_tower 47 = .ok (.bipush (-2), 2) := by decide +kernel
theorem dX6_tower_49 : decode cX6_tower 49 = .ok (.invokevirtual 59, 3) := by decide +kernel
theorem dX6_tower_52 : decode cX6_tower 52 = .ok (.pop, 1) := by decide +kernel
theorem dX6_tower_53 : decode cX6_tower 53 = .ok (.bipush (-20), 2) := by decide +kernel
theorem dX6_tower_55 : decode cX6_tower 55 = .ok (.aload_n 0, 1) := by decide +kernel
theorem dX6_tower_56 : decode cX6_tower 56 = .ok (.getfield 39, 3) := by decide +kernel
theorem dX6_tower_59 : decode cX6_tower 59 = .ok (.getfield 190, 3) := by decide +kernel
theorem dX6_tower_62 : decode cX6_tower 62 = .ok (.isub, 1) := by decide +kernel
theorem dX6_tower_63 : decode cX6_tower 63 = .ok (.ireturn, 1) := by decide +kernel
theorem dX6_tower_64 : decode cX6_tower 64 = .ok (.aload_n 0, 1) := by decide +kernel
theorem dX6_tower_65 : decode cX6_tower 65 = .ok (.getfield 10, 3) := by decide +kernel
theorem dX6_tower_68 : decode cX6_tower 68 = .ok (.aload_n 0, 1) := by decide +kernel
theorem dX6_tower_69 : decode cX6_tower 69 = .ok (.getfield 19, 3) := by decide +kernel
theorem dX6_tower_72 : decode cX6_tower 72 = .ok (.invokevirtual 182, 3) := by decide +kernel
theorem dX6_tower_75 : decode cX6_tower 75 = .ok (.iload_n 1, 1) := by decide +kernel
theorem dX6_tower_76 : decode cX6_tower 76 = .ok (.ireturn, 1) := by decide +kernel
theorem dX6_thingOf_0 : decode cX6_thingOf 0 = .ok (.aload_n 0, 1) := by decide +kernel
theorem dX6_thingOf_1 : decode cX6_thingOf 1 = .ok (.getfield 10, 3) := by decide +kernel
theorem dX6_thingOf_4 : decode cX6_thingOf 4 = .ok (.iload_n 1, 1) := by decide +kernel
theorem dX6_thingOf_5 : decode cX6_thingOf 5 = .ok (.invokevirtual 146, 3) := by decide +kernel
theorem dX6_thingOf_8 : decode cX6_thingOf 8 = .ok (.ifCond .eq 12, 3) := by decide +kernel
theorem dX6_thingOf_11 : decode cX6_thingOf 11 = .ok (.iload_n 2, 1) := by decide +kernel
theorem dX6_thingOf_12 : decode cX6_thingOf 12 = .ok (.bipush 7, 2) := by decide +kernel
theorem dX6_thingOf_14 : decode cX6_thingOf 14 = .ok (.invokestatic 55, 3) := by decide +kernel
theorem dX6_thingOf_17 : decode cX6_thingOf 17 = .ok (.ifCond .ne 10, 3) := by decide +kernel
theorem dX6_thingOf_20 : decode cX6_thingOf 20 = .ok (.aload_n 0, 1) := by decide +kernel
theorem dX6_thingOf_21 : decode cX6_thingOf 21 = .ok (.bipush (-2), 2) := by decide +kernel
theorem dX6_thingOf_23 : decode cX6_thingOf 23 = .ok (.invokevirtual 59, 3) := by decide +kernel
theorem dX6_thingOf_26 : decode cX6_thingOf 26 = .ok (.ireturn, 1) := by decide +kernel
theorem dX6_thingOf_27 : decode cX6_thingOf 27 = .ok (.aload_n 0, 1) := by decide +kernel
theorem dX6_thingOf_28 : decode cX6_thingOf 28 = .ok (.getfield 10, 3) := by decide +kernel
theorem dX6_thingOf_31 : decode cX6_thingOf 31 = .ok (.iload_n 1, 1) := by decide +kernel
theorem dX6_thingOf_32 : decode cX6_thingOf 32 = .ok (.iload_n 2, 1) := by decide +kernel
theorem dX6_thingOf_33 : decode cX6_thingOf 33 = .ok (.invokevirtual 159, 3) := by decide +kernel
theorem dX6_thingOf_36 : decode cX6_thingOf 36 = .ok (.ireturn, 1) := by decide +kernel
theorem dX6_ringerOf_0 : decode cX6_ringerOf 0 = .ok (.aload_n 0, 1) := by decide +kernel
theorem dX6_ringerOf_1 : decode cX6_ringerOf 1 = .ok (.getfield 10, 3) := by decide +kernel
theorem dX6_ringerOf_4 : decode cX6_ringerOf 4 = .ok (.getfield 98, 3) := by decide +kernel
theorem dX6_ringerOf_7 : decode cX6_ringerOf 7 = .ok (.iload_n 1, 1) := by decide +kernel
theorem dX6_ringerOf_8 : decode cX6_ringerOf 8 = .ok (.invokevirtual 102, 3) := by decide +kernel
theorem dX6_ringerOf_11 : decode cX6_ringerOf 11 = .ok (.ifCond .eq 11, 3) := by decide +kernel
theorem dX6_ringerOf_14 : decode cX6_ringerOf 14 = .ok (.iload_n 2, 1) := by decide +kernel
theorem dX6_ringerOf_15 : decode cX6_ringerOf 15 = .ok (.iconst 3, 1) := by decide +kernel
theorem dX6_ringerOf_16 : decode cX6_ringerOf 16 = .ok (.invokestatic 55, 3) := by decide +kernel
theorem dX6_ringerOf_19 : decode cX6_ringerOf 19 = .ok (.ifCond .ne 10, 3) := by decide +kernel
theorem dX6_ringerOf_22 : decode cX6_ringerOf 22 = .ok (.aload_n 0, 1) := by decide +kernel
theorem dX6_ringerOf_23 : decode cX6_ringerOf 23 = .ok (.bipush (-2), 2) := by decide +kernel
theorem dX6_ringerOf_25 : decode cX6_ringerOf 25 = .ok (.invokevirtual 59, 3) := by decide +kernel
theorem dX6_ringerOf_28 : decode cX6_ringerOf 28 = .ok (.ireturn, 1) := by decide +kernel
theorem dX6_ringerOf_29 : decode cX6_ringerOf 29 = .ok (.iload_n 2, 1) := by decide +kernel
theorem dX6_ringerOf_30 : decode cX6_ringerOf 30 = .ok (.tableswitch 62 0 2 #[26, 38, 50], 26) := by decide +kernel
theorem dX6_ringerOf_56 : decode cX6_ringerOf 56 = .ok (.aload_n 0, 1) := by decide +kernel
theorem dX6_ringerOf_57 : decode cX6_ringerOf 57 = .ok (.getfield 10, 3) := by decide +kernel
theorem dX6_ringerOf_60 : decode cX6_ringerOf 60 = .ok (.getfield 98, 3) := by decide +kernel
theorem dX6_ringerOf_63 : decode cX6_ringerOf 63 = .ok (.iload_n 1, 1) := by decide +kernel
theorem dX6_ringerOf_64 : decode cX6_ringerOf 64 = .ok (.invokevirtual 114, 3) := by decide +kernel
theorem dX6_ringerOf_67 : decode cX6_ringerOf 67 = .ok (.ireturn, 1) := by decide +kernel
theorem dX6_ringerOf_68 : decode cX6_ringerOf 68 = .ok (.aload_n 0, 1) := by decide +kernel
theorem dX6_ringerOf_69 : decode cX6_ringerOf 69 = .ok (.getfield 10, 3) := by decide +kernel
theorem dX6_ringerOf_72 : decode cX6_ringerOf 72 = .ok (.getfield 98, 3) := by decide +kernel
theorem dX6_ringerOf_75 : decode cX6_ringerOf 75 = .ok (.iload_n 1, 1) := by decide +kernel
theorem dX6_ringerOf_76 : decode cX6_ringerOf 76 = .ok (.invokevirtual 193, 3) := by decide +kernel
theorem dX6_ringerOf_79 : decode cX6_ringerOf 79 = .ok (.ireturn, 1) := by decide +kernel
theorem dX6_ringerOf_80 : decode cX6_ringerOf 80 = .ok (.aload_n 0, 1) := by decide +kernel
theorem dX6_ringerOf_81 : decode cX6_ringerOf 81 = .ok (.getfield 10, 3) := by decide +kernel
theorem dX6_ringerOf_84 : decode cX6_ringerOf 84 = .ok (.getfield 98, 3) := by decide +kernel
theorem dX6_ringerOf_87 : decode cX6_ringerOf 87 = .ok (.iload_n 1, 1) := by decide +kernel
theorem dX6_ringerOf_88 : decode cX6_ringerOf 88 = .ok (.invokevirtual 120, 3) := by decide +kernel
theorem dX6_ringerOf_91 : decode cX6_ringerOf 91 = .ok (.ireturn, 1) := by decide +kernel
theorem dX6_ringerOf_92 : decode cX6_ringerOf 92 = .ok (.aload_n 0, 1) := by decide +kernel
theorem dX6_ringerOf_93 : decode cX6_ringerOf 93 = .ok (.getfield 10, 3) := by decide +kernel
theorem dX6_ringerOf_96 : decode cX6_ringerOf 96 = .ok (.getfield 98, 3) := by decide +kernel
theorem dX6_ringerOf_99 : decode cX6_ringerOf 99 = .ok (.iload_n 1, 1) := by decide +kernel
theorem dX6_ringerOf_100 : decode cX6_ringerOf 100 = .ok (.aload_n 0, 1) := by decide +kernel
theorem dX6_ringerOf_101 : decode cX6_ringerOf 101 = .ok (.getfield 10, 3) := by decide +kernel
theorem dX6_ringerOf_104 : decode cX6_ringerOf 104 = .ok (.getfield 123, 3) := by decide +kernel
theorem dX6_ringerOf_107 : decode cX6_ringerOf 107 = .ok (.invokevirtual 127, 3) := by decide +kernel
theorem dX6_ringerOf_110 : decode cX6_ringerOf 110 = .ok (.ireturn, 1) := by decide +kernel
theorem dX6_well_0 : decode cX6_well 0 = .ok (.aload_n 0, 1) := by decide +kernel
theorem dX6_well_1 : decode cX6_well 1 = .ok (.getfield 10, 3) := by decide +kernel
theorem dX6_well_4 : decode cX6_well 4 = .ok (.getfield 98, 3) := by decide +kernel
theorem dX6_well_7 : decode cX6_well 7 = .ok (.iload_n 1, 1) := by decide +kernel
theorem dX6_well_8 : decode cX6_well 8 = .ok (.invokevirtual 196, 3) := by decide +kernel
theorem dX6_well_11 : decode cX6_well 11 = .ok (.ifCond .ne 10, 3) := by decide +kernel
theorem dX6_well_14 : decode cX6_well 14 = .ok (.aload_n 0, 1) := by decide +kernel
theorem dX6_well_15 : decode cX6_well 15 = .ok (.bipush (-2), 2) := by decide +kernel
theorem dX6_well_17 : decode cX6_well 17 = .ok (.invokevirtual 59, 3) := by decide +kernel
theorem dX6_well_20 : decode cX6_well 20 = .ok (.ireturn, 1) := by decide +kernel
theorem dX6_well_21 : decode cX6_well 21 = .ok (.aload_n 0, 1) := by decide +kernel
theorem dX6_well_22 : decode cX6_well 22 = .ok (.getfield 10, 3) := by decide +kernel
theorem dX6_well_25 : decode cX6_well 25 = .ok (.getfield 98, 3) := by decide +kernel
theorem dX6_well_28 : decode cX6_well 28 = .ok (.iload_n 1, 1) := by decide +kernel
theorem dX6_well_29 : decode cX6_well 29 = .ok (.aload_n 0, 1) := by decide +kernel
theorem dX6_well_30 : decode cX6_well 30 = .ok (.getfield 10, 3) := by decide +kernel
theorem dX6_well_33 : decode cX6_well 33 = .ok (.getfield 123, 3) := by decide +kernel
theorem dX6_well_36 : decode cX6_well 36 = .ok (.invokevirtual 199, 3) := by decide +kernel
theorem dX6_well_39 : decode cX6_well 39 = .ok (.ireturn, 1) := by decide +kernel
theorem dX6_all_0 : decode cX6_all 0 = .ok (.iload_n 1, 1) := by decide +kernel
theorem dX6_all_1 : decode cX6_all 1 = .ok (.tableswitch 84 0 4 #[35, 50, 58, 66, 75], 35) := by decide +kernel
theorem dX6_all_36 : decode cX6_all 36 = .ok (.aload_n 0, 1) := by decide +kernel
theorem dX6_all_37 : decode cX6_all 37 = .ok (.getfield 10, 3) := by decide +kernel
theorem dX6_all_40 : decode cX6_all 40 = .ok (.aload_n 0, 1) := by decide +kernel
theorem dX6_all_41 : decode cX6_all 41 = .ok (.getfield 10, 3) := by decide +kernel
theorem dX6_all_44 : decode cX6_all 44 = .ok (.getfield 202, 3) := by decide +kernel
theorem dX6_all_47 : decode cX6_all 47 = .ok (.invokevirtual 205, 3) := by decide +kernel
theorem dX6_all_50 : decode cX6_all 50 = .ok (.ireturn, 1) := by decide +kernel
theorem dX6_all_51 : decode cX6_all 51 = .ok (.aload_n 0, 1) := by decide +kernel
theorem dX6_all_52 : decode cX6_all 52 = .ok (.getfield 10, 3) := by decide +kernel
theorem dX6_all_55 : decode cX6_all 55 = .ok (.invokevirtual 208, 3) := by decide +kernel
theorem dX6_all_58 : decode cX6_all 58 = .ok (.ireturn, 1) := by decide +kernel
theorem dX6_all_59 : decode cX6_all 59 = .ok (.aload_n 0, 1) := by decide +kernel
theorem dX6_all_60 : decode cX6_all 60 = .ok (.getfield 10, 3) := by decide +kernel
theorem dX6_all_63 : decode cX6_all 63 = .ok (.getfield 202, 3) := by decide +kernel
theorem dX6_all_66 : decode cX6_all 66 = .ok (.ireturn, 1) := by decide +kernel
theorem dX6_all_67 : decode cX6_all 67 = .ok (.aload_n 0, 1) := by decide +kernel
theorem dX6_all_68 : decode cX6_all 68 = .ok (.getfield 10, 3) := by decide +kernel
theorem dX6_all_71 : decode cX6_all 71 = .ok (.iconst 1, 1) := by decide +kernel
theorem dX6_all_72 : decode cX6_all 72 = .ok (.invokevirtual 211, 3) := by decide +kernel
theorem dX6_all_75 : decode cX6_all 75 = .ok (.ireturn, 1) := by decide +kernel
theorem dX6_all_76 : decode cX6_all 76 = .ok (.aload_n 0, 1) := by decide +kernel
theorem dX6_all_77 : decode cX6_all 77 = .ok (.getfield 10, 3) := by decide +kernel
theorem dX6_all_80 : decode cX6_all 80 = .ok (.iconst 2, 1) := by decide +kernel
theorem dX6_all_81 : decode cX6_all 81 = .ok (.invokevirtual 211, 3) := by decide +kernel
theorem dX6_all_84 : decode cX6_all 84 = .ok (.ireturn, 1) := by decide +kernel
theorem dX6_all_85 : decode cX6_all 85 = .ok (.aload_n 0, 1) := by decide +kernel
theorem dX6_all_86 : decode cX6_all 86 = .ok (.bipush (-2), 2) := by decide +kernel
theorem dX6_all_88 : decode cX6_all 88 = .ok (.invokevirtual 59, 3) := by decide +kernel
theorem dX6_all_91 : decode cX6_all 91 = .ok (.ireturn, 1) := by decide +kernel
theorem dX6_off_0 : decode cX6_off 0 = .ok (.aload_n 0, 1) := by decide +kernel
theorem dX6_off_1 : decode cX6_off 1 = .ok (.getfield 10, 3) := by decide +kernel
theorem dX6_off_4 : decode cX6_off 4 = .ok (.iload_n 1, 1) := by decide +kernel
theorem dX6_off_5 : decode cX6_off 5 = .ok (.invokevirtual 146, 3) := by decide +kernel
theorem dX6_off_8 : decode cX6_off 8 = .ok (.ifCond .eq 14, 3) := by decide +kernel
theorem dX6_off_11 : decode cX6_off 11 = .ok (.aload_n 0, 1) := by decide +kernel
theorem dX6_off_12 : decode cX6_off 12 = .ok (.getfield 10, 3) := by decide +kernel
theorem dX6_off_15 : decode cX6_off 15 = .ok (.iload_n 1, 1) := by decide +kernel
theorem dX6_off_16 : decode cX6_off 16 = .ok (.invokevirtual 214, 3) := by decide +kernel
theorem dX6_off_19 : decode cX6_off 19 = .ok (.goto 9, 3) := by decide +kernel
theorem dX6_off_22 : decode cX6_off 22 = .ok (.aload_n 0, 1) := by decide +kernel
theorem dX6_off_23 : decode cX6_off 23 = .ok (.bipush (-2), 2) := by decide +kernel
theorem dX6_off_25 : decode cX6_off 25 = .ok (.invokevirtual 59, 3) := by decide +kernel
theorem dX6_off_28 : decode cX6_off 28 = .ok (.ireturn, 1) := by decide +kernel
theorem dX6_down_0 : decode cX6_down 0 = .ok (.aload_n 0, 1) := by decide +kernel
theorem dX6_down_1 : decode cX6_down 1 = .ok (.getfield 10, 3) := by decide +kernel
theorem dX6_down_4 : decode cX6_down 4 = .ok (.iload_n 1, 1) := by decide +kernel
theorem dX6_down_5 : decode cX6_down 5 = .ok (.invokevirtual 146, 3) := by decide +kernel
theorem dX6_down_8 : decode cX6_down 8 = .ok (.ifCond .eq 14, 3) := by decide +kernel
theorem dX6_down_11 : decode cX6_down 11 = .ok (.aload_n 0, 1) := by decide +kernel
theorem dX6_down_12 : decode cX6_down 12 = .ok (.getfield 10, 3) := by decide +kernel
theorem dX6_down_15 : decode cX6_down 15 = .ok (.iload_n 1, 1) := by decide +kernel
theorem dX6_down_16 : decode cX6_down 16 = .ok (.invokevirtual 217, 3) := by decide +kernel
theorem dX6_down_19 : decode cX6_down 19 = .ok (.goto 9, 3) := by decide +kernel
theorem dX6_down_22 : decode cX6_down 22 = .ok (.aload_n 0, 1) := by decide +kernel
theorem dX6_down_23 : decode cX6_down 23 = .ok (.bipush (-2), 2) := by decide +kernel
theorem dX6_down_25 : decode cX6_down 25 = .ok (.invokevirtual 59, 3) := by decide +kernel
theorem dX6_down_28 : decode cX6_down 28 = .ok (.ireturn, 1) := by decide +kernel
theorem dX6_up_0 : decode cX6_up 0 = .ok (.aload_n 0, 1) := by decide +kernel
theorem dX6_up_1 : decode cX6_up 1 = .ok (.getfield 10, 3) := by decide +kernel
theorem dX6_up_4 : decode cX6_up 4 = .ok (.iload_n 1, 1) := by decide +kernel
theorem dX6_up_5 : decode cX6_up 5 = .ok (.invokevirtual 146, 3) := by decide +kernel
theorem dX6_up_8 : decode cX6_up 8 = .ok (.ifCond .eq 14, 3) := by decide +kernel
theorem dX6_up_11 : decode cX6_up 11 = .ok (.aload_n 0, 1) := by decide +kernel
theorem dX6_up_12 : decode cX6_up 12 = .ok (.getfield 10, 3) := by decide +kernel
theorem dX6_up_15 : decode cX6_up 15 = .ok (.iload_n 1, 1) := by decide +kernel
theorem dX6_up_16 : decode cX6_up 16 = .ok (.invokevirtual 220, 3) := by decide +kernel
theorem dX6_up_19 : decode cX6_up 19 = .ok (.goto 9, 3) := by decide +kernel
theorem dX6_up_22 : decode cX6_up 22 = .ok (.aload_n 0, 1) := by decide +kernel
theorem dX6_up_23 : decode cX6_up 23 = .ok (.bipush (-2), 2) := by decide +kernel
theorem dX6_up_25 : decode cX6_up 25 = .ok (.invokevirtual 59, 3) := by decide +kernel
theorem dX6_up_28 : decode cX6_up 28 = .ok (.ireturn, 1) := by decide +kernel
theorem dX6_to_0 : decode cX6_to 0 = .ok (.aload_n 0, 1) := by decide +kernel
theorem dX6_to_1 : decode cX6_to 1 = .ok (.getfield 10, 3) := by decide +kernel
theorem dX6_to_4 : decode cX6_to 4 = .ok (.iload_n 1, 1) := by decide +kernel
theorem dX6_to_5 : decode cX6_to 5 = .ok (.invokevirtual 223, 3) := by decide +kernel
theorem dX6_to_8 : decode cX6_to 8 = .ok (.ifCond .eq 14, 3) := by decide +kernel
theorem dX6_to_11 : decode cX6_to 11 = .ok (.aload_n 0, 1) := by decide +kernel
theorem dX6_to_12 : decode cX6_to 12 = .ok (.getfield 10, 3) := by decide +kernel
theorem dX6_to_15 : decode cX6_to 15 = .ok (.iload_n 1, 1) := by decide +kernel
theorem dX6_to_16 : decode cX6_to 16 = .ok (.invokestatic 226, 3) := by decide +kernel
theorem dX6_to_19 : decode cX6_to 19 = .ok (.goto 9, 3) := by decide +kernel
theorem dX6_to_22 : decode cX6_to 22 = .ok (.aload_n 0, 1) := by decide +kernel
theorem dX6_to_23 : decode cX6_to 23 = .ok (.bipush (-2), 2) := by decide +kernel
theorem dX6_to_25 : decode cX6_to 25 = .ok (.invokevirtual 59, 3) := by decide +kernel
theorem dX6_to_28 : decode cX6_to 28 = .ok (.ireturn, 1) := by decide +kernel
theorem dX6_unsay_0 : decode cX6_unsay 0 = .ok (.aload_n 0, 1) := by decide +kernel
theorem dX6_unsay_1 : decode cX6_unsay 1 = .ok (.getfield 10, 3) := by decide +kernel
theorem dX6_unsay_4 : decode cX6_unsay 4 = .ok (.iload_n 1, 1) := by decide +kernel
theorem dX6_unsay_5 : decode cX6_unsay 5 = .ok (.invokevirtual 223, 3) := by decide +kernel
theorem dX6_unsay_8 : decode cX6_unsay 8 = .ok (.ifCond .eq 14, 3) := by decide +kernel
theorem dX6_unsay_11 : decode cX6_unsay 11 = .ok (.aload_n 0, 1) := by decide +kernel
theorem dX6_unsay_12 : decode cX6_unsay 12 = .ok (.getfield 10, 3) := by decide +kernel
theorem dX6_unsay_15 : decode cX6_unsay 15 = .ok (.iload_n 1, 1) := by decide +kernel
theorem dX6_unsay_16 : decode cX6_unsay 16 = .ok (.invokestatic 232, 3) := by decide +kernel
theorem dX6_unsay_19 : decode cX6_unsay 19 = .ok (.goto 9, 3) := by decide +kernel
theorem dX6_unsay_22 : decode cX6_unsay 22 = .ok (.aload_n 0, 1) := by decide +kernel
theorem dX6_unsay_23 : decode cX6_unsay 23 = .ok (.bipush (-2), 2) := by decide +kernel
theorem dX6_unsay_25 : decode cX6_unsay 25 = .ok (.invokevirtual 59, 3) := by decide +kernel
theorem dX6_unsay_28 : decode cX6_unsay 28 = .ok (.ireturn, 1) := by decide +kernel
theorem dX6_until_0 : decode cX6_until 0 = .ok (.aload_n 0, 1) := by decide +kernel
theorem dX6_until_1 : decode cX6_until 1 = .ok (.getfield 10, 3) := by decide +kernel
theorem dX6_until_4 : decode cX6_until 4 = .ok (.iload_n 1, 1) := by decide +kernel
theorem dX6_until_5 : decode cX6_until 5 = .ok (.invokevirtual 223, 3) := by decide +kernel
theorem dX6_until_8 : decode cX6_until 8 = .ok (.ifCond .eq 14, 3) := by decide +kernel
theorem dX6_until_11 : decode cX6_until 11 = .ok (.aload_n 0, 1) := by decide +kernel
theorem dX6_until_12 : decode cX6_until 12 = .ok (.getfield 10, 3) := by decide +kernel
theorem dX6_until_15 : decode cX6_until 15 = .ok (.iload_n 1, 1) := by decide +kernel
theorem dX6_until_16 : decode cX6_until 16 = .ok (.invokevirtual 235, 3) := by decide +kernel
theorem dX6_until_19 : decode cX6_until 19 = .ok (.goto 9, 3) := by decide +kernel
theorem dX6_until_22 : decode cX6_until 22 = .ok (.aload_n 0, 1) := by decide +kernel
theorem dX6_until_23 : decode cX6_until 23 = .ok (.bipush (-2), 2) := by decide +kernel
theorem dX6_until_25 : decode cX6_until 25 = .ok (.invokevirtual 59, 3) := by decide +kernel
theorem dX6_until_28 : decode cX6_until 28 = .ok (.ireturn, 1) := by decide +kernel
theorem dX6_slipped_0 : decode cX6_slipped 0 = .ok (.aload_n 0, 1) := by decide +kernel
theorem dX6_slipped_1 : decode cX6_slipped 1 = .ok (.getfield 10, 3) := by decide +kernel
theorem dX6_slipped_4 : decode cX6_slipped 4 = .ok (.iload_n 1, 1) := by decide +kernel
theorem dX6_slipped_5 : decode cX6_slipped 5 = .ok (.invokevirtual 146, 3) := by decide +kernel
theorem dX6_slipped_8 : decode cX6_slipped 8 = .ok (.ifCond .eq 14, 3) := by decide +kernel
theorem dX6_slipped_11 : decode cX6_slipped 11 = .ok (.iload_n 2, 1) := by decide +kernel
theorem dX6_slipped_12 : decode cX6_slipped 12 = .ok (.iconst 1, 1) := by decide +kernel
theorem dX6_slipped_13 : decode cX6_slipped 13 = .ok (.if_icmp .lt 9, 3) := by decide +kernel
theorem dX6_slipped_16 : decode cX6_slipped 16 = .ok (.iload_n 2, 1) := by decide +kernel
theorem dX6_slipped_17 : decode cX6_slipped 17 = .ok (.bipush 9, 2) := by decide +kernel
theorem dX6_slipped_19 : decode cX6_slipped 19 = .ok (.if_icmp .le 10, 3) := by decide +kernel
theorem dX6_slipped_22 : decode cX6_slipped 22 = .ok (.aload_n 0, 1) := by decide +kernel
theorem dX6_slipped_23 : decode cX6_slipped 23 = .ok (.bipush (-2), 2) := by decide +kernel
theorem dX6_slipped_25 : decode cX6_slipped 25 = .ok (.invokevirtual 59, 3) := by decide +kernel
theorem dX6_slipped_28 : decode cX6_slipped 28 = .ok (.ireturn, 1) := by decide +kernel
theorem dX6_slipped_29 : decode cX6_slipped 29 = .ok (.aload_n 0, 1) := by decide +kernel
theorem dX6_slipped_30 : decode cX6_slipped 30 = .ok (.getfield 10, 3) := by decide +kernel
theorem dX6_slipped_33 : decode cX6_slipped 33 = .ok (.aload_n 0, 1) := by decide +kernel
theorem dX6_slipped_34 : decode cX6_slipped 34 = .ok (.getfield 10, 3) := by decide +kernel
theorem dX6_slipped_37 : decode cX6_slipped 37 = .ok (.iload_n 1, 1) := by decide +kernel
theorem dX6_slipped_38 : decode cX6_slipped 38 = .ok (.iload_n 2, 1) := by decide +kernel
theorem dX6_slipped_39 : decode cX6_slipped 39 = .ok (.invokevirtual 238, 3) := by decide +kernel
theorem dX6_slipped_42 : decode cX6_slipped 42 = .ok (.invokevirtual 214, 3) := by decide +kernel
theorem dX6_slipped_45 : decode cX6_slipped 45 = .ok (.ireturn, 1) := by decide +kernel
theorem dX6_whose_0 : decode cX6_whose 0 = .ok (.iload_n 1, 1) := by decide +kernel
theorem dX6_whose_1 : decode cX6_whose 1 = .ok (.bipush 99, 2) := by decide +kernel
theorem dX6_whose_3 : decode cX6_whose 3 = .ok (.invokestatic 55, 3) := by decide +kernel
theorem dX6_whose_6 : decode cX6_whose 6 = .ok (.ifCond .eq 24, 3) := by decide +kernel
theorem dX6_whose_9 : decode cX6_whose 9 = .ok (.aload_n 0, 1) := by decide +kernel
theorem dX6_whose_10 : decode cX6_whose 10 = .ok (.getfield 10, 3) := by decide +kernel
theorem dX6_whose_13 : decode cX6_whose 13 = .ok (.getfield 98, 3) := by decide +kernel
theorem dX6_whose_16 : decode cX6_whose 16 = .ok (.iload_n 1, 1) := by decide +kernel
theorem dX6_whose_17 : decode cX6_whose 17 = .ok (.aload_n 0, 1) := by decide +kernel
theorem dX6_whose_18 : decode cX6_whose 18 = .ok (.getfield 10, 3) := by decide +kernel
theorem dX6_whose_21 : decode cX6_whose 21 = .ok (.getfield 123, 3) := by decide +kernel
theorem dX6_whose_24 : decode cX6_whose 24 = .ok (.invokevirtual 241, 3) := by decide +kernel
theorem dX6_whose_27 : decode cX6_whose 27 = .ok (.goto 9, 3) := by decide +kernel
theorem dX6_whose_30 : decode cX6_whose 30 = .ok (.aload_n 0, 1) := by decide +kernel
theorem dX6_whose_31 : decode cX6_whose 31 = .ok (.bipush (-2), 2) := by decide +kernel
theorem dX6_whose_33 : decode cX6_whose 33 = .ok (.invokevirtual 59, 3) := by decide +kernel
theorem dX6_whose_36 : decode cX6_whose 36 = .ok (.ireturn, 1) := by decide +kernel
theorem dX6_crew_0 : decode cX6_crew 0 = .ok (.iload_n 1, 1) := by decide +kernel
theorem dX6_crew_1 : decode cX6_crew 1 = .ok (.bipush 6, 2) := by decide +kernel
theorem dX6_crew_3 : decode cX6_crew 3 = .ok (.invokestatic 55, 3) := by decide +kernel
theorem dX6_crew_6 : decode cX6_crew 6 = .ok (.ifCond .eq 24, 3) := by decide +kernel
theorem dX6_crew_9 : decode cX6_crew 9 = .ok (.aload_n 0, 1) := by decide +kernel
theorem dX6_crew_10 : decode cX6_crew 10 = .ok (.getfield 10, 3) := by decide +kernel
theorem dX6_crew_13 : decode cX6_crew 13 = .ok (.getfield 98, 3) := by decide +kernel
theorem dX6_crew_16 : decode cX6_crew 16 = .ok (.iload_n 1, 1) := by decide +kernel
theorem dX6_crew_17 : decode cX6_crew 17 = .ok (.aload_n 0, 1) := by decide +kernel
theorem dX6_crew_18 : decode cX6_crew 18 = .ok (.getfield 10, 3) := by decide +kernel
theorem dX6_crew_21 : decode cX6_crew 21 = .ok (.getfield 123, 3) := by decide +kernel
theorem dX6_crew_24 : decode cX6_crew 24 = .ok (.invokevirtual 244, 3) := by decide +kernel
theorem dX6_crew_27 : decode cX6_crew 27 = .ok (.goto 9, 3) := by decide +kernel
theorem dX6_crew_30 : decode cX6_crew 30 = .ok (.aload_n 0, 1) := by decide +kernel
theorem dX6_crew_31 : decode cX6_crew 31 = .ok (.bipush (-2), 2) := by decide +kernel
theorem dX6_crew_33 : decode cX6_crew 33 = .ok (.invokevirtual 59, 3) := by decide +kernel
theorem dX6_crew_36 : decode cX6_crew 36 = .ok (.ireturn, 1) := by decide +kernel
theorem dX6_putBack_0 : decode cX6_putBack 0 = .ok (.aload_n 0, 1) := by decide +kernel
theorem dX6_putBack_1 : decode cX6_putBack 1 = .ok (.getfield 10, 3) := by decide +kernel
theorem dX6_putBack_4 : decode cX6_putBack 4 = .ok (.iload_n 1, 1) := by decide +kernel
